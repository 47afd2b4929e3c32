/-! the calls that try benches: the told ones stay as they are -/
theorem z_RR.tri {T : List zK} {M M1 : zH} {rs : List Nat} (h : z_RR T M) (hW : z_W M T) (hX : z_X T rs M M1) (ho : z_oth T (z_Qt T) M M1) (hr : z_dj z_prA rs = true) (hr2 : (([1003, 10, 32, 33, 34, 35] : List Nat).all fun x => !rs.elem x) = true) (hf : (z_bkf.all fun x => !rs.elem x) = true) : z_RR T M1 :=
  ⟨h.1.ke hW hX.2 (z_djs hr (by decide)), h.2.1.ke hW (fun _ _ h => h) hX.2 (z_djs hr (by decide)) (z_djs hr (by decide)) (z_djs hr (by decide)), h.2.2.tri hW hX.2 hr2 hf ho (fun b q t m hb ⟨q2, t2, m2, h5⟩ => by rw [hb] at h5; cases h5)⟩
theorem zOC106 {T : List zK} {d : Nat} {K : Option Value → zH → Prop} {p1 : Int32} {p2 : Int32} {p3 : Int32} {p4 : Int32} {M0 : zH} (hW : z_W M0 T) (hW0 : z_W M0 T) (hbk : z_blk T M0) (hG : z_GG T M0) (kk : ∀ (x : Int32) (M1 : zH), z_X T zw106 M0 M1 → z_oth T (z_Qt T) M0 M1 → K (some (.int x)) M1) : z_ev (d + 5) 106 0 [some (.ref 4), some (.int p1), some (.int p2), some (.int p3), some (.int p4), none, none] [] M0 K := by
  have X : z_X T zw106 M0 M0 := .refl hW
  refine z_xP zt106 0 2 [some (.ref 4), some (.int p1), some (.int p2), some (.int p3), some (.int p4), none, none] [.int p1, .ref 4] rfl rfl ?_
  have f4 : T[4]? = some (.inl (0, 0, 0, 0, 0)) := X.1.k rfl (by decide)
  refine z_xcV (vs := [.ref 4, .int p1]) (r := []) (L2 := [some (.ref 4), some (.int p1)]) zt106 1 rfl zo106 zzcV0_221 (Or.inl rfl) rfl X f4 rfl rfl rfl (Nat.le_of_ble_eq_true rfl) zzm84 (Nat.le_of_ble_eq_true rfl) rfl ?_
  refine z_xP zt84 0 1 [some (.ref 4), some (.int p1)] [.int p1] rfl rfl ?_
  refine z_xZ zt84 1 rfl rfl (fun (h1 : p1.toInt < 0) => ?_) (fun (h1 : 0 ≤ p1.toInt) => ?_)
  · skip
    refine z_xP zt84 5 22 [some (.ref 4), some (.int p1)] [.null] rfl rfl ?_
    refine z_xrn zt84 10 rfl zzr84 ?_
    show z_ev (d + 5) 106 5 [some (.ref 4), some (.int p1), some (.int p2), some (.int p3), some (.int p4), none, none] [.null] M0 _
    refine z_xP zt106 2 20 [some (.ref 4), some (.int p1), some (.int p2), some (.int p3), some (.int p4), some (.null), none] [] rfl rfl ?_
    refine z_xP zt106 6 21 [some (.ref 4), some (.int p1), some (.int p2), some (.int p3), some (.int p4), some (.null), none] [.int (-1)] rfl rfl ?_
    have qm1 : (((-1) : Int32)).toInt = (-1) := rfl
    exact z_xri zt106 7 rfl zzr106 (kk (-1) M0 X z_oth.refl)
  refine z_xP zt84 2 6 [some (.ref 4), some (.int p1)] [.ref 4, .int p1] rfl rfl ?_
  refine z_xgI zt84 3 rfl zo84 zzf0_188 X f4 (by decide) (by decide) rfl (fun (x3 : Int32) h2 (h4 : 0 ≤ x3.toInt) (h5 : x3.toInt ≤ 20) => ?_)
  have h6 := z_b32 p1
  refine z_xJ zt84 4 rfl rfl (fun (h7 : p1.toInt < x3.toInt) => ?_) (fun (h7 : x3.toInt ≤ p1.toInt) => ?_)
  · skip
    refine z_xP zt84 6 17 [some (.ref 4), some (.int p1)] [.ref 4] rfl rfl ?_
    refine z_xgX (b := 12) zt84 7 rfl zo84 zzf0_27 X f4 (by decide) (by decide) rfl ?_
    refine z_xP zt84 8 21 [some (.ref 4), some (.int p1)] [.int p1, .ref 12] rfl rfl ?_
    have f12 : T[12]? = some (.inr (12, 3, 20, 0, 0)) := X.1.k rfl (by decide)
    refine z_xal zt84 9 rfl X f12 (by decide) (by decide) (by decide) (by omega) (by omega) (fun (a8 : Nat) h9 h10 => ?_) (fun h11 => absurd h11 (z_Gb (hG.go X (by decide)).2.1 h2 (by omega) (by omega)))
    obtain ⟨c12, w13l, w13u, k14⟩ : ∃ ci, 4 ≤ ci ∧ ci ≤ 11 ∧ T[a8]? = some (.inl (ci, 0, 0, 0, 0)) := h10
    have w13 := And.intro w13l w13u
    refine z_xra zt84 10 rfl zzr84 ?_
    show z_ev (d + 5) 106 5 [some (.ref 4), some (.int p1), some (.int p2), some (.int p3), some (.int p4), none, none] [.ref a8] M0 _
    refine z_xP zt106 2 12 [some (.ref 4), some (.int p1), some (.int p2), some (.int p3), some (.int p4), some (.ref a8), none] [] rfl rfl ?_
    refine z_xP zt106 3 14 [some (.ref 4), some (.int p1), some (.int p2), some (.int p3), some (.int p4), some (.ref a8), none] [.int p4] rfl rfl ?_
    refine z_xcS (vs := [.int p4]) (r := []) (L2 := [some (.int p4)]) zt106 4 rfl zo106 zzcS0_172 (Or.inl rfl) (Nat.le_of_ble_eq_true rfl) rfl rfl (Nat.le_of_ble_eq_true rfl) zzm64 (Nat.le_of_ble_eq_true rfl) rfl ?_
    refine z_xP zt64 0 1 [some (.int p4)] [.int p4] rfl rfl ?_
    refine z_xZ zt64 1 rfl rfl (fun (h15 : p4.toInt = 0) => ?_) (fun (h15 : p4.toInt ≠ 0) => ?_)
    · skip
      refine z_xP zt64 4 14 [some (.int p4)] [.int 1] rfl rfl ?_
      refine z_xrz zt64 6 rfl zzr64 (by decide) (by decide) ?_
      show z_ev (d + 5) 106 17 [some (.ref 4), some (.int p1), some (.int p2), some (.int p3), some (.int p4), some (.ref a8), none] [.int 1] M0 _
      refine z_xZ zt106 5 rfl rfl (fun (h16 : (1 : Int) ≠ 0) => ?_) (fun (h16 : (1 : Int) = 0) => absurd h16 (by omega))
      refine z_xP zt106 8 25 [some (.ref 4), some (.int p1), some (.int p2), some (.int p3), some (.int p4), some (.ref a8), none] [.int p3, .int p2, .ref 4] rfl rfl ?_
      refine z_xcV (vs := [.ref 4, .int p2, .int p3]) (r := []) (L2 := [some (.ref 4), some (.int p2), some (.int p3), none]) zt106 9 rfl zo106 zzcV0_241 (Or.inl rfl) rfl X f4 rfl rfl rfl (Nat.le_of_ble_eq_true rfl) zzm103 (Nat.le_of_ble_eq_true rfl) rfl ?_
      refine z_xP zt103 0 2 [some (.ref 4), some (.int p2), some (.int p3), none] [.int p2, .ref 4] rfl rfl ?_
      refine z_xcV (vs := [.ref 4, .int p2]) (r := []) (L2 := [some (.ref 4), some (.int p2)]) zt103 1 rfl zo103 zzcV0_108 (Or.inl rfl) rfl X f4 rfl rfl rfl (Nat.le_of_ble_eq_true rfl) zzm37 (Nat.le_of_ble_eq_true rfl) rfl ?_
      refine z_xP zt37 0 1 [some (.ref 4), some (.int p2)] [.int p2] rfl rfl ?_
      refine z_xZ zt37 1 rfl rfl (fun (h17 : p2.toInt < 0) => ?_) (fun (h17 : 0 ≤ p2.toInt) => ?_)
      · skip
        refine z_xP zt37 5 25 [some (.ref 4), some (.int p2)] [.null] rfl rfl ?_
        refine z_xrn zt37 11 rfl zzr37 ?_
        show z_ev (d + 4) 103 5 [some (.ref 4), some (.int p2), some (.int p3), none] [.null] M0 _
        refine z_xP zt103 2 20 [some (.ref 4), some (.int p2), some (.int p3), some (.null)] [] rfl rfl ?_
        refine z_xP zt103 7 21 [some (.ref 4), some (.int p2), some (.int p3), some (.null)] [.int (-1)] rfl rfl ?_
        refine z_xri zt103 8 rfl zzr103 ?_
        show z_ev (d + 5) 106 28 [some (.ref 4), some (.int p1), some (.int p2), some (.int p3), some (.int p4), some (.ref a8), none] [.int (-1)] M0 _
        refine z_xP zt106 10 32 [some (.ref 4), some (.int p1), some (.int p2), some (.int p3), some (.int p4), some (.ref a8), some (.int (-1))] [.int (-1)] rfl rfl ?_
        refine z_xZ zt106 11 rfl rfl (fun (h18 : ((-1) : Int) = 0) => absurd h18 (by omega)) (fun (h18 : ((-1) : Int) ≠ 0) => ?_)
        refine z_xP zt106 12 37 [some (.ref 4), some (.int p1), some (.int p2), some (.int p3), some (.int p4), some (.ref a8), some (.int (-1))] [.int (-1)] rfl rfl ?_
        have qm1 : (((-1) : Int32)).toInt = (-1) := rfl
        exact z_xri zt106 13 rfl zzr106 (kk (-1) M0 X z_oth.refl)
      refine z_xP zt37 2 6 [some (.ref 4), some (.int p2)] [.ref 4, .int p2] rfl rfl ?_
      refine z_xgI zt37 3 rfl zo37 zzf0_59 X f4 (by decide) (by decide) rfl (fun (x20 : Int32) h19 (h21 : 0 ≤ x20.toInt) (h22 : x20.toInt ≤ 8) => ?_)
      have h23 := z_b32 p2
      refine z_xJ zt37 4 rfl rfl (fun (h24 : p2.toInt < x20.toInt) => ?_) (fun (h24 : x20.toInt ≤ p2.toInt) => ?_)
      · skip
        refine z_xP zt37 6 17 [some (.ref 4), some (.int p2)] [.ref 4] rfl rfl ?_
        refine z_xgX (b := 10) zt37 7 rfl zo37 zzf0_18 X f4 (by decide) (by decide) rfl ?_
        refine z_xP zt37 8 21 [some (.ref 4), some (.int p2)] [.int p2, .ref 10] rfl rfl ?_
        have f10 : T[10]? = some (.inr (10, 2, 8, 9, 0)) := X.1.k rfl (by decide)
        refine z_xal zt37 9 rfl X f10 (by decide) (by decide) (by decide) (by omega) (by omega) (fun (a25 : Nat) h26 h27 => ?_) (fun h28 => absurd h28 (z_Gs (hG.go X (by decide)).2.1 h19 (by omega) (by omega)))
        obtain ⟨q29, t30, m31, k32⟩ : ∃ q t m, T[a25]? = some (.inl (3, q, t, m, 9)) := h27
        have g33 := X.1.p3 k32
        refine z_xgR (κ := .inl (2, q29, t30, m31, 0)) zt37 10 rfl zo37 zzf0_89 X k32 (by decide) (by decide) rfl (fun (a35 : Nat) h34 k36 => ?_)
        have g37 := X.1.p2 k36
        refine z_xra zt37 11 rfl zzr37 ?_
        show z_ev (d + 4) 103 5 [some (.ref 4), some (.int p2), some (.int p3), none] [.ref a35] M0 _
        refine z_xP zt103 2 10 [some (.ref 4), some (.int p2), some (.int p3), some (.ref a35)] [] rfl rfl ?_
        refine z_xP zt103 3 12 [some (.ref 4), some (.int p2), some (.int p3), some (.ref a35)] [.int 1, .int p3] rfl rfl ?_
        refine z_xJ zt103 4 rfl rfl (fun (h38 : p3.toInt < 1) => ?_) (fun (h38 : 1 ≤ p3.toInt) => ?_)
        · skip
          refine z_xP zt103 7 21 [some (.ref 4), some (.int p2), some (.int p3), some (.ref a35)] [.int (-1)] rfl rfl ?_
          refine z_xri zt103 8 rfl zzr103 ?_
          show z_ev (d + 5) 106 28 [some (.ref 4), some (.int p1), some (.int p2), some (.int p3), some (.int p4), some (.ref a8), none] [.int (-1)] M0 _
          refine z_xP zt106 10 32 [some (.ref 4), some (.int p1), some (.int p2), some (.int p3), some (.int p4), some (.ref a8), some (.int (-1))] [.int (-1)] rfl rfl ?_
          refine z_xZ zt106 11 rfl rfl (fun (h39 : ((-1) : Int) = 0) => absurd h39 (by omega)) (fun (h39 : ((-1) : Int) ≠ 0) => ?_)
          refine z_xP zt106 12 37 [some (.ref 4), some (.int p1), some (.int p2), some (.int p3), some (.int p4), some (.ref a8), some (.int (-1))] [.int (-1)] rfl rfl ?_
          have qm1 : (((-1) : Int32)).toInt = (-1) := rfl
          exact z_xri zt106 13 rfl zzr106 (kk (-1) M0 X z_oth.refl)
        refine z_xP zt103 5 17 [some (.ref 4), some (.int p2), some (.int p3), some (.ref a35)] [.int 5, .int p3] rfl rfl ?_
        refine z_xJ zt103 6 rfl rfl (fun (h40 : p3.toInt ≤ 5) => ?_) (fun (h40 : 5 < p3.toInt) => ?_)
        · skip
          refine z_xP zt103 9 23 [some (.ref 4), some (.int p2), some (.int p3), some (.ref a35)] [.ref a35] rfl rfl ?_
          refine z_xgR (κ := .inr (102, 0, m31, 0, 1023)) zt103 10 rfl zo103 zzf0_74 X k36 (by decide) (by decide) rfl (fun (a42 : Nat) h41 k43 => ?_)
          refine z_xln zt103 11 rfl X k43 (by decide) (by omega) (fun (x44 : Int32) (h45 : x44.toInt = ((m31 : Nat) : Int)) => ?_)
          refine z_xP zt103 12 29 [some (.ref 4), some (.int p2), some (.int p3), some (.ref a35)] [.int 12, .int x44] rfl rfl ?_
          refine z_xJ zt103 13 rfl rfl (fun (h46 : x44.toInt ≤ 12) => ?_) (fun (h46 : 12 < x44.toInt) => ?_)
          · skip
            refine z_xP zt103 15 38 [some (.ref 4), some (.int p2), some (.int p3), some (.ref a35)] [.int 0] rfl rfl ?_
            refine z_xri zt103 16 rfl zzr103 ?_
            show z_ev (d + 5) 106 28 [some (.ref 4), some (.int p1), some (.int p2), some (.int p3), some (.int p4), some (.ref a8), none] [.int 0] M0 _
            refine z_xP zt106 10 32 [some (.ref 4), some (.int p1), some (.int p2), some (.int p3), some (.int p4), some (.ref a8), some (.int 0)] [.int 0] rfl rfl ?_
            refine z_xZ zt106 11 rfl rfl (fun (h47 : (0 : Int) = 0) => ?_) (fun (h47 : (0 : Int) ≠ 0) => absurd h47 (by omega))
            refine z_xP zt106 14 41 [some (.ref 4), some (.int p1), some (.int p2), some (.int p3), some (.int p4), some (.ref a8), some (.int 0)] [.ref 4, .ref a8] rfl rfl ?_
            refine z_xgX (b := 11) zt106 15 rfl zo106 zzf0_22 X f4 (by decide) (by decide) rfl ?_
            refine z_xP zt106 16 45 [some (.ref 4), some (.int p1), some (.int p2), some (.int p3), some (.int p4), some (.ref a8), some (.int 0)] [.int p2, .ref 11, .ref a8] rfl rfl ?_
            have f11 : T[11]? = some (.inr (11, 2, 8, 5, 0)) := X.1.k rfl (by decide)
            refine z_xal zt106 17 rfl X f11 (by decide) (by decide) (by decide) (by omega) (by omega) (fun (a48 : Nat) h49 h50 => ?_) (fun h51 => absurd h51 (z_Gt (hG.go X (by decide)).2.1 h19 (by omega) (by omega)))
            obtain ⟨q52, t53, m54, k55⟩ : ∃ q t m, T[a48]? = some (.inl (3, q, t, m, 5)) := h50
            have g56 := X.1.p3 k55
            have h57 := z_Gm (hG.go X (by decide)).2.2 X.1 (z_cll (n := 8) (by omega) (by decide)) h26 h49 k32 k55
            refine z_xP zt106 18 50 [some (.ref 4), some (.int p1), some (.int p2), some (.int p3), some (.int p4), some (.ref a8), some (.int 0)] [.int 1, .int p4, .int p3, .ref a48, .ref a8] rfl rfl ?_
            refine z_xJ zt106 19 rfl rfl (fun (h58 : p4.toInt ≠ 1) => ?_) (fun (h58 : p4.toInt = 1) => absurd h58 (by omega))
            refine z_xP zt106 21 58 [some (.ref 4), some (.int p1), some (.int p2), some (.int p3), some (.int p4), some (.ref a8), some (.int 0)] [.int 0, .int p3, .ref a48, .ref a8] rfl rfl ?_
            refine z_xcV (vs := [.ref a8, .ref a48, .int p3, .int 0]) (r := []) (L2 := [some (.ref a8), some (.ref a48), some (.int p3), some (.int 0), none, none, none]) zt106 22 rfl zo106 zzcV0_248 (Or.inr rfl) rfl X k14 (z_w8 (fun c => (([(4, 107), (10, 107), (7, 107), (5, 107), (11, 107), (8, 107), (6, 107), (9, 107)] : List (Nat × Nat)).find? fun t => t.1 == c) = some (c, 107)) rfl rfl rfl rfl rfl rfl rfl rfl w13) rfl rfl (Nat.le_of_ble_eq_true rfl) zzm107 (Nat.le_of_ble_eq_true rfl) rfl ?_
            have q0 : ((0 : Int32)).toInt = 0 := rfl
            have q0 : ((0 : Int32)).toInt = 0 := rfl
            refine z_ev.told (z_Qt T) (hbk.ke X.2 (by decide)) X.1 (z_qLc (z_rvr (z_pb.way w13 k14)) (z_qLc (z_rvr (z_pb.ben k55 ⟨_, _, _, k55⟩)) (z_qLc z_rvi (z_qLc z_rvi (z_qLn (z_qLn (z_qLn z_qL0))))))) z_qS0 ?_
            refine zC107 X.1 w13 k14 k55 (by omega) (by decide) (fun x61 M59 X60  => ?_)
            intro ho62
            have X63 := X.go X60 (z_sb (by decide))
            show z_ev (d + 5) 106 61 [some (.ref 4), some (.int p1), some (.int p2), some (.int p3), some (.int p4), some (.ref a8), some (.int 0)] [.int x61] M59 _
            exact z_xri zt106 23 rfl zzr106 (kk x61 M59 X63 (z_oth.refl.trans ho62))
          refine z_xP zt103 14 38 [some (.ref 4), some (.int p2), some (.int p3), some (.ref a35)] [.int (-4)] rfl rfl ?_
          refine z_xri zt103 16 rfl zzr103 ?_
          show z_ev (d + 5) 106 28 [some (.ref 4), some (.int p1), some (.int p2), some (.int p3), some (.int p4), some (.ref a8), none] [.int (-4)] M0 _
          refine z_xP zt106 10 32 [some (.ref 4), some (.int p1), some (.int p2), some (.int p3), some (.int p4), some (.ref a8), some (.int (-4))] [.int (-4)] rfl rfl ?_
          refine z_xZ zt106 11 rfl rfl (fun (h65 : ((-4) : Int) = 0) => absurd h65 (by omega)) (fun (h65 : ((-4) : Int) ≠ 0) => ?_)
          refine z_xP zt106 12 37 [some (.ref 4), some (.int p1), some (.int p2), some (.int p3), some (.int p4), some (.ref a8), some (.int (-4))] [.int (-4)] rfl rfl ?_
          have qm4 : (((-4) : Int32)).toInt = (-4) := rfl
          exact z_xri zt106 13 rfl zzr106 (kk (-4) M0 X z_oth.refl)
        refine z_xP zt103 7 21 [some (.ref 4), some (.int p2), some (.int p3), some (.ref a35)] [.int (-1)] rfl rfl ?_
        refine z_xri zt103 8 rfl zzr103 ?_
        show z_ev (d + 5) 106 28 [some (.ref 4), some (.int p1), some (.int p2), some (.int p3), some (.int p4), some (.ref a8), none] [.int (-1)] M0 _
        refine z_xP zt106 10 32 [some (.ref 4), some (.int p1), some (.int p2), some (.int p3), some (.int p4), some (.ref a8), some (.int (-1))] [.int (-1)] rfl rfl ?_
        refine z_xZ zt106 11 rfl rfl (fun (h66 : ((-1) : Int) = 0) => absurd h66 (by omega)) (fun (h66 : ((-1) : Int) ≠ 0) => ?_)
        refine z_xP zt106 12 37 [some (.ref 4), some (.int p1), some (.int p2), some (.int p3), some (.int p4), some (.ref a8), some (.int (-1))] [.int (-1)] rfl rfl ?_
        have qm1 : (((-1) : Int32)).toInt = (-1) := rfl
        exact z_xri zt106 13 rfl zzr106 (kk (-1) M0 X z_oth.refl)
      refine z_xP zt37 5 25 [some (.ref 4), some (.int p2)] [.null] rfl rfl ?_
      refine z_xrn zt37 11 rfl zzr37 ?_
      show z_ev (d + 4) 103 5 [some (.ref 4), some (.int p2), some (.int p3), none] [.null] M0 _
      refine z_xP zt103 2 20 [some (.ref 4), some (.int p2), some (.int p3), some (.null)] [] rfl rfl ?_
      refine z_xP zt103 7 21 [some (.ref 4), some (.int p2), some (.int p3), some (.null)] [.int (-1)] rfl rfl ?_
      refine z_xri zt103 8 rfl zzr103 ?_
      show z_ev (d + 5) 106 28 [some (.ref 4), some (.int p1), some (.int p2), some (.int p3), some (.int p4), some (.ref a8), none] [.int (-1)] M0 _
      refine z_xP zt106 10 32 [some (.ref 4), some (.int p1), some (.int p2), some (.int p3), some (.int p4), some (.ref a8), some (.int (-1))] [.int (-1)] rfl rfl ?_
      refine z_xZ zt106 11 rfl rfl (fun (h67 : ((-1) : Int) = 0) => absurd h67 (by omega)) (fun (h67 : ((-1) : Int) ≠ 0) => ?_)
      refine z_xP zt106 12 37 [some (.ref 4), some (.int p1), some (.int p2), some (.int p3), some (.int p4), some (.ref a8), some (.int (-1))] [.int (-1)] rfl rfl ?_
      have qm1 : (((-1) : Int32)).toInt = (-1) := rfl
      exact z_xri zt106 13 rfl zzr106 (kk (-1) M0 X z_oth.refl)
    refine z_xP zt64 2 6 [some (.int p4)] [.int 1, .int p4] rfl rfl ?_
    refine z_xJ zt64 3 rfl rfl (fun (h68 : p4.toInt ≠ 1) => ?_) (fun (h68 : p4.toInt = 1) => ?_)
    · skip
      refine z_xP zt64 5 14 [some (.int p4)] [.int 0] rfl rfl ?_
      refine z_xrz zt64 6 rfl zzr64 (by decide) (by decide) ?_
      show z_ev (d + 5) 106 17 [some (.ref 4), some (.int p1), some (.int p2), some (.int p3), some (.int p4), some (.ref a8), none] [.int 0] M0 _
      refine z_xZ zt106 5 rfl rfl (fun (h69 : (0 : Int) ≠ 0) => absurd h69 (by omega)) (fun (h69 : (0 : Int) = 0) => ?_)
      refine z_xP zt106 6 21 [some (.ref 4), some (.int p1), some (.int p2), some (.int p3), some (.int p4), some (.ref a8), none] [.int (-1)] rfl rfl ?_
      have qm1 : (((-1) : Int32)).toInt = (-1) := rfl
      exact z_xri zt106 7 rfl zzr106 (kk (-1) M0 X z_oth.refl)
    refine z_xP zt64 4 14 [some (.int p4)] [.int 1] rfl rfl ?_
    refine z_xrz zt64 6 rfl zzr64 (by decide) (by decide) ?_
    show z_ev (d + 5) 106 17 [some (.ref 4), some (.int p1), some (.int p2), some (.int p3), some (.int p4), some (.ref a8), none] [.int 1] M0 _
    refine z_xZ zt106 5 rfl rfl (fun (h70 : (1 : Int) ≠ 0) => ?_) (fun (h70 : (1 : Int) = 0) => absurd h70 (by omega))
    refine z_xP zt106 8 25 [some (.ref 4), some (.int p1), some (.int p2), some (.int p3), some (.int p4), some (.ref a8), none] [.int p3, .int p2, .ref 4] rfl rfl ?_
    refine z_xcV (vs := [.ref 4, .int p2, .int p3]) (r := []) (L2 := [some (.ref 4), some (.int p2), some (.int p3), none]) zt106 9 rfl zo106 zzcV0_241 (Or.inl rfl) rfl X f4 rfl rfl rfl (Nat.le_of_ble_eq_true rfl) zzm103 (Nat.le_of_ble_eq_true rfl) rfl ?_
    refine z_xP zt103 0 2 [some (.ref 4), some (.int p2), some (.int p3), none] [.int p2, .ref 4] rfl rfl ?_
    refine z_xcV (vs := [.ref 4, .int p2]) (r := []) (L2 := [some (.ref 4), some (.int p2)]) zt103 1 rfl zo103 zzcV0_108 (Or.inl rfl) rfl X f4 rfl rfl rfl (Nat.le_of_ble_eq_true rfl) zzm37 (Nat.le_of_ble_eq_true rfl) rfl ?_
    refine z_xP zt37 0 1 [some (.ref 4), some (.int p2)] [.int p2] rfl rfl ?_
    refine z_xZ zt37 1 rfl rfl (fun (h71 : p2.toInt < 0) => ?_) (fun (h71 : 0 ≤ p2.toInt) => ?_)
    · skip
      refine z_xP zt37 5 25 [some (.ref 4), some (.int p2)] [.null] rfl rfl ?_
      refine z_xrn zt37 11 rfl zzr37 ?_
      show z_ev (d + 4) 103 5 [some (.ref 4), some (.int p2), some (.int p3), none] [.null] M0 _
      refine z_xP zt103 2 20 [some (.ref 4), some (.int p2), some (.int p3), some (.null)] [] rfl rfl ?_
      refine z_xP zt103 7 21 [some (.ref 4), some (.int p2), some (.int p3), some (.null)] [.int (-1)] rfl rfl ?_
      refine z_xri zt103 8 rfl zzr103 ?_
      show z_ev (d + 5) 106 28 [some (.ref 4), some (.int p1), some (.int p2), some (.int p3), some (.int p4), some (.ref a8), none] [.int (-1)] M0 _
      refine z_xP zt106 10 32 [some (.ref 4), some (.int p1), some (.int p2), some (.int p3), some (.int p4), some (.ref a8), some (.int (-1))] [.int (-1)] rfl rfl ?_
      refine z_xZ zt106 11 rfl rfl (fun (h72 : ((-1) : Int) = 0) => absurd h72 (by omega)) (fun (h72 : ((-1) : Int) ≠ 0) => ?_)
      refine z_xP zt106 12 37 [some (.ref 4), some (.int p1), some (.int p2), some (.int p3), some (.int p4), some (.ref a8), some (.int (-1))] [.int (-1)] rfl rfl ?_
      have qm1 : (((-1) : Int32)).toInt = (-1) := rfl
      exact z_xri zt106 13 rfl zzr106 (kk (-1) M0 X z_oth.refl)
    refine z_xP zt37 2 6 [some (.ref 4), some (.int p2)] [.ref 4, .int p2] rfl rfl ?_
    refine z_xgI zt37 3 rfl zo37 zzf0_59 X f4 (by decide) (by decide) rfl (fun (x74 : Int32) h73 (h75 : 0 ≤ x74.toInt) (h76 : x74.toInt ≤ 8) => ?_)
    have h77 := z_b32 p2
    refine z_xJ zt37 4 rfl rfl (fun (h78 : p2.toInt < x74.toInt) => ?_) (fun (h78 : x74.toInt ≤ p2.toInt) => ?_)
    · skip
      refine z_xP zt37 6 17 [some (.ref 4), some (.int p2)] [.ref 4] rfl rfl ?_
      refine z_xgX (b := 10) zt37 7 rfl zo37 zzf0_18 X f4 (by decide) (by decide) rfl ?_
      refine z_xP zt37 8 21 [some (.ref 4), some (.int p2)] [.int p2, .ref 10] rfl rfl ?_
      have f10 : T[10]? = some (.inr (10, 2, 8, 9, 0)) := X.1.k rfl (by decide)
      refine z_xal zt37 9 rfl X f10 (by decide) (by decide) (by decide) (by omega) (by omega) (fun (a79 : Nat) h80 h81 => ?_) (fun h82 => absurd h82 (z_Gs (hG.go X (by decide)).2.1 h73 (by omega) (by omega)))
      obtain ⟨q83, t84, m85, k86⟩ : ∃ q t m, T[a79]? = some (.inl (3, q, t, m, 9)) := h81
      have g87 := X.1.p3 k86
      refine z_xgR (κ := .inl (2, q83, t84, m85, 0)) zt37 10 rfl zo37 zzf0_89 X k86 (by decide) (by decide) rfl (fun (a89 : Nat) h88 k90 => ?_)
      have g91 := X.1.p2 k90
      refine z_xra zt37 11 rfl zzr37 ?_
      show z_ev (d + 4) 103 5 [some (.ref 4), some (.int p2), some (.int p3), none] [.ref a89] M0 _
      refine z_xP zt103 2 10 [some (.ref 4), some (.int p2), some (.int p3), some (.ref a89)] [] rfl rfl ?_
      refine z_xP zt103 3 12 [some (.ref 4), some (.int p2), some (.int p3), some (.ref a89)] [.int 1, .int p3] rfl rfl ?_
      refine z_xJ zt103 4 rfl rfl (fun (h92 : p3.toInt < 1) => ?_) (fun (h92 : 1 ≤ p3.toInt) => ?_)
      · skip
        refine z_xP zt103 7 21 [some (.ref 4), some (.int p2), some (.int p3), some (.ref a89)] [.int (-1)] rfl rfl ?_
        refine z_xri zt103 8 rfl zzr103 ?_
        show z_ev (d + 5) 106 28 [some (.ref 4), some (.int p1), some (.int p2), some (.int p3), some (.int p4), some (.ref a8), none] [.int (-1)] M0 _
        refine z_xP zt106 10 32 [some (.ref 4), some (.int p1), some (.int p2), some (.int p3), some (.int p4), some (.ref a8), some (.int (-1))] [.int (-1)] rfl rfl ?_
        refine z_xZ zt106 11 rfl rfl (fun (h93 : ((-1) : Int) = 0) => absurd h93 (by omega)) (fun (h93 : ((-1) : Int) ≠ 0) => ?_)
        refine z_xP zt106 12 37 [some (.ref 4), some (.int p1), some (.int p2), some (.int p3), some (.int p4), some (.ref a8), some (.int (-1))] [.int (-1)] rfl rfl ?_
        have qm1 : (((-1) : Int32)).toInt = (-1) := rfl
        exact z_xri zt106 13 rfl zzr106 (kk (-1) M0 X z_oth.refl)
      refine z_xP zt103 5 17 [some (.ref 4), some (.int p2), some (.int p3), some (.ref a89)] [.int 5, .int p3] rfl rfl ?_
      refine z_xJ zt103 6 rfl rfl (fun (h94 : p3.toInt ≤ 5) => ?_) (fun (h94 : 5 < p3.toInt) => ?_)
      · skip
        refine z_xP zt103 9 23 [some (.ref 4), some (.int p2), some (.int p3), some (.ref a89)] [.ref a89] rfl rfl ?_
        refine z_xgR (κ := .inr (102, 0, m85, 0, 1023)) zt103 10 rfl zo103 zzf0_74 X k90 (by decide) (by decide) rfl (fun (a96 : Nat) h95 k97 => ?_)
        refine z_xln zt103 11 rfl X k97 (by decide) (by omega) (fun (x98 : Int32) (h99 : x98.toInt = ((m85 : Nat) : Int)) => ?_)
        refine z_xP zt103 12 29 [some (.ref 4), some (.int p2), some (.int p3), some (.ref a89)] [.int 12, .int x98] rfl rfl ?_
        refine z_xJ zt103 13 rfl rfl (fun (h100 : x98.toInt ≤ 12) => ?_) (fun (h100 : 12 < x98.toInt) => ?_)
        · skip
          refine z_xP zt103 15 38 [some (.ref 4), some (.int p2), some (.int p3), some (.ref a89)] [.int 0] rfl rfl ?_
          refine z_xri zt103 16 rfl zzr103 ?_
          show z_ev (d + 5) 106 28 [some (.ref 4), some (.int p1), some (.int p2), some (.int p3), some (.int p4), some (.ref a8), none] [.int 0] M0 _
          refine z_xP zt106 10 32 [some (.ref 4), some (.int p1), some (.int p2), some (.int p3), some (.int p4), some (.ref a8), some (.int 0)] [.int 0] rfl rfl ?_
          refine z_xZ zt106 11 rfl rfl (fun (h101 : (0 : Int) = 0) => ?_) (fun (h101 : (0 : Int) ≠ 0) => absurd h101 (by omega))
          refine z_xP zt106 14 41 [some (.ref 4), some (.int p1), some (.int p2), some (.int p3), some (.int p4), some (.ref a8), some (.int 0)] [.ref 4, .ref a8] rfl rfl ?_
          refine z_xgX (b := 11) zt106 15 rfl zo106 zzf0_22 X f4 (by decide) (by decide) rfl ?_
          refine z_xP zt106 16 45 [some (.ref 4), some (.int p1), some (.int p2), some (.int p3), some (.int p4), some (.ref a8), some (.int 0)] [.int p2, .ref 11, .ref a8] rfl rfl ?_
          have f11 : T[11]? = some (.inr (11, 2, 8, 5, 0)) := X.1.k rfl (by decide)
          refine z_xal zt106 17 rfl X f11 (by decide) (by decide) (by decide) (by omega) (by omega) (fun (a102 : Nat) h103 h104 => ?_) (fun h105 => absurd h105 (z_Gt (hG.go X (by decide)).2.1 h73 (by omega) (by omega)))
          obtain ⟨q106, t107, m108, k109⟩ : ∃ q t m, T[a102]? = some (.inl (3, q, t, m, 5)) := h104
          have g110 := X.1.p3 k109
          have h111 := z_Gm (hG.go X (by decide)).2.2 X.1 (z_cll (n := 8) (by omega) (by decide)) h80 h103 k86 k109
          refine z_xP zt106 18 50 [some (.ref 4), some (.int p1), some (.int p2), some (.int p3), some (.int p4), some (.ref a8), some (.int 0)] [.int 1, .int p4, .int p3, .ref a102, .ref a8] rfl rfl ?_
          refine z_xJ zt106 19 rfl rfl (fun (h112 : p4.toInt ≠ 1) => absurd h112 (by omega)) (fun (h112 : p4.toInt = 1) => ?_)
          refine z_xP zt106 20 58 [some (.ref 4), some (.int p1), some (.int p2), some (.int p3), some (.int p4), some (.ref a8), some (.int 0)] [.int 1, .int p3, .ref a102, .ref a8] rfl rfl ?_
          refine z_xcV (vs := [.ref a8, .ref a102, .int p3, .int 1]) (r := []) (L2 := [some (.ref a8), some (.ref a102), some (.int p3), some (.int 1), none, none, none]) zt106 22 rfl zo106 zzcV0_248 (Or.inr rfl) rfl X k14 (z_w8 (fun c => (([(4, 107), (10, 107), (7, 107), (5, 107), (11, 107), (8, 107), (6, 107), (9, 107)] : List (Nat × Nat)).find? fun t => t.1 == c) = some (c, 107)) rfl rfl rfl rfl rfl rfl rfl rfl w13) rfl rfl (Nat.le_of_ble_eq_true rfl) zzm107 (Nat.le_of_ble_eq_true rfl) rfl ?_
          have q1 : ((1 : Int32)).toInt = 1 := rfl
          have q1 : ((1 : Int32)).toInt = 1 := rfl
          refine z_ev.told (z_Qt T) (hbk.ke X.2 (by decide)) X.1 (z_qLc (z_rvr (z_pb.way w13 k14)) (z_qLc (z_rvr (z_pb.ben k109 ⟨_, _, _, k109⟩)) (z_qLc z_rvi (z_qLc z_rvi (z_qLn (z_qLn (z_qLn z_qL0))))))) z_qS0 ?_
          refine zC107 X.1 w13 k14 k109 (by omega) (by decide) (fun x115 M113 X114  => ?_)
          intro ho116
          have X117 := X.go X114 (z_sb (by decide))
          show z_ev (d + 5) 106 61 [some (.ref 4), some (.int p1), some (.int p2), some (.int p3), some (.int p4), some (.ref a8), some (.int 0)] [.int x115] M113 _
          exact z_xri zt106 23 rfl zzr106 (kk x115 M113 X117 (z_oth.refl.trans ho116))
        refine z_xP zt103 14 38 [some (.ref 4), some (.int p2), some (.int p3), some (.ref a89)] [.int (-4)] rfl rfl ?_
        refine z_xri zt103 16 rfl zzr103 ?_
        show z_ev (d + 5) 106 28 [some (.ref 4), some (.int p1), some (.int p2), some (.int p3), some (.int p4), some (.ref a8), none] [.int (-4)] M0 _
        refine z_xP zt106 10 32 [some (.ref 4), some (.int p1), some (.int p2), some (.int p3), some (.int p4), some (.ref a8), some (.int (-4))] [.int (-4)] rfl rfl ?_
        refine z_xZ zt106 11 rfl rfl (fun (h119 : ((-4) : Int) = 0) => absurd h119 (by omega)) (fun (h119 : ((-4) : Int) ≠ 0) => ?_)
        refine z_xP zt106 12 37 [some (.ref 4), some (.int p1), some (.int p2), some (.int p3), some (.int p4), some (.ref a8), some (.int (-4))] [.int (-4)] rfl rfl ?_
        have qm4 : (((-4) : Int32)).toInt = (-4) := rfl
        exact z_xri zt106 13 rfl zzr106 (kk (-4) M0 X z_oth.refl)
      refine z_xP zt103 7 21 [some (.ref 4), some (.int p2), some (.int p3), some (.ref a89)] [.int (-1)] rfl rfl ?_
      refine z_xri zt103 8 rfl zzr103 ?_
      show z_ev (d + 5) 106 28 [some (.ref 4), some (.int p1), some (.int p2), some (.int p3), some (.int p4), some (.ref a8), none] [.int (-1)] M0 _
      refine z_xP zt106 10 32 [some (.ref 4), some (.int p1), some (.int p2), some (.int p3), some (.int p4), some (.ref a8), some (.int (-1))] [.int (-1)] rfl rfl ?_
      refine z_xZ zt106 11 rfl rfl (fun (h120 : ((-1) : Int) = 0) => absurd h120 (by omega)) (fun (h120 : ((-1) : Int) ≠ 0) => ?_)
      refine z_xP zt106 12 37 [some (.ref 4), some (.int p1), some (.int p2), some (.int p3), some (.int p4), some (.ref a8), some (.int (-1))] [.int (-1)] rfl rfl ?_
      have qm1 : (((-1) : Int32)).toInt = (-1) := rfl
      exact z_xri zt106 13 rfl zzr106 (kk (-1) M0 X z_oth.refl)
    refine z_xP zt37 5 25 [some (.ref 4), some (.int p2)] [.null] rfl rfl ?_
    refine z_xrn zt37 11 rfl zzr37 ?_
    show z_ev (d + 4) 103 5 [some (.ref 4), some (.int p2), some (.int p3), none] [.null] M0 _
    refine z_xP zt103 2 20 [some (.ref 4), some (.int p2), some (.int p3), some (.null)] [] rfl rfl ?_
    refine z_xP zt103 7 21 [some (.ref 4), some (.int p2), some (.int p3), some (.null)] [.int (-1)] rfl rfl ?_
    refine z_xri zt103 8 rfl zzr103 ?_
    show z_ev (d + 5) 106 28 [some (.ref 4), some (.int p1), some (.int p2), some (.int p3), some (.int p4), some (.ref a8), none] [.int (-1)] M0 _
    refine z_xP zt106 10 32 [some (.ref 4), some (.int p1), some (.int p2), some (.int p3), some (.int p4), some (.ref a8), some (.int (-1))] [.int (-1)] rfl rfl ?_
    refine z_xZ zt106 11 rfl rfl (fun (h121 : ((-1) : Int) = 0) => absurd h121 (by omega)) (fun (h121 : ((-1) : Int) ≠ 0) => ?_)
    refine z_xP zt106 12 37 [some (.ref 4), some (.int p1), some (.int p2), some (.int p3), some (.int p4), some (.ref a8), some (.int (-1))] [.int (-1)] rfl rfl ?_
    have qm1 : (((-1) : Int32)).toInt = (-1) := rfl
    exact z_xri zt106 13 rfl zzr106 (kk (-1) M0 X z_oth.refl)
  refine z_xP zt84 5 22 [some (.ref 4), some (.int p1)] [.null] rfl rfl ?_
  refine z_xrn zt84 10 rfl zzr84 ?_
  show z_ev (d + 5) 106 5 [some (.ref 4), some (.int p1), some (.int p2), some (.int p3), some (.int p4), none, none] [.null] M0 _
  refine z_xP zt106 2 20 [some (.ref 4), some (.int p1), some (.int p2), some (.int p3), some (.int p4), some (.null), none] [] rfl rfl ?_
  refine z_xP zt106 6 21 [some (.ref 4), some (.int p1), some (.int p2), some (.int p3), some (.int p4), some (.null), none] [.int (-1)] rfl rfl ?_
  have qm1 : (((-1) : Int32)).toInt = (-1) := rfl
  exact z_xri zt106 7 rfl zzr106 (kk (-1) M0 X z_oth.refl)
theorem zOC112 {T : List zK} {d : Nat} {K : Option Value → zH → Prop} {p1 : Int32} {p2 : Int32} {p3 : Int32} {p4 : Int32} {p5 : Int32} {M0 : zH} (hW : z_W M0 T) (hW0 : z_W M0 T) (hbk : z_blk T M0) (hG : z_GG T M0) (kk : ∀ (x : Int32) (M1 : zH), z_X T zw112 M0 M1 → z_oth T (z_Qt T) M0 M1 → K (some (.int x)) M1) : z_ev (d + 5) 112 0 [some (.ref 4), some (.int p1), some (.int p2), some (.int p3), some (.int p4), some (.int p5), none, none, none] [] M0 K := by
  have X : z_X T zw112 M0 M0 := .refl hW
  refine z_xP zt112 0 2 [some (.ref 4), some (.int p1), some (.int p2), some (.int p3), some (.int p4), some (.int p5), none, none, none] [.int p1, .ref 4] rfl rfl ?_
  have f4 : T[4]? = some (.inl (0, 0, 0, 0, 0)) := X.1.k rfl (by decide)
  refine z_xcV (vs := [.ref 4, .int p1]) (r := []) (L2 := [some (.ref 4), some (.int p1)]) zt112 1 rfl zo112 zzcV0_221 (Or.inl rfl) rfl X f4 rfl rfl rfl (Nat.le_of_ble_eq_true rfl) zzm84 (Nat.le_of_ble_eq_true rfl) rfl ?_
  refine z_xP zt84 0 1 [some (.ref 4), some (.int p1)] [.int p1] rfl rfl ?_
  refine z_xZ zt84 1 rfl rfl (fun (h1 : p1.toInt < 0) => ?_) (fun (h1 : 0 ≤ p1.toInt) => ?_)
  · skip
    refine z_xP zt84 5 22 [some (.ref 4), some (.int p1)] [.null] rfl rfl ?_
    refine z_xrn zt84 10 rfl zzr84 ?_
    show z_ev (d + 5) 112 5 [some (.ref 4), some (.int p1), some (.int p2), some (.int p3), some (.int p4), some (.int p5), none, none, none] [.null] M0 _
    refine z_xP zt112 2 9 [some (.ref 4), some (.int p1), some (.int p2), some (.int p3), some (.int p4), some (.int p5), some (.null), none, none] [.int p2, .ref 4] rfl rfl ?_
    refine z_xcV (vs := [.ref 4, .int p2]) (r := []) (L2 := [some (.ref 4), some (.int p2)]) zt112 3 rfl zo112 zzcV0_221 (Or.inl rfl) rfl X f4 rfl rfl rfl (Nat.le_of_ble_eq_true rfl) zzm84 (Nat.le_of_ble_eq_true rfl) rfl ?_
    refine z_xP zt84 0 1 [some (.ref 4), some (.int p2)] [.int p2] rfl rfl ?_
    refine z_xZ zt84 1 rfl rfl (fun (h2 : p2.toInt < 0) => ?_) (fun (h2 : 0 ≤ p2.toInt) => ?_)
    · skip
      refine z_xP zt84 5 22 [some (.ref 4), some (.int p2)] [.null] rfl rfl ?_
      refine z_xrn zt84 10 rfl zzr84 ?_
      show z_ev (d + 5) 112 12 [some (.ref 4), some (.int p1), some (.int p2), some (.int p3), some (.int p4), some (.int p5), some (.null), none, none] [.null] M0 _
      refine z_xP zt112 4 32 [some (.ref 4), some (.int p1), some (.int p2), some (.int p3), some (.int p4), some (.int p5), some (.null), some (.null), none] [] rfl rfl ?_
      refine z_xP zt112 9 33 [some (.ref 4), some (.int p1), some (.int p2), some (.int p3), some (.int p4), some (.int p5), some (.null), some (.null), none] [.int (-1)] rfl rfl ?_
      have qm1 : (((-1) : Int32)).toInt = (-1) := rfl
      exact z_xri zt112 10 rfl zzr112 (kk (-1) M0 X z_oth.refl)
    refine z_xP zt84 2 6 [some (.ref 4), some (.int p2)] [.ref 4, .int p2] rfl rfl ?_
    refine z_xgI zt84 3 rfl zo84 zzf0_188 X f4 (by decide) (by decide) rfl (fun (x4 : Int32) h3 (h5 : 0 ≤ x4.toInt) (h6 : x4.toInt ≤ 20) => ?_)
    have h7 := z_b32 p2
    refine z_xJ zt84 4 rfl rfl (fun (h8 : p2.toInt < x4.toInt) => ?_) (fun (h8 : x4.toInt ≤ p2.toInt) => ?_)
    · skip
      refine z_xP zt84 6 17 [some (.ref 4), some (.int p2)] [.ref 4] rfl rfl ?_
      refine z_xgX (b := 12) zt84 7 rfl zo84 zzf0_27 X f4 (by decide) (by decide) rfl ?_
      refine z_xP zt84 8 21 [some (.ref 4), some (.int p2)] [.int p2, .ref 12] rfl rfl ?_
      have f12 : T[12]? = some (.inr (12, 3, 20, 0, 0)) := X.1.k rfl (by decide)
      refine z_xal zt84 9 rfl X f12 (by decide) (by decide) (by decide) (by omega) (by omega) (fun (a9 : Nat) h10 h11 => ?_) (fun h12 => absurd h12 (z_Gb (hG.go X (by decide)).2.1 h3 (by omega) (by omega)))
      obtain ⟨c13, w14l, w14u, k15⟩ : ∃ ci, 4 ≤ ci ∧ ci ≤ 11 ∧ T[a9]? = some (.inl (ci, 0, 0, 0, 0)) := h11
      have w14 := And.intro w14l w14u
      refine z_xra zt84 10 rfl zzr84 ?_
      show z_ev (d + 5) 112 12 [some (.ref 4), some (.int p1), some (.int p2), some (.int p3), some (.int p4), some (.int p5), some (.null), none, none] [.ref a9] M0 _
      refine z_xP zt112 4 32 [some (.ref 4), some (.int p1), some (.int p2), some (.int p3), some (.int p4), some (.int p5), some (.null), some (.ref a9), none] [] rfl rfl ?_
      refine z_xP zt112 9 33 [some (.ref 4), some (.int p1), some (.int p2), some (.int p3), some (.int p4), some (.int p5), some (.null), some (.ref a9), none] [.int (-1)] rfl rfl ?_
      have qm1 : (((-1) : Int32)).toInt = (-1) := rfl
      exact z_xri zt112 10 rfl zzr112 (kk (-1) M0 X z_oth.refl)
    refine z_xP zt84 5 22 [some (.ref 4), some (.int p2)] [.null] rfl rfl ?_
    refine z_xrn zt84 10 rfl zzr84 ?_
    show z_ev (d + 5) 112 12 [some (.ref 4), some (.int p1), some (.int p2), some (.int p3), some (.int p4), some (.int p5), some (.null), none, none] [.null] M0 _
    refine z_xP zt112 4 32 [some (.ref 4), some (.int p1), some (.int p2), some (.int p3), some (.int p4), some (.int p5), some (.null), some (.null), none] [] rfl rfl ?_
    refine z_xP zt112 9 33 [some (.ref 4), some (.int p1), some (.int p2), some (.int p3), some (.int p4), some (.int p5), some (.null), some (.null), none] [.int (-1)] rfl rfl ?_
    have qm1 : (((-1) : Int32)).toInt = (-1) := rfl
    exact z_xri zt112 10 rfl zzr112 (kk (-1) M0 X z_oth.refl)
  refine z_xP zt84 2 6 [some (.ref 4), some (.int p1)] [.ref 4, .int p1] rfl rfl ?_
  refine z_xgI zt84 3 rfl zo84 zzf0_188 X f4 (by decide) (by decide) rfl (fun (x17 : Int32) h16 (h18 : 0 ≤ x17.toInt) (h19 : x17.toInt ≤ 20) => ?_)
  have h20 := z_b32 p1
  refine z_xJ zt84 4 rfl rfl (fun (h21 : p1.toInt < x17.toInt) => ?_) (fun (h21 : x17.toInt ≤ p1.toInt) => ?_)
  · skip
    refine z_xP zt84 6 17 [some (.ref 4), some (.int p1)] [.ref 4] rfl rfl ?_
    refine z_xgX (b := 12) zt84 7 rfl zo84 zzf0_27 X f4 (by decide) (by decide) rfl ?_
    refine z_xP zt84 8 21 [some (.ref 4), some (.int p1)] [.int p1, .ref 12] rfl rfl ?_
    have f12 : T[12]? = some (.inr (12, 3, 20, 0, 0)) := X.1.k rfl (by decide)
    refine z_xal zt84 9 rfl X f12 (by decide) (by decide) (by decide) (by omega) (by omega) (fun (a22 : Nat) h23 h24 => ?_) (fun h25 => absurd h25 (z_Gb (hG.go X (by decide)).2.1 h16 (by omega) (by omega)))
    obtain ⟨c26, w27l, w27u, k28⟩ : ∃ ci, 4 ≤ ci ∧ ci ≤ 11 ∧ T[a22]? = some (.inl (ci, 0, 0, 0, 0)) := h24
    have w27 := And.intro w27l w27u
    refine z_xra zt84 10 rfl zzr84 ?_
    show z_ev (d + 5) 112 5 [some (.ref 4), some (.int p1), some (.int p2), some (.int p3), some (.int p4), some (.int p5), none, none, none] [.ref a22] M0 _
    refine z_xP zt112 2 9 [some (.ref 4), some (.int p1), some (.int p2), some (.int p3), some (.int p4), some (.int p5), some (.ref a22), none, none] [.int p2, .ref 4] rfl rfl ?_
    refine z_xcV (vs := [.ref 4, .int p2]) (r := []) (L2 := [some (.ref 4), some (.int p2)]) zt112 3 rfl zo112 zzcV0_221 (Or.inl rfl) rfl X f4 rfl rfl rfl (Nat.le_of_ble_eq_true rfl) zzm84 (Nat.le_of_ble_eq_true rfl) rfl ?_
    refine z_xP zt84 0 1 [some (.ref 4), some (.int p2)] [.int p2] rfl rfl ?_
    refine z_xZ zt84 1 rfl rfl (fun (h29 : p2.toInt < 0) => ?_) (fun (h29 : 0 ≤ p2.toInt) => ?_)
    · skip
      refine z_xP zt84 5 22 [some (.ref 4), some (.int p2)] [.null] rfl rfl ?_
      refine z_xrn zt84 10 rfl zzr84 ?_
      show z_ev (d + 5) 112 12 [some (.ref 4), some (.int p1), some (.int p2), some (.int p3), some (.int p4), some (.int p5), some (.ref a22), none, none] [.null] M0 _
      refine z_xP zt112 4 19 [some (.ref 4), some (.int p1), some (.int p2), some (.int p3), some (.int p4), some (.int p5), some (.ref a22), some (.null), none] [] rfl rfl ?_
      refine z_xP zt112 5 32 [some (.ref 4), some (.int p1), some (.int p2), some (.int p3), some (.int p4), some (.int p5), some (.ref a22), some (.null), none] [] rfl rfl ?_
      refine z_xP zt112 9 33 [some (.ref 4), some (.int p1), some (.int p2), some (.int p3), some (.int p4), some (.int p5), some (.ref a22), some (.null), none] [.int (-1)] rfl rfl ?_
      have qm1 : (((-1) : Int32)).toInt = (-1) := rfl
      exact z_xri zt112 10 rfl zzr112 (kk (-1) M0 X z_oth.refl)
    refine z_xP zt84 2 6 [some (.ref 4), some (.int p2)] [.ref 4, .int p2] rfl rfl ?_
    refine z_xgv zt84 3 rfl zo84 zzf0_188 X f4 (by decide) h16 ?_
    have h30 := z_b32 p2
    refine z_xJ zt84 4 rfl rfl (fun (h31 : p2.toInt < x17.toInt) => ?_) (fun (h31 : x17.toInt ≤ p2.toInt) => ?_)
    · skip
      refine z_xP zt84 6 17 [some (.ref 4), some (.int p2)] [.ref 4] rfl rfl ?_
      refine z_xgX (b := 12) zt84 7 rfl zo84 zzf0_27 X f4 (by decide) (by decide) rfl ?_
      refine z_xP zt84 8 21 [some (.ref 4), some (.int p2)] [.int p2, .ref 12] rfl rfl ?_
      refine z_xal zt84 9 rfl X f12 (by decide) (by decide) (by decide) (by omega) (by omega) (fun (a32 : Nat) h33 h34 => ?_) (fun h35 => absurd h35 (z_Gb (hG.go X (by decide)).2.1 h16 (by omega) (by omega)))
      obtain ⟨c36, w37l, w37u, k38⟩ : ∃ ci, 4 ≤ ci ∧ ci ≤ 11 ∧ T[a32]? = some (.inl (ci, 0, 0, 0, 0)) := h34
      have w37 := And.intro w37l w37u
      refine z_xra zt84 10 rfl zzr84 ?_
      show z_ev (d + 5) 112 12 [some (.ref 4), some (.int p1), some (.int p2), some (.int p3), some (.int p4), some (.int p5), some (.ref a22), none, none] [.ref a32] M0 _
      refine z_xP zt112 4 19 [some (.ref 4), some (.int p1), some (.int p2), some (.int p3), some (.int p4), some (.int p5), some (.ref a22), some (.ref a32), none] [] rfl rfl ?_
      refine z_xP zt112 5 24 [some (.ref 4), some (.int p1), some (.int p2), some (.int p3), some (.int p4), some (.int p5), some (.ref a22), some (.ref a32), none] [] rfl rfl ?_
      refine z_xP zt112 6 26 [some (.ref 4), some (.int p1), some (.int p2), some (.int p3), some (.int p4), some (.int p5), some (.ref a22), some (.ref a32), none] [.int p5] rfl rfl ?_
      refine z_xcS (vs := [.int p5]) (r := []) (L2 := [some (.int p5)]) zt112 7 rfl zo112 zzcS0_172 (Or.inl rfl) (Nat.le_of_ble_eq_true rfl) rfl rfl (Nat.le_of_ble_eq_true rfl) zzm64 (Nat.le_of_ble_eq_true rfl) rfl ?_
      refine z_xP zt64 0 1 [some (.int p5)] [.int p5] rfl rfl ?_
      refine z_xZ zt64 1 rfl rfl (fun (h39 : p5.toInt = 0) => ?_) (fun (h39 : p5.toInt ≠ 0) => ?_)
      · skip
        refine z_xP zt64 4 14 [some (.int p5)] [.int 1] rfl rfl ?_
        refine z_xrz zt64 6 rfl zzr64 (by decide) (by decide) ?_
        show z_ev (d + 5) 112 29 [some (.ref 4), some (.int p1), some (.int p2), some (.int p3), some (.int p4), some (.int p5), some (.ref a22), some (.ref a32), none] [.int 1] M0 _
        refine z_xZ zt112 8 rfl rfl (fun (h40 : (1 : Int) ≠ 0) => ?_) (fun (h40 : (1 : Int) = 0) => absurd h40 (by omega))
        refine z_xP zt112 11 38 [some (.ref 4), some (.int p1), some (.int p2), some (.int p3), some (.int p4), some (.int p5), some (.ref a22), some (.ref a32), none] [.int p4, .int p3, .ref 4] rfl rfl ?_
        refine z_xcV (vs := [.ref 4, .int p3, .int p4]) (r := []) (L2 := [some (.ref 4), some (.int p3), some (.int p4), none]) zt112 12 rfl zo112 zzcV0_241 (Or.inl rfl) rfl X f4 rfl rfl rfl (Nat.le_of_ble_eq_true rfl) zzm103 (Nat.le_of_ble_eq_true rfl) rfl ?_
        refine z_xP zt103 0 2 [some (.ref 4), some (.int p3), some (.int p4), none] [.int p3, .ref 4] rfl rfl ?_
        refine z_xcV (vs := [.ref 4, .int p3]) (r := []) (L2 := [some (.ref 4), some (.int p3)]) zt103 1 rfl zo103 zzcV0_108 (Or.inl rfl) rfl X f4 rfl rfl rfl (Nat.le_of_ble_eq_true rfl) zzm37 (Nat.le_of_ble_eq_true rfl) rfl ?_
        refine z_xP zt37 0 1 [some (.ref 4), some (.int p3)] [.int p3] rfl rfl ?_
        refine z_xZ zt37 1 rfl rfl (fun (h41 : p3.toInt < 0) => ?_) (fun (h41 : 0 ≤ p3.toInt) => ?_)
        · skip
          refine z_xP zt37 5 25 [some (.ref 4), some (.int p3)] [.null] rfl rfl ?_
          refine z_xrn zt37 11 rfl zzr37 ?_
          show z_ev (d + 4) 103 5 [some (.ref 4), some (.int p3), some (.int p4), none] [.null] M0 _
          refine z_xP zt103 2 20 [some (.ref 4), some (.int p3), some (.int p4), some (.null)] [] rfl rfl ?_
          refine z_xP zt103 7 21 [some (.ref 4), some (.int p3), some (.int p4), some (.null)] [.int (-1)] rfl rfl ?_
          refine z_xri zt103 8 rfl zzr103 ?_
          show z_ev (d + 5) 112 41 [some (.ref 4), some (.int p1), some (.int p2), some (.int p3), some (.int p4), some (.int p5), some (.ref a22), some (.ref a32), none] [.int (-1)] M0 _
          refine z_xP zt112 13 45 [some (.ref 4), some (.int p1), some (.int p2), some (.int p3), some (.int p4), some (.int p5), some (.ref a22), some (.ref a32), some (.int (-1))] [.int (-1)] rfl rfl ?_
          refine z_xZ zt112 14 rfl rfl (fun (h42 : ((-1) : Int) = 0) => absurd h42 (by omega)) (fun (h42 : ((-1) : Int) ≠ 0) => ?_)
          refine z_xP zt112 15 50 [some (.ref 4), some (.int p1), some (.int p2), some (.int p3), some (.int p4), some (.int p5), some (.ref a22), some (.ref a32), some (.int (-1))] [.int (-1)] rfl rfl ?_
          have qm1 : (((-1) : Int32)).toInt = (-1) := rfl
          exact z_xri zt112 16 rfl zzr112 (kk (-1) M0 X z_oth.refl)
        refine z_xP zt37 2 6 [some (.ref 4), some (.int p3)] [.ref 4, .int p3] rfl rfl ?_
        refine z_xgI zt37 3 rfl zo37 zzf0_59 X f4 (by decide) (by decide) rfl (fun (x44 : Int32) h43 (h45 : 0 ≤ x44.toInt) (h46 : x44.toInt ≤ 8) => ?_)
        have h47 := z_b32 p3
        refine z_xJ zt37 4 rfl rfl (fun (h48 : p3.toInt < x44.toInt) => ?_) (fun (h48 : x44.toInt ≤ p3.toInt) => ?_)
        · skip
          refine z_xP zt37 6 17 [some (.ref 4), some (.int p3)] [.ref 4] rfl rfl ?_
          refine z_xgX (b := 10) zt37 7 rfl zo37 zzf0_18 X f4 (by decide) (by decide) rfl ?_
          refine z_xP zt37 8 21 [some (.ref 4), some (.int p3)] [.int p3, .ref 10] rfl rfl ?_
          have f10 : T[10]? = some (.inr (10, 2, 8, 9, 0)) := X.1.k rfl (by decide)
          refine z_xal zt37 9 rfl X f10 (by decide) (by decide) (by decide) (by omega) (by omega) (fun (a49 : Nat) h50 h51 => ?_) (fun h52 => absurd h52 (z_Gs (hG.go X (by decide)).2.1 h43 (by omega) (by omega)))
          obtain ⟨q53, t54, m55, k56⟩ : ∃ q t m, T[a49]? = some (.inl (3, q, t, m, 9)) := h51
          have g57 := X.1.p3 k56
          refine z_xgR (κ := .inl (2, q53, t54, m55, 0)) zt37 10 rfl zo37 zzf0_89 X k56 (by decide) (by decide) rfl (fun (a59 : Nat) h58 k60 => ?_)
          have g61 := X.1.p2 k60
          refine z_xra zt37 11 rfl zzr37 ?_
          show z_ev (d + 4) 103 5 [some (.ref 4), some (.int p3), some (.int p4), none] [.ref a59] M0 _
          refine z_xP zt103 2 10 [some (.ref 4), some (.int p3), some (.int p4), some (.ref a59)] [] rfl rfl ?_
          refine z_xP zt103 3 12 [some (.ref 4), some (.int p3), some (.int p4), some (.ref a59)] [.int 1, .int p4] rfl rfl ?_
          refine z_xJ zt103 4 rfl rfl (fun (h62 : p4.toInt < 1) => ?_) (fun (h62 : 1 ≤ p4.toInt) => ?_)
          · skip
            refine z_xP zt103 7 21 [some (.ref 4), some (.int p3), some (.int p4), some (.ref a59)] [.int (-1)] rfl rfl ?_
            refine z_xri zt103 8 rfl zzr103 ?_
            show z_ev (d + 5) 112 41 [some (.ref 4), some (.int p1), some (.int p2), some (.int p3), some (.int p4), some (.int p5), some (.ref a22), some (.ref a32), none] [.int (-1)] M0 _
            refine z_xP zt112 13 45 [some (.ref 4), some (.int p1), some (.int p2), some (.int p3), some (.int p4), some (.int p5), some (.ref a22), some (.ref a32), some (.int (-1))] [.int (-1)] rfl rfl ?_
            refine z_xZ zt112 14 rfl rfl (fun (h63 : ((-1) : Int) = 0) => absurd h63 (by omega)) (fun (h63 : ((-1) : Int) ≠ 0) => ?_)
            refine z_xP zt112 15 50 [some (.ref 4), some (.int p1), some (.int p2), some (.int p3), some (.int p4), some (.int p5), some (.ref a22), some (.ref a32), some (.int (-1))] [.int (-1)] rfl rfl ?_
            have qm1 : (((-1) : Int32)).toInt = (-1) := rfl
            exact z_xri zt112 16 rfl zzr112 (kk (-1) M0 X z_oth.refl)
          refine z_xP zt103 5 17 [some (.ref 4), some (.int p3), some (.int p4), some (.ref a59)] [.int 5, .int p4] rfl rfl ?_
          refine z_xJ zt103 6 rfl rfl (fun (h64 : p4.toInt ≤ 5) => ?_) (fun (h64 : 5 < p4.toInt) => ?_)
          · skip
            refine z_xP zt103 9 23 [some (.ref 4), some (.int p3), some (.int p4), some (.ref a59)] [.ref a59] rfl rfl ?_
            refine z_xgR (κ := .inr (102, 0, m55, 0, 1023)) zt103 10 rfl zo103 zzf0_74 X k60 (by decide) (by decide) rfl (fun (a66 : Nat) h65 k67 => ?_)
            refine z_xln zt103 11 rfl X k67 (by decide) (by omega) (fun (x68 : Int32) (h69 : x68.toInt = ((m55 : Nat) : Int)) => ?_)
            refine z_xP zt103 12 29 [some (.ref 4), some (.int p3), some (.int p4), some (.ref a59)] [.int 12, .int x68] rfl rfl ?_
            refine z_xJ zt103 13 rfl rfl (fun (h70 : x68.toInt ≤ 12) => ?_) (fun (h70 : 12 < x68.toInt) => ?_)
            · skip
              refine z_xP zt103 15 38 [some (.ref 4), some (.int p3), some (.int p4), some (.ref a59)] [.int 0] rfl rfl ?_
              refine z_xri zt103 16 rfl zzr103 ?_
              show z_ev (d + 5) 112 41 [some (.ref 4), some (.int p1), some (.int p2), some (.int p3), some (.int p4), some (.int p5), some (.ref a22), some (.ref a32), none] [.int 0] M0 _
              refine z_xP zt112 13 45 [some (.ref 4), some (.int p1), some (.int p2), some (.int p3), some (.int p4), some (.int p5), some (.ref a22), some (.ref a32), some (.int 0)] [.int 0] rfl rfl ?_
              refine z_xZ zt112 14 rfl rfl (fun (h71 : (0 : Int) = 0) => ?_) (fun (h71 : (0 : Int) ≠ 0) => absurd h71 (by omega))
              refine z_xP zt112 17 56 [some (.ref 4), some (.int p1), some (.int p2), some (.int p3), some (.int p4), some (.int p5), some (.ref a22), some (.ref a32), some (.int 0)] [.ref 4, .ref a32, .ref a22] rfl rfl ?_
              refine z_xgX (b := 11) zt112 18 rfl zo112 zzf0_22 X f4 (by decide) (by decide) rfl ?_
              refine z_xP zt112 19 60 [some (.ref 4), some (.int p1), some (.int p2), some (.int p3), some (.int p4), some (.int p5), some (.ref a22), some (.ref a32), some (.int 0)] [.int p3, .ref 11, .ref a32, .ref a22] rfl rfl ?_
              have f11 : T[11]? = some (.inr (11, 2, 8, 5, 0)) := X.1.k rfl (by decide)
              refine z_xal zt112 20 rfl X f11 (by decide) (by decide) (by decide) (by omega) (by omega) (fun (a72 : Nat) h73 h74 => ?_) (fun h75 => absurd h75 (z_Gt (hG.go X (by decide)).2.1 h43 (by omega) (by omega)))
              obtain ⟨q76, t77, m78, k79⟩ : ∃ q t m, T[a72]? = some (.inl (3, q, t, m, 5)) := h74
              have g80 := X.1.p3 k79
              have h81 := z_Gm (hG.go X (by decide)).2.2 X.1 (z_cll (n := 8) (by omega) (by decide)) h50 h73 k56 k79
              refine z_xP zt112 21 66 [some (.ref 4), some (.int p1), some (.int p2), some (.int p3), some (.int p4), some (.int p5), some (.ref a22), some (.ref a32), some (.int 0)] [.int 1, .int p5, .int p4, .ref a72, .ref a32, .ref a22] rfl rfl ?_
              refine z_xJ zt112 22 rfl rfl (fun (h82 : p5.toInt ≠ 1) => ?_) (fun (h82 : p5.toInt = 1) => absurd h82 (by omega))
              refine z_xP zt112 24 74 [some (.ref 4), some (.int p1), some (.int p2), some (.int p3), some (.int p4), some (.int p5), some (.ref a22), some (.ref a32), some (.int 0)] [.int 0, .int p4, .ref a72, .ref a32, .ref a22] rfl rfl ?_
              refine z_xcV (vs := [.ref a22, .ref a32, .ref a72, .int p4, .int 0]) (r := []) (L2 := [some (.ref a22), some (.ref a32), some (.ref a72), some (.int p4), some (.int 0), none, none, none]) zt112 25 rfl zo112 zzcV0_252 (Or.inr rfl) rfl X k28 (z_w8 (fun c => (([(4, 113), (10, 113), (7, 113), (5, 113), (11, 113), (8, 113), (6, 113), (9, 113)] : List (Nat × Nat)).find? fun t => t.1 == c) = some (c, 113)) rfl rfl rfl rfl rfl rfl rfl rfl w27) rfl rfl (Nat.le_of_ble_eq_true rfl) zzm113 (Nat.le_of_ble_eq_true rfl) rfl ?_
              have q0 : ((0 : Int32)).toInt = 0 := rfl
              have q0 : ((0 : Int32)).toInt = 0 := rfl
              refine z_ev.told (z_Qt T) (hbk.ke X.2 (by decide)) X.1 (z_qLc (z_rvr (z_pb.way w27 k28)) (z_qLc (z_rvr (z_pb.way w37 k38)) (z_qLc (z_rvr (z_pb.ben k79 ⟨_, _, _, k79⟩)) (z_qLc z_rvi (z_qLc z_rvi (z_qLn (z_qLn (z_qLn z_qL0)))))))) z_qS0 ?_
              refine zC113 X.1 w27 k28 w37 k38 k79 (by omega) (by decide) (fun x85 M83 X84  => ?_)
              intro ho86
              have X87 := X.go X84 (z_sb (by decide))
              show z_ev (d + 5) 112 77 [some (.ref 4), some (.int p1), some (.int p2), some (.int p3), some (.int p4), some (.int p5), some (.ref a22), some (.ref a32), some (.int 0)] [.int x85] M83 _
              exact z_xri zt112 26 rfl zzr112 (kk x85 M83 X87 (z_oth.refl.trans ho86))
            refine z_xP zt103 14 38 [some (.ref 4), some (.int p3), some (.int p4), some (.ref a59)] [.int (-4)] rfl rfl ?_
            refine z_xri zt103 16 rfl zzr103 ?_
            show z_ev (d + 5) 112 41 [some (.ref 4), some (.int p1), some (.int p2), some (.int p3), some (.int p4), some (.int p5), some (.ref a22), some (.ref a32), none] [.int (-4)] M0 _
            refine z_xP zt112 13 45 [some (.ref 4), some (.int p1), some (.int p2), some (.int p3), some (.int p4), some (.int p5), some (.ref a22), some (.ref a32), some (.int (-4))] [.int (-4)] rfl rfl ?_
            refine z_xZ zt112 14 rfl rfl (fun (h89 : ((-4) : Int) = 0) => absurd h89 (by omega)) (fun (h89 : ((-4) : Int) ≠ 0) => ?_)
            refine z_xP zt112 15 50 [some (.ref 4), some (.int p1), some (.int p2), some (.int p3), some (.int p4), some (.int p5), some (.ref a22), some (.ref a32), some (.int (-4))] [.int (-4)] rfl rfl ?_
            have qm4 : (((-4) : Int32)).toInt = (-4) := rfl
            exact z_xri zt112 16 rfl zzr112 (kk (-4) M0 X z_oth.refl)
          refine z_xP zt103 7 21 [some (.ref 4), some (.int p3), some (.int p4), some (.ref a59)] [.int (-1)] rfl rfl ?_
          refine z_xri zt103 8 rfl zzr103 ?_
          show z_ev (d + 5) 112 41 [some (.ref 4), some (.int p1), some (.int p2), some (.int p3), some (.int p4), some (.int p5), some (.ref a22), some (.ref a32), none] [.int (-1)] M0 _
          refine z_xP zt112 13 45 [some (.ref 4), some (.int p1), some (.int p2), some (.int p3), some (.int p4), some (.int p5), some (.ref a22), some (.ref a32), some (.int (-1))] [.int (-1)] rfl rfl ?_
          refine z_xZ zt112 14 rfl rfl (fun (h90 : ((-1) : Int) = 0) => absurd h90 (by omega)) (fun (h90 : ((-1) : Int) ≠ 0) => ?_)
          refine z_xP zt112 15 50 [some (.ref 4), some (.int p1), some (.int p2), some (.int p3), some (.int p4), some (.int p5), some (.ref a22), some (.ref a32), some (.int (-1))] [.int (-1)] rfl rfl ?_
          have qm1 : (((-1) : Int32)).toInt = (-1) := rfl
          exact z_xri zt112 16 rfl zzr112 (kk (-1) M0 X z_oth.refl)
        refine z_xP zt37 5 25 [some (.ref 4), some (.int p3)] [.null] rfl rfl ?_
        refine z_xrn zt37 11 rfl zzr37 ?_
        show z_ev (d + 4) 103 5 [some (.ref 4), some (.int p3), some (.int p4), none] [.null] M0 _
        refine z_xP zt103 2 20 [some (.ref 4), some (.int p3), some (.int p4), some (.null)] [] rfl rfl ?_
        refine z_xP zt103 7 21 [some (.ref 4), some (.int p3), some (.int p4), some (.null)] [.int (-1)] rfl rfl ?_
        refine z_xri zt103 8 rfl zzr103 ?_
        show z_ev (d + 5) 112 41 [some (.ref 4), some (.int p1), some (.int p2), some (.int p3), some (.int p4), some (.int p5), some (.ref a22), some (.ref a32), none] [.int (-1)] M0 _
        refine z_xP zt112 13 45 [some (.ref 4), some (.int p1), some (.int p2), some (.int p3), some (.int p4), some (.int p5), some (.ref a22), some (.ref a32), some (.int (-1))] [.int (-1)] rfl rfl ?_
        refine z_xZ zt112 14 rfl rfl (fun (h91 : ((-1) : Int) = 0) => absurd h91 (by omega)) (fun (h91 : ((-1) : Int) ≠ 0) => ?_)
        refine z_xP zt112 15 50 [some (.ref 4), some (.int p1), some (.int p2), some (.int p3), some (.int p4), some (.int p5), some (.ref a22), some (.ref a32), some (.int (-1))] [.int (-1)] rfl rfl ?_
        have qm1 : (((-1) : Int32)).toInt = (-1) := rfl
        exact z_xri zt112 16 rfl zzr112 (kk (-1) M0 X z_oth.refl)
      refine z_xP zt64 2 6 [some (.int p5)] [.int 1, .int p5] rfl rfl ?_
      refine z_xJ zt64 3 rfl rfl (fun (h92 : p5.toInt ≠ 1) => ?_) (fun (h92 : p5.toInt = 1) => ?_)
      · skip
        refine z_xP zt64 5 14 [some (.int p5)] [.int 0] rfl rfl ?_
        refine z_xrz zt64 6 rfl zzr64 (by decide) (by decide) ?_
        show z_ev (d + 5) 112 29 [some (.ref 4), some (.int p1), some (.int p2), some (.int p3), some (.int p4), some (.int p5), some (.ref a22), some (.ref a32), none] [.int 0] M0 _
        refine z_xZ zt112 8 rfl rfl (fun (h93 : (0 : Int) ≠ 0) => absurd h93 (by omega)) (fun (h93 : (0 : Int) = 0) => ?_)
        refine z_xP zt112 9 33 [some (.ref 4), some (.int p1), some (.int p2), some (.int p3), some (.int p4), some (.int p5), some (.ref a22), some (.ref a32), none] [.int (-1)] rfl rfl ?_
        have qm1 : (((-1) : Int32)).toInt = (-1) := rfl
        exact z_xri zt112 10 rfl zzr112 (kk (-1) M0 X z_oth.refl)
      refine z_xP zt64 4 14 [some (.int p5)] [.int 1] rfl rfl ?_
      refine z_xrz zt64 6 rfl zzr64 (by decide) (by decide) ?_
      show z_ev (d + 5) 112 29 [some (.ref 4), some (.int p1), some (.int p2), some (.int p3), some (.int p4), some (.int p5), some (.ref a22), some (.ref a32), none] [.int 1] M0 _
      refine z_xZ zt112 8 rfl rfl (fun (h94 : (1 : Int) ≠ 0) => ?_) (fun (h94 : (1 : Int) = 0) => absurd h94 (by omega))
      refine z_xP zt112 11 38 [some (.ref 4), some (.int p1), some (.int p2), some (.int p3), some (.int p4), some (.int p5), some (.ref a22), some (.ref a32), none] [.int p4, .int p3, .ref 4] rfl rfl ?_
      refine z_xcV (vs := [.ref 4, .int p3, .int p4]) (r := []) (L2 := [some (.ref 4), some (.int p3), some (.int p4), none]) zt112 12 rfl zo112 zzcV0_241 (Or.inl rfl) rfl X f4 rfl rfl rfl (Nat.le_of_ble_eq_true rfl) zzm103 (Nat.le_of_ble_eq_true rfl) rfl ?_
      refine z_xP zt103 0 2 [some (.ref 4), some (.int p3), some (.int p4), none] [.int p3, .ref 4] rfl rfl ?_
      refine z_xcV (vs := [.ref 4, .int p3]) (r := []) (L2 := [some (.ref 4), some (.int p3)]) zt103 1 rfl zo103 zzcV0_108 (Or.inl rfl) rfl X f4 rfl rfl rfl (Nat.le_of_ble_eq_true rfl) zzm37 (Nat.le_of_ble_eq_true rfl) rfl ?_
      refine z_xP zt37 0 1 [some (.ref 4), some (.int p3)] [.int p3] rfl rfl ?_
      refine z_xZ zt37 1 rfl rfl (fun (h95 : p3.toInt < 0) => ?_) (fun (h95 : 0 ≤ p3.toInt) => ?_)
      · skip
        refine z_xP zt37 5 25 [some (.ref 4), some (.int p3)] [.null] rfl rfl ?_
        refine z_xrn zt37 11 rfl zzr37 ?_
        show z_ev (d + 4) 103 5 [some (.ref 4), some (.int p3), some (.int p4), none] [.null] M0 _
        refine z_xP zt103 2 20 [some (.ref 4), some (.int p3), some (.int p4), some (.null)] [] rfl rfl ?_
        refine z_xP zt103 7 21 [some (.ref 4), some (.int p3), some (.int p4), some (.null)] [.int (-1)] rfl rfl ?_
        refine z_xri zt103 8 rfl zzr103 ?_
        show z_ev (d + 5) 112 41 [some (.ref 4), some (.int p1), some (.int p2), some (.int p3), some (.int p4), some (.int p5), some (.ref a22), some (.ref a32), none] [.int (-1)] M0 _
        refine z_xP zt112 13 45 [some (.ref 4), some (.int p1), some (.int p2), some (.int p3), some (.int p4), some (.int p5), some (.ref a22), some (.ref a32), some (.int (-1))] [.int (-1)] rfl rfl ?_
        refine z_xZ zt112 14 rfl rfl (fun (h96 : ((-1) : Int) = 0) => absurd h96 (by omega)) (fun (h96 : ((-1) : Int) ≠ 0) => ?_)
        refine z_xP zt112 15 50 [some (.ref 4), some (.int p1), some (.int p2), some (.int p3), some (.int p4), some (.int p5), some (.ref a22), some (.ref a32), some (.int (-1))] [.int (-1)] rfl rfl ?_
        have qm1 : (((-1) : Int32)).toInt = (-1) := rfl
        exact z_xri zt112 16 rfl zzr112 (kk (-1) M0 X z_oth.refl)
      refine z_xP zt37 2 6 [some (.ref 4), some (.int p3)] [.ref 4, .int p3] rfl rfl ?_
      refine z_xgI zt37 3 rfl zo37 zzf0_59 X f4 (by decide) (by decide) rfl (fun (x98 : Int32) h97 (h99 : 0 ≤ x98.toInt) (h100 : x98.toInt ≤ 8) => ?_)
      have h101 := z_b32 p3
      refine z_xJ zt37 4 rfl rfl (fun (h102 : p3.toInt < x98.toInt) => ?_) (fun (h102 : x98.toInt ≤ p3.toInt) => ?_)
      · skip
        refine z_xP zt37 6 17 [some (.ref 4), some (.int p3)] [.ref 4] rfl rfl ?_
        refine z_xgX (b := 10) zt37 7 rfl zo37 zzf0_18 X f4 (by decide) (by decide) rfl ?_
        refine z_xP zt37 8 21 [some (.ref 4), some (.int p3)] [.int p3, .ref 10] rfl rfl ?_
        have f10 : T[10]? = some (.inr (10, 2, 8, 9, 0)) := X.1.k rfl (by decide)
        refine z_xal zt37 9 rfl X f10 (by decide) (by decide) (by decide) (by omega) (by omega) (fun (a103 : Nat) h104 h105 => ?_) (fun h106 => absurd h106 (z_Gs (hG.go X (by decide)).2.1 h97 (by omega) (by omega)))
        obtain ⟨q107, t108, m109, k110⟩ : ∃ q t m, T[a103]? = some (.inl (3, q, t, m, 9)) := h105
        have g111 := X.1.p3 k110
        refine z_xgR (κ := .inl (2, q107, t108, m109, 0)) zt37 10 rfl zo37 zzf0_89 X k110 (by decide) (by decide) rfl (fun (a113 : Nat) h112 k114 => ?_)
        have g115 := X.1.p2 k114
        refine z_xra zt37 11 rfl zzr37 ?_
        show z_ev (d + 4) 103 5 [some (.ref 4), some (.int p3), some (.int p4), none] [.ref a113] M0 _
        refine z_xP zt103 2 10 [some (.ref 4), some (.int p3), some (.int p4), some (.ref a113)] [] rfl rfl ?_
        refine z_xP zt103 3 12 [some (.ref 4), some (.int p3), some (.int p4), some (.ref a113)] [.int 1, .int p4] rfl rfl ?_
        refine z_xJ zt103 4 rfl rfl (fun (h116 : p4.toInt < 1) => ?_) (fun (h116 : 1 ≤ p4.toInt) => ?_)
        · skip
          refine z_xP zt103 7 21 [some (.ref 4), some (.int p3), some (.int p4), some (.ref a113)] [.int (-1)] rfl rfl ?_
          refine z_xri zt103 8 rfl zzr103 ?_
          show z_ev (d + 5) 112 41 [some (.ref 4), some (.int p1), some (.int p2), some (.int p3), some (.int p4), some (.int p5), some (.ref a22), some (.ref a32), none] [.int (-1)] M0 _
          refine z_xP zt112 13 45 [some (.ref 4), some (.int p1), some (.int p2), some (.int p3), some (.int p4), some (.int p5), some (.ref a22), some (.ref a32), some (.int (-1))] [.int (-1)] rfl rfl ?_
          refine z_xZ zt112 14 rfl rfl (fun (h117 : ((-1) : Int) = 0) => absurd h117 (by omega)) (fun (h117 : ((-1) : Int) ≠ 0) => ?_)
          refine z_xP zt112 15 50 [some (.ref 4), some (.int p1), some (.int p2), some (.int p3), some (.int p4), some (.int p5), some (.ref a22), some (.ref a32), some (.int (-1))] [.int (-1)] rfl rfl ?_
          have qm1 : (((-1) : Int32)).toInt = (-1) := rfl
          exact z_xri zt112 16 rfl zzr112 (kk (-1) M0 X z_oth.refl)
        refine z_xP zt103 5 17 [some (.ref 4), some (.int p3), some (.int p4), some (.ref a113)] [.int 5, .int p4] rfl rfl ?_
        refine z_xJ zt103 6 rfl rfl (fun (h118 : p4.toInt ≤ 5) => ?_) (fun (h118 : 5 < p4.toInt) => ?_)
        · skip
          refine z_xP zt103 9 23 [some (.ref 4), some (.int p3), some (.int p4), some (.ref a113)] [.ref a113] rfl rfl ?_
          refine z_xgR (κ := .inr (102, 0, m109, 0, 1023)) zt103 10 rfl zo103 zzf0_74 X k114 (by decide) (by decide) rfl (fun (a120 : Nat) h119 k121 => ?_)
          refine z_xln zt103 11 rfl X k121 (by decide) (by omega) (fun (x122 : Int32) (h123 : x122.toInt = ((m109 : Nat) : Int)) => ?_)
          refine z_xP zt103 12 29 [some (.ref 4), some (.int p3), some (.int p4), some (.ref a113)] [.int 12, .int x122] rfl rfl ?_
          refine z_xJ zt103 13 rfl rfl (fun (h124 : x122.toInt ≤ 12) => ?_) (fun (h124 : 12 < x122.toInt) => ?_)
          · skip
            refine z_xP zt103 15 38 [some (.ref 4), some (.int p3), some (.int p4), some (.ref a113)] [.int 0] rfl rfl ?_
            refine z_xri zt103 16 rfl zzr103 ?_
            show z_ev (d + 5) 112 41 [some (.ref 4), some (.int p1), some (.int p2), some (.int p3), some (.int p4), some (.int p5), some (.ref a22), some (.ref a32), none] [.int 0] M0 _
            refine z_xP zt112 13 45 [some (.ref 4), some (.int p1), some (.int p2), some (.int p3), some (.int p4), some (.int p5), some (.ref a22), some (.ref a32), some (.int 0)] [.int 0] rfl rfl ?_
            refine z_xZ zt112 14 rfl rfl (fun (h125 : (0 : Int) = 0) => ?_) (fun (h125 : (0 : Int) ≠ 0) => absurd h125 (by omega))
            refine z_xP zt112 17 56 [some (.ref 4), some (.int p1), some (.int p2), some (.int p3), some (.int p4), some (.int p5), some (.ref a22), some (.ref a32), some (.int 0)] [.ref 4, .ref a32, .ref a22] rfl rfl ?_
            refine z_xgX (b := 11) zt112 18 rfl zo112 zzf0_22 X f4 (by decide) (by decide) rfl ?_
            refine z_xP zt112 19 60 [some (.ref 4), some (.int p1), some (.int p2), some (.int p3), some (.int p4), some (.int p5), some (.ref a22), some (.ref a32), some (.int 0)] [.int p3, .ref 11, .ref a32, .ref a22] rfl rfl ?_
            have f11 : T[11]? = some (.inr (11, 2, 8, 5, 0)) := X.1.k rfl (by decide)
            refine z_xal zt112 20 rfl X f11 (by decide) (by decide) (by decide) (by omega) (by omega) (fun (a126 : Nat) h127 h128 => ?_) (fun h129 => absurd h129 (z_Gt (hG.go X (by decide)).2.1 h97 (by omega) (by omega)))
            obtain ⟨q130, t131, m132, k133⟩ : ∃ q t m, T[a126]? = some (.inl (3, q, t, m, 5)) := h128
            have g134 := X.1.p3 k133
            have h135 := z_Gm (hG.go X (by decide)).2.2 X.1 (z_cll (n := 8) (by omega) (by decide)) h104 h127 k110 k133
            refine z_xP zt112 21 66 [some (.ref 4), some (.int p1), some (.int p2), some (.int p3), some (.int p4), some (.int p5), some (.ref a22), some (.ref a32), some (.int 0)] [.int 1, .int p5, .int p4, .ref a126, .ref a32, .ref a22] rfl rfl ?_
            refine z_xJ zt112 22 rfl rfl (fun (h136 : p5.toInt ≠ 1) => absurd h136 (by omega)) (fun (h136 : p5.toInt = 1) => ?_)
            refine z_xP zt112 23 74 [some (.ref 4), some (.int p1), some (.int p2), some (.int p3), some (.int p4), some (.int p5), some (.ref a22), some (.ref a32), some (.int 0)] [.int 1, .int p4, .ref a126, .ref a32, .ref a22] rfl rfl ?_
            refine z_xcV (vs := [.ref a22, .ref a32, .ref a126, .int p4, .int 1]) (r := []) (L2 := [some (.ref a22), some (.ref a32), some (.ref a126), some (.int p4), some (.int 1), none, none, none]) zt112 25 rfl zo112 zzcV0_252 (Or.inr rfl) rfl X k28 (z_w8 (fun c => (([(4, 113), (10, 113), (7, 113), (5, 113), (11, 113), (8, 113), (6, 113), (9, 113)] : List (Nat × Nat)).find? fun t => t.1 == c) = some (c, 113)) rfl rfl rfl rfl rfl rfl rfl rfl w27) rfl rfl (Nat.le_of_ble_eq_true rfl) zzm113 (Nat.le_of_ble_eq_true rfl) rfl ?_
            have q1 : ((1 : Int32)).toInt = 1 := rfl
            have q1 : ((1 : Int32)).toInt = 1 := rfl
            refine z_ev.told (z_Qt T) (hbk.ke X.2 (by decide)) X.1 (z_qLc (z_rvr (z_pb.way w27 k28)) (z_qLc (z_rvr (z_pb.way w37 k38)) (z_qLc (z_rvr (z_pb.ben k133 ⟨_, _, _, k133⟩)) (z_qLc z_rvi (z_qLc z_rvi (z_qLn (z_qLn (z_qLn z_qL0)))))))) z_qS0 ?_
            refine zC113 X.1 w27 k28 w37 k38 k133 (by omega) (by decide) (fun x139 M137 X138  => ?_)
            intro ho140
            have X141 := X.go X138 (z_sb (by decide))
            show z_ev (d + 5) 112 77 [some (.ref 4), some (.int p1), some (.int p2), some (.int p3), some (.int p4), some (.int p5), some (.ref a22), some (.ref a32), some (.int 0)] [.int x139] M137 _
            exact z_xri zt112 26 rfl zzr112 (kk x139 M137 X141 (z_oth.refl.trans ho140))
          refine z_xP zt103 14 38 [some (.ref 4), some (.int p3), some (.int p4), some (.ref a113)] [.int (-4)] rfl rfl ?_
          refine z_xri zt103 16 rfl zzr103 ?_
          show z_ev (d + 5) 112 41 [some (.ref 4), some (.int p1), some (.int p2), some (.int p3), some (.int p4), some (.int p5), some (.ref a22), some (.ref a32), none] [.int (-4)] M0 _
          refine z_xP zt112 13 45 [some (.ref 4), some (.int p1), some (.int p2), some (.int p3), some (.int p4), some (.int p5), some (.ref a22), some (.ref a32), some (.int (-4))] [.int (-4)] rfl rfl ?_
          refine z_xZ zt112 14 rfl rfl (fun (h143 : ((-4) : Int) = 0) => absurd h143 (by omega)) (fun (h143 : ((-4) : Int) ≠ 0) => ?_)
          refine z_xP zt112 15 50 [some (.ref 4), some (.int p1), some (.int p2), some (.int p3), some (.int p4), some (.int p5), some (.ref a22), some (.ref a32), some (.int (-4))] [.int (-4)] rfl rfl ?_
          have qm4 : (((-4) : Int32)).toInt = (-4) := rfl
          exact z_xri zt112 16 rfl zzr112 (kk (-4) M0 X z_oth.refl)
        refine z_xP zt103 7 21 [some (.ref 4), some (.int p3), some (.int p4), some (.ref a113)] [.int (-1)] rfl rfl ?_
        refine z_xri zt103 8 rfl zzr103 ?_
        show z_ev (d + 5) 112 41 [some (.ref 4), some (.int p1), some (.int p2), some (.int p3), some (.int p4), some (.int p5), some (.ref a22), some (.ref a32), none] [.int (-1)] M0 _
        refine z_xP zt112 13 45 [some (.ref 4), some (.int p1), some (.int p2), some (.int p3), some (.int p4), some (.int p5), some (.ref a22), some (.ref a32), some (.int (-1))] [.int (-1)] rfl rfl ?_
        refine z_xZ zt112 14 rfl rfl (fun (h144 : ((-1) : Int) = 0) => absurd h144 (by omega)) (fun (h144 : ((-1) : Int) ≠ 0) => ?_)
        refine z_xP zt112 15 50 [some (.ref 4), some (.int p1), some (.int p2), some (.int p3), some (.int p4), some (.int p5), some (.ref a22), some (.ref a32), some (.int (-1))] [.int (-1)] rfl rfl ?_
        have qm1 : (((-1) : Int32)).toInt = (-1) := rfl
        exact z_xri zt112 16 rfl zzr112 (kk (-1) M0 X z_oth.refl)
      refine z_xP zt37 5 25 [some (.ref 4), some (.int p3)] [.null] rfl rfl ?_
      refine z_xrn zt37 11 rfl zzr37 ?_
      show z_ev (d + 4) 103 5 [some (.ref 4), some (.int p3), some (.int p4), none] [.null] M0 _
      refine z_xP zt103 2 20 [some (.ref 4), some (.int p3), some (.int p4), some (.null)] [] rfl rfl ?_
      refine z_xP zt103 7 21 [some (.ref 4), some (.int p3), some (.int p4), some (.null)] [.int (-1)] rfl rfl ?_
      refine z_xri zt103 8 rfl zzr103 ?_
      show z_ev (d + 5) 112 41 [some (.ref 4), some (.int p1), some (.int p2), some (.int p3), some (.int p4), some (.int p5), some (.ref a22), some (.ref a32), none] [.int (-1)] M0 _
      refine z_xP zt112 13 45 [some (.ref 4), some (.int p1), some (.int p2), some (.int p3), some (.int p4), some (.int p5), some (.ref a22), some (.ref a32), some (.int (-1))] [.int (-1)] rfl rfl ?_
      refine z_xZ zt112 14 rfl rfl (fun (h145 : ((-1) : Int) = 0) => absurd h145 (by omega)) (fun (h145 : ((-1) : Int) ≠ 0) => ?_)
      refine z_xP zt112 15 50 [some (.ref 4), some (.int p1), some (.int p2), some (.int p3), some (.int p4), some (.int p5), some (.ref a22), some (.ref a32), some (.int (-1))] [.int (-1)] rfl rfl ?_
      have qm1 : (((-1) : Int32)).toInt = (-1) := rfl
      exact z_xri zt112 16 rfl zzr112 (kk (-1) M0 X z_oth.refl)
    refine z_xP zt84 5 22 [some (.ref 4), some (.int p2)] [.null] rfl rfl ?_
    refine z_xrn zt84 10 rfl zzr84 ?_
    show z_ev (d + 5) 112 12 [some (.ref 4), some (.int p1), some (.int p2), some (.int p3), some (.int p4), some (.int p5), some (.ref a22), none, none] [.null] M0 _
    refine z_xP zt112 4 19 [some (.ref 4), some (.int p1), some (.int p2), some (.int p3), some (.int p4), some (.int p5), some (.ref a22), some (.null), none] [] rfl rfl ?_
    refine z_xP zt112 5 32 [some (.ref 4), some (.int p1), some (.int p2), some (.int p3), some (.int p4), some (.int p5), some (.ref a22), some (.null), none] [] rfl rfl ?_
    refine z_xP zt112 9 33 [some (.ref 4), some (.int p1), some (.int p2), some (.int p3), some (.int p4), some (.int p5), some (.ref a22), some (.null), none] [.int (-1)] rfl rfl ?_
    have qm1 : (((-1) : Int32)).toInt = (-1) := rfl
    exact z_xri zt112 10 rfl zzr112 (kk (-1) M0 X z_oth.refl)
  refine z_xP zt84 5 22 [some (.ref 4), some (.int p1)] [.null] rfl rfl ?_
  refine z_xrn zt84 10 rfl zzr84 ?_
  show z_ev (d + 5) 112 5 [some (.ref 4), some (.int p1), some (.int p2), some (.int p3), some (.int p4), some (.int p5), none, none, none] [.null] M0 _
  refine z_xP zt112 2 9 [some (.ref 4), some (.int p1), some (.int p2), some (.int p3), some (.int p4), some (.int p5), some (.null), none, none] [.int p2, .ref 4] rfl rfl ?_
  refine z_xcV (vs := [.ref 4, .int p2]) (r := []) (L2 := [some (.ref 4), some (.int p2)]) zt112 3 rfl zo112 zzcV0_221 (Or.inl rfl) rfl X f4 rfl rfl rfl (Nat.le_of_ble_eq_true rfl) zzm84 (Nat.le_of_ble_eq_true rfl) rfl ?_
  refine z_xP zt84 0 1 [some (.ref 4), some (.int p2)] [.int p2] rfl rfl ?_
  refine z_xZ zt84 1 rfl rfl (fun (h146 : p2.toInt < 0) => ?_) (fun (h146 : 0 ≤ p2.toInt) => ?_)
  · skip
    refine z_xP zt84 5 22 [some (.ref 4), some (.int p2)] [.null] rfl rfl ?_
    refine z_xrn zt84 10 rfl zzr84 ?_
    show z_ev (d + 5) 112 12 [some (.ref 4), some (.int p1), some (.int p2), some (.int p3), some (.int p4), some (.int p5), some (.null), none, none] [.null] M0 _
    refine z_xP zt112 4 32 [some (.ref 4), some (.int p1), some (.int p2), some (.int p3), some (.int p4), some (.int p5), some (.null), some (.null), none] [] rfl rfl ?_
    refine z_xP zt112 9 33 [some (.ref 4), some (.int p1), some (.int p2), some (.int p3), some (.int p4), some (.int p5), some (.null), some (.null), none] [.int (-1)] rfl rfl ?_
    have qm1 : (((-1) : Int32)).toInt = (-1) := rfl
    exact z_xri zt112 10 rfl zzr112 (kk (-1) M0 X z_oth.refl)
  refine z_xP zt84 2 6 [some (.ref 4), some (.int p2)] [.ref 4, .int p2] rfl rfl ?_
  refine z_xgv zt84 3 rfl zo84 zzf0_188 X f4 (by decide) h16 ?_
  have h147 := z_b32 p2
  refine z_xJ zt84 4 rfl rfl (fun (h148 : p2.toInt < x17.toInt) => ?_) (fun (h148 : x17.toInt ≤ p2.toInt) => ?_)
  · skip
    refine z_xP zt84 6 17 [some (.ref 4), some (.int p2)] [.ref 4] rfl rfl ?_
    refine z_xgX (b := 12) zt84 7 rfl zo84 zzf0_27 X f4 (by decide) (by decide) rfl ?_
    refine z_xP zt84 8 21 [some (.ref 4), some (.int p2)] [.int p2, .ref 12] rfl rfl ?_
    have f12 : T[12]? = some (.inr (12, 3, 20, 0, 0)) := X.1.k rfl (by decide)
    refine z_xal zt84 9 rfl X f12 (by decide) (by decide) (by decide) (by omega) (by omega) (fun (a149 : Nat) h150 h151 => ?_) (fun h152 => absurd h152 (z_Gb (hG.go X (by decide)).2.1 h16 (by omega) (by omega)))
    obtain ⟨c153, w154l, w154u, k155⟩ : ∃ ci, 4 ≤ ci ∧ ci ≤ 11 ∧ T[a149]? = some (.inl (ci, 0, 0, 0, 0)) := h151
    have w154 := And.intro w154l w154u
    refine z_xra zt84 10 rfl zzr84 ?_
    show z_ev (d + 5) 112 12 [some (.ref 4), some (.int p1), some (.int p2), some (.int p3), some (.int p4), some (.int p5), some (.null), none, none] [.ref a149] M0 _
    refine z_xP zt112 4 32 [some (.ref 4), some (.int p1), some (.int p2), some (.int p3), some (.int p4), some (.int p5), some (.null), some (.ref a149), none] [] rfl rfl ?_
    refine z_xP zt112 9 33 [some (.ref 4), some (.int p1), some (.int p2), some (.int p3), some (.int p4), some (.int p5), some (.null), some (.ref a149), none] [.int (-1)] rfl rfl ?_
    have qm1 : (((-1) : Int32)).toInt = (-1) := rfl
    exact z_xri zt112 10 rfl zzr112 (kk (-1) M0 X z_oth.refl)
  refine z_xP zt84 5 22 [some (.ref 4), some (.int p2)] [.null] rfl rfl ?_
  refine z_xrn zt84 10 rfl zzr84 ?_
  show z_ev (d + 5) 112 12 [some (.ref 4), some (.int p1), some (.int p2), some (.int p3), some (.int p4), some (.int p5), some (.null), none, none] [.null] M0 _
  refine z_xP zt112 4 32 [some (.ref 4), some (.int p1), some (.int p2), some (.int p3), some (.int p4), some (.int p5), some (.null), some (.null), none] [] rfl rfl ?_
  refine z_xP zt112 9 33 [some (.ref 4), some (.int p1), some (.int p2), some (.int p3), some (.int p4), some (.int p5), some (.null), some (.null), none] [.int (-1)] rfl rfl ?_
  have qm1 : (((-1) : Int32)).toInt = (-1) := rfl
  exact z_xri zt112 10 rfl zzr112 (kk (-1) M0 X z_oth.refl)
theorem zOC114 {T : List zK} {d : Nat} {K : Option Value → zH → Prop} {p1 : Int32} {p2 : Int32} {p3 : Int32} {p4 : Int32} {M0 : zH} (hW : z_W M0 T) (hW0 : z_W M0 T) (hbk : z_blk T M0) (hG : z_GG T M0) (kk : ∀ (x : Int32) (M1 : zH), z_X T zw114 M0 M1 → z_oth T (z_Qt T) M0 M1 → K (some (.int x)) M1) : z_ev (d + 5) 114 0 [some (.ref 4), some (.int p1), some (.int p2), some (.int p3), some (.int p4), none, none, none] [] M0 K := by
  have X : z_X T zw114 M0 M0 := .refl hW
  refine z_xP zt114 0 2 [some (.ref 4), some (.int p1), some (.int p2), some (.int p3), some (.int p4), none, none, none] [.int p1, .ref 4] rfl rfl ?_
  have f4 : T[4]? = some (.inl (0, 0, 0, 0, 0)) := X.1.k rfl (by decide)
  refine z_xcV (vs := [.ref 4, .int p1]) (r := []) (L2 := [some (.ref 4), some (.int p1)]) zt114 1 rfl zo114 zzcV0_221 (Or.inl rfl) rfl X f4 rfl rfl rfl (Nat.le_of_ble_eq_true rfl) zzm84 (Nat.le_of_ble_eq_true rfl) rfl ?_
  refine z_xP zt84 0 1 [some (.ref 4), some (.int p1)] [.int p1] rfl rfl ?_
  refine z_xZ zt84 1 rfl rfl (fun (h1 : p1.toInt < 0) => ?_) (fun (h1 : 0 ≤ p1.toInt) => ?_)
  · skip
    refine z_xP zt84 5 22 [some (.ref 4), some (.int p1)] [.null] rfl rfl ?_
    refine z_xrn zt84 10 rfl zzr84 ?_
    show z_ev (d + 5) 114 5 [some (.ref 4), some (.int p1), some (.int p2), some (.int p3), some (.int p4), none, none, none] [.null] M0 _
    refine z_xP zt114 2 9 [some (.ref 4), some (.int p1), some (.int p2), some (.int p3), some (.int p4), some (.null), none, none] [.int p2, .ref 4] rfl rfl ?_
    refine z_xcV (vs := [.ref 4, .int p2]) (r := []) (L2 := [some (.ref 4), some (.int p2)]) zt114 3 rfl zo114 zzcV0_108 (Or.inl rfl) rfl X f4 rfl rfl rfl (Nat.le_of_ble_eq_true rfl) zzm37 (Nat.le_of_ble_eq_true rfl) rfl ?_
    refine z_xP zt37 0 1 [some (.ref 4), some (.int p2)] [.int p2] rfl rfl ?_
    refine z_xZ zt37 1 rfl rfl (fun (h2 : p2.toInt < 0) => ?_) (fun (h2 : 0 ≤ p2.toInt) => ?_)
    · skip
      refine z_xP zt37 5 25 [some (.ref 4), some (.int p2)] [.null] rfl rfl ?_
      refine z_xrn zt37 11 rfl zzr37 ?_
      show z_ev (d + 5) 114 12 [some (.ref 4), some (.int p1), some (.int p2), some (.int p3), some (.int p4), some (.null), none, none] [.null] M0 _
      refine z_xP zt114 4 34 [some (.ref 4), some (.int p1), some (.int p2), some (.int p3), some (.int p4), some (.null), some (.null), none] [] rfl rfl ?_
      refine z_xP zt114 9 35 [some (.ref 4), some (.int p1), some (.int p2), some (.int p3), some (.int p4), some (.null), some (.null), none] [.int (-1)] rfl rfl ?_
      have qm1 : (((-1) : Int32)).toInt = (-1) := rfl
      exact z_xri zt114 10 rfl zzr114 (kk (-1) M0 X z_oth.refl)
    refine z_xP zt37 2 6 [some (.ref 4), some (.int p2)] [.ref 4, .int p2] rfl rfl ?_
    refine z_xgI zt37 3 rfl zo37 zzf0_59 X f4 (by decide) (by decide) rfl (fun (x4 : Int32) h3 (h5 : 0 ≤ x4.toInt) (h6 : x4.toInt ≤ 8) => ?_)
    have h7 := z_b32 p2
    refine z_xJ zt37 4 rfl rfl (fun (h8 : p2.toInt < x4.toInt) => ?_) (fun (h8 : x4.toInt ≤ p2.toInt) => ?_)
    · skip
      refine z_xP zt37 6 17 [some (.ref 4), some (.int p2)] [.ref 4] rfl rfl ?_
      refine z_xgX (b := 10) zt37 7 rfl zo37 zzf0_18 X f4 (by decide) (by decide) rfl ?_
      refine z_xP zt37 8 21 [some (.ref 4), some (.int p2)] [.int p2, .ref 10] rfl rfl ?_
      have f10 : T[10]? = some (.inr (10, 2, 8, 9, 0)) := X.1.k rfl (by decide)
      refine z_xal zt37 9 rfl X f10 (by decide) (by decide) (by decide) (by omega) (by omega) (fun (a9 : Nat) h10 h11 => ?_) (fun h12 => absurd h12 (z_Gs (hG.go X (by decide)).2.1 h3 (by omega) (by omega)))
      obtain ⟨q13, t14, m15, k16⟩ : ∃ q t m, T[a9]? = some (.inl (3, q, t, m, 9)) := h11
      have g17 := X.1.p3 k16
      refine z_xgR (κ := .inl (2, q13, t14, m15, 0)) zt37 10 rfl zo37 zzf0_89 X k16 (by decide) (by decide) rfl (fun (a19 : Nat) h18 k20 => ?_)
      have g21 := X.1.p2 k20
      refine z_xra zt37 11 rfl zzr37 ?_
      show z_ev (d + 5) 114 12 [some (.ref 4), some (.int p1), some (.int p2), some (.int p3), some (.int p4), some (.null), none, none] [.ref a19] M0 _
      refine z_xP zt114 4 34 [some (.ref 4), some (.int p1), some (.int p2), some (.int p3), some (.int p4), some (.null), some (.ref a19), none] [] rfl rfl ?_
      refine z_xP zt114 9 35 [some (.ref 4), some (.int p1), some (.int p2), some (.int p3), some (.int p4), some (.null), some (.ref a19), none] [.int (-1)] rfl rfl ?_
      have qm1 : (((-1) : Int32)).toInt = (-1) := rfl
      exact z_xri zt114 10 rfl zzr114 (kk (-1) M0 X z_oth.refl)
    refine z_xP zt37 5 25 [some (.ref 4), some (.int p2)] [.null] rfl rfl ?_
    refine z_xrn zt37 11 rfl zzr37 ?_
    show z_ev (d + 5) 114 12 [some (.ref 4), some (.int p1), some (.int p2), some (.int p3), some (.int p4), some (.null), none, none] [.null] M0 _
    refine z_xP zt114 4 34 [some (.ref 4), some (.int p1), some (.int p2), some (.int p3), some (.int p4), some (.null), some (.null), none] [] rfl rfl ?_
    refine z_xP zt114 9 35 [some (.ref 4), some (.int p1), some (.int p2), some (.int p3), some (.int p4), some (.null), some (.null), none] [.int (-1)] rfl rfl ?_
    have qm1 : (((-1) : Int32)).toInt = (-1) := rfl
    exact z_xri zt114 10 rfl zzr114 (kk (-1) M0 X z_oth.refl)
  refine z_xP zt84 2 6 [some (.ref 4), some (.int p1)] [.ref 4, .int p1] rfl rfl ?_
  refine z_xgI zt84 3 rfl zo84 zzf0_188 X f4 (by decide) (by decide) rfl (fun (x23 : Int32) h22 (h24 : 0 ≤ x23.toInt) (h25 : x23.toInt ≤ 20) => ?_)
  have h26 := z_b32 p1
  refine z_xJ zt84 4 rfl rfl (fun (h27 : p1.toInt < x23.toInt) => ?_) (fun (h27 : x23.toInt ≤ p1.toInt) => ?_)
  · skip
    refine z_xP zt84 6 17 [some (.ref 4), some (.int p1)] [.ref 4] rfl rfl ?_
    refine z_xgX (b := 12) zt84 7 rfl zo84 zzf0_27 X f4 (by decide) (by decide) rfl ?_
    refine z_xP zt84 8 21 [some (.ref 4), some (.int p1)] [.int p1, .ref 12] rfl rfl ?_
    have f12 : T[12]? = some (.inr (12, 3, 20, 0, 0)) := X.1.k rfl (by decide)
    refine z_xal zt84 9 rfl X f12 (by decide) (by decide) (by decide) (by omega) (by omega) (fun (a28 : Nat) h29 h30 => ?_) (fun h31 => absurd h31 (z_Gb (hG.go X (by decide)).2.1 h22 (by omega) (by omega)))
    obtain ⟨c32, w33l, w33u, k34⟩ : ∃ ci, 4 ≤ ci ∧ ci ≤ 11 ∧ T[a28]? = some (.inl (ci, 0, 0, 0, 0)) := h30
    have w33 := And.intro w33l w33u
    refine z_xra zt84 10 rfl zzr84 ?_
    show z_ev (d + 5) 114 5 [some (.ref 4), some (.int p1), some (.int p2), some (.int p3), some (.int p4), none, none, none] [.ref a28] M0 _
    refine z_xP zt114 2 9 [some (.ref 4), some (.int p1), some (.int p2), some (.int p3), some (.int p4), some (.ref a28), none, none] [.int p2, .ref 4] rfl rfl ?_
    refine z_xcV (vs := [.ref 4, .int p2]) (r := []) (L2 := [some (.ref 4), some (.int p2)]) zt114 3 rfl zo114 zzcV0_108 (Or.inl rfl) rfl X f4 rfl rfl rfl (Nat.le_of_ble_eq_true rfl) zzm37 (Nat.le_of_ble_eq_true rfl) rfl ?_
    refine z_xP zt37 0 1 [some (.ref 4), some (.int p2)] [.int p2] rfl rfl ?_
    refine z_xZ zt37 1 rfl rfl (fun (h35 : p2.toInt < 0) => ?_) (fun (h35 : 0 ≤ p2.toInt) => ?_)
    · skip
      refine z_xP zt37 5 25 [some (.ref 4), some (.int p2)] [.null] rfl rfl ?_
      refine z_xrn zt37 11 rfl zzr37 ?_
      show z_ev (d + 5) 114 12 [some (.ref 4), some (.int p1), some (.int p2), some (.int p3), some (.int p4), some (.ref a28), none, none] [.null] M0 _
      refine z_xP zt114 4 19 [some (.ref 4), some (.int p1), some (.int p2), some (.int p3), some (.int p4), some (.ref a28), some (.null), none] [] rfl rfl ?_
      refine z_xP zt114 5 34 [some (.ref 4), some (.int p1), some (.int p2), some (.int p3), some (.int p4), some (.ref a28), some (.null), none] [] rfl rfl ?_
      refine z_xP zt114 9 35 [some (.ref 4), some (.int p1), some (.int p2), some (.int p3), some (.int p4), some (.ref a28), some (.null), none] [.int (-1)] rfl rfl ?_
      have qm1 : (((-1) : Int32)).toInt = (-1) := rfl
      exact z_xri zt114 10 rfl zzr114 (kk (-1) M0 X z_oth.refl)
    refine z_xP zt37 2 6 [some (.ref 4), some (.int p2)] [.ref 4, .int p2] rfl rfl ?_
    refine z_xgI zt37 3 rfl zo37 zzf0_59 X f4 (by decide) (by decide) rfl (fun (x37 : Int32) h36 (h38 : 0 ≤ x37.toInt) (h39 : x37.toInt ≤ 8) => ?_)
    have h40 := z_b32 p2
    refine z_xJ zt37 4 rfl rfl (fun (h41 : p2.toInt < x37.toInt) => ?_) (fun (h41 : x37.toInt ≤ p2.toInt) => ?_)
    · skip
      refine z_xP zt37 6 17 [some (.ref 4), some (.int p2)] [.ref 4] rfl rfl ?_
      refine z_xgX (b := 10) zt37 7 rfl zo37 zzf0_18 X f4 (by decide) (by decide) rfl ?_
      refine z_xP zt37 8 21 [some (.ref 4), some (.int p2)] [.int p2, .ref 10] rfl rfl ?_
      have f10 : T[10]? = some (.inr (10, 2, 8, 9, 0)) := X.1.k rfl (by decide)
      refine z_xal zt37 9 rfl X f10 (by decide) (by decide) (by decide) (by omega) (by omega) (fun (a42 : Nat) h43 h44 => ?_) (fun h45 => absurd h45 (z_Gs (hG.go X (by decide)).2.1 h36 (by omega) (by omega)))
      obtain ⟨q46, t47, m48, k49⟩ : ∃ q t m, T[a42]? = some (.inl (3, q, t, m, 9)) := h44
      have g50 := X.1.p3 k49
      refine z_xgR (κ := .inl (2, q46, t47, m48, 0)) zt37 10 rfl zo37 zzf0_89 X k49 (by decide) (by decide) rfl (fun (a52 : Nat) h51 k53 => ?_)
      have g54 := X.1.p2 k53
      refine z_xra zt37 11 rfl zzr37 ?_
      show z_ev (d + 5) 114 12 [some (.ref 4), some (.int p1), some (.int p2), some (.int p3), some (.int p4), some (.ref a28), none, none] [.ref a52] M0 _
      refine z_xP zt114 4 19 [some (.ref 4), some (.int p1), some (.int p2), some (.int p3), some (.int p4), some (.ref a28), some (.ref a52), none] [] rfl rfl ?_
      refine z_xP zt114 5 24 [some (.ref 4), some (.int p1), some (.int p2), some (.int p3), some (.int p4), some (.ref a28), some (.ref a52), none] [] rfl rfl ?_
      refine z_xP zt114 6 28 [some (.ref 4), some (.int p1), some (.int p2), some (.int p3), some (.int p4), some (.ref a28), some (.ref a52), none] [.int p4, .ref a52] rfl rfl ?_
      refine z_xcV (vs := [.ref a52, .int p4]) (r := []) (L2 := [some (.ref a52), some (.int p4)]) zt114 7 rfl zo114 zzcV0_129 (Or.inl rfl) rfl X k53 rfl rfl rfl (Nat.le_of_ble_eq_true rfl) zzm48 (Nat.le_of_ble_eq_true rfl) rfl ?_
      refine z_xP zt48 0 1 [some (.ref a52), some (.int p4)] [.int p4] rfl rfl ?_
      refine z_xZ zt48 1 rfl rfl (fun (h55 : p4.toInt < 0) => ?_) (fun (h55 : 0 ≤ p4.toInt) => ?_)
      · skip
        refine z_xP zt48 6 17 [some (.ref a52), some (.int p4)] [.int 0] rfl rfl ?_
        refine z_xrz zt48 7 rfl zzr48 (by decide) (by decide) ?_
        show z_ev (d + 5) 114 31 [some (.ref 4), some (.int p1), some (.int p2), some (.int p3), some (.int p4), some (.ref a28), some (.ref a52), none] [.int 0] M0 _
        refine z_xZ zt114 8 rfl rfl (fun (h56 : (0 : Int) ≠ 0) => absurd h56 (by omega)) (fun (h56 : (0 : Int) = 0) => ?_)
        refine z_xP zt114 9 35 [some (.ref 4), some (.int p1), some (.int p2), some (.int p3), some (.int p4), some (.ref a28), some (.ref a52), none] [.int (-1)] rfl rfl ?_
        have qm1 : (((-1) : Int32)).toInt = (-1) := rfl
        exact z_xri zt114 10 rfl zzr114 (kk (-1) M0 X z_oth.refl)
      refine z_xP zt48 2 6 [some (.ref a52), some (.int p4)] [.ref a52, .int p4] rfl rfl ?_
      refine z_xgI zt48 3 rfl zo48 zzf2_15 X k53 (by decide) (by decide) rfl (fun (x58 : Int32) h57 (h59 : (q46 : Int) ≤ x58.toInt) (h60 : x58.toInt ≤ (q46 : Int)) => ?_)
      have h61 := z_b32 p4
      refine z_xJ zt48 4 rfl rfl (fun (h62 : x58.toInt ≤ p4.toInt) => ?_) (fun (h62 : p4.toInt < x58.toInt) => ?_)
      · skip
        refine z_xP zt48 6 17 [some (.ref a52), some (.int p4)] [.int 0] rfl rfl ?_
        refine z_xrz zt48 7 rfl zzr48 (by decide) (by decide) ?_
        show z_ev (d + 5) 114 31 [some (.ref 4), some (.int p1), some (.int p2), some (.int p3), some (.int p4), some (.ref a28), some (.ref a52), none] [.int 0] M0 _
        refine z_xZ zt114 8 rfl rfl (fun (h63 : (0 : Int) ≠ 0) => absurd h63 (by omega)) (fun (h63 : (0 : Int) = 0) => ?_)
        refine z_xP zt114 9 35 [some (.ref 4), some (.int p1), some (.int p2), some (.int p3), some (.int p4), some (.ref a28), some (.ref a52), none] [.int (-1)] rfl rfl ?_
        have qm1 : (((-1) : Int32)).toInt = (-1) := rfl
        exact z_xri zt114 10 rfl zzr114 (kk (-1) M0 X z_oth.refl)
      refine z_xP zt48 5 17 [some (.ref a52), some (.int p4)] [.int 1] rfl rfl ?_
      refine z_xrz zt48 7 rfl zzr48 (by decide) (by decide) ?_
      show z_ev (d + 5) 114 31 [some (.ref 4), some (.int p1), some (.int p2), some (.int p3), some (.int p4), some (.ref a28), some (.ref a52), none] [.int 1] M0 _
      refine z_xZ zt114 8 rfl rfl (fun (h64 : (1 : Int) ≠ 0) => ?_) (fun (h64 : (1 : Int) = 0) => absurd h64 (by omega))
      refine z_xP zt114 11 39 [some (.ref 4), some (.int p1), some (.int p2), some (.int p3), some (.int p4), some (.ref a28), some (.ref a52), none] [.int p3, .int p2, .ref 4] rfl rfl ?_
      refine z_xcV (vs := [.ref 4, .int p2, .int p3]) (r := []) (L2 := [some (.ref 4), some (.int p2), some (.int p3), none]) zt114 12 rfl zo114 zzcV0_241 (Or.inl rfl) rfl X f4 rfl rfl rfl (Nat.le_of_ble_eq_true rfl) zzm103 (Nat.le_of_ble_eq_true rfl) rfl ?_
      refine z_xP zt103 0 2 [some (.ref 4), some (.int p2), some (.int p3), none] [.int p2, .ref 4] rfl rfl ?_
      refine z_xcV (vs := [.ref 4, .int p2]) (r := []) (L2 := [some (.ref 4), some (.int p2)]) zt103 1 rfl zo103 zzcV0_108 (Or.inl rfl) rfl X f4 rfl rfl rfl (Nat.le_of_ble_eq_true rfl) zzm37 (Nat.le_of_ble_eq_true rfl) rfl ?_
      refine z_xP zt37 0 1 [some (.ref 4), some (.int p2)] [.int p2] rfl rfl ?_
      refine z_xZ zt37 1 rfl rfl (fun (h65 : p2.toInt < 0) => absurd h65 (by omega)) (fun (h65 : 0 ≤ p2.toInt) => ?_)
      refine z_xP zt37 2 6 [some (.ref 4), some (.int p2)] [.ref 4, .int p2] rfl rfl ?_
      refine z_xgv zt37 3 rfl zo37 zzf0_59 X f4 (by decide) h36 ?_
      refine z_xJ zt37 4 rfl rfl (fun (h66 : p2.toInt < x37.toInt) => ?_) (fun (h66 : x37.toInt ≤ p2.toInt) => ?_)
      · skip
        refine z_xP zt37 6 17 [some (.ref 4), some (.int p2)] [.ref 4] rfl rfl ?_
        refine z_xgX (b := 10) zt37 7 rfl zo37 zzf0_18 X f4 (by decide) (by decide) rfl ?_
        refine z_xP zt37 8 21 [some (.ref 4), some (.int p2)] [.int p2, .ref 10] rfl rfl ?_
        refine z_xalv zt37 9 rfl X f10 (by decide) (by decide) (by decide) (by omega) (by omega) h43 ?_
        refine z_xgv zt37 10 rfl zo37 zzf0_89 X k49 (by decide) h51 ?_
        refine z_xra zt37 11 rfl zzr37 ?_
        show z_ev (d + 4) 103 5 [some (.ref 4), some (.int p2), some (.int p3), none] [.ref a52] M0 _
        refine z_xP zt103 2 10 [some (.ref 4), some (.int p2), some (.int p3), some (.ref a52)] [] rfl rfl ?_
        refine z_xP zt103 3 12 [some (.ref 4), some (.int p2), some (.int p3), some (.ref a52)] [.int 1, .int p3] rfl rfl ?_
        refine z_xJ zt103 4 rfl rfl (fun (h67 : p3.toInt < 1) => ?_) (fun (h67 : 1 ≤ p3.toInt) => ?_)
        · skip
          refine z_xP zt103 7 21 [some (.ref 4), some (.int p2), some (.int p3), some (.ref a52)] [.int (-1)] rfl rfl ?_
          refine z_xri zt103 8 rfl zzr103 ?_
          show z_ev (d + 5) 114 42 [some (.ref 4), some (.int p1), some (.int p2), some (.int p3), some (.int p4), some (.ref a28), some (.ref a52), none] [.int (-1)] M0 _
          refine z_xP zt114 13 46 [some (.ref 4), some (.int p1), some (.int p2), some (.int p3), some (.int p4), some (.ref a28), some (.ref a52), some (.int (-1))] [.int (-1)] rfl rfl ?_
          refine z_xZ zt114 14 rfl rfl (fun (h68 : ((-1) : Int) = 0) => absurd h68 (by omega)) (fun (h68 : ((-1) : Int) ≠ 0) => ?_)
          refine z_xP zt114 15 51 [some (.ref 4), some (.int p1), some (.int p2), some (.int p3), some (.int p4), some (.ref a28), some (.ref a52), some (.int (-1))] [.int (-1)] rfl rfl ?_
          have qm1 : (((-1) : Int32)).toInt = (-1) := rfl
          exact z_xri zt114 16 rfl zzr114 (kk (-1) M0 X z_oth.refl)
        refine z_xP zt103 5 17 [some (.ref 4), some (.int p2), some (.int p3), some (.ref a52)] [.int 5, .int p3] rfl rfl ?_
        refine z_xJ zt103 6 rfl rfl (fun (h69 : p3.toInt ≤ 5) => ?_) (fun (h69 : 5 < p3.toInt) => ?_)
        · skip
          refine z_xP zt103 9 23 [some (.ref 4), some (.int p2), some (.int p3), some (.ref a52)] [.ref a52] rfl rfl ?_
          refine z_xgR (κ := .inr (102, 0, m48, 0, 1023)) zt103 10 rfl zo103 zzf0_74 X k53 (by decide) (by decide) rfl (fun (a71 : Nat) h70 k72 => ?_)
          refine z_xln zt103 11 rfl X k72 (by decide) (by omega) (fun (x73 : Int32) (h74 : x73.toInt = ((m48 : Nat) : Int)) => ?_)
          refine z_xP zt103 12 29 [some (.ref 4), some (.int p2), some (.int p3), some (.ref a52)] [.int 12, .int x73] rfl rfl ?_
          refine z_xJ zt103 13 rfl rfl (fun (h75 : x73.toInt ≤ 12) => ?_) (fun (h75 : 12 < x73.toInt) => ?_)
          · skip
            refine z_xP zt103 15 38 [some (.ref 4), some (.int p2), some (.int p3), some (.ref a52)] [.int 0] rfl rfl ?_
            refine z_xri zt103 16 rfl zzr103 ?_
            show z_ev (d + 5) 114 42 [some (.ref 4), some (.int p1), some (.int p2), some (.int p3), some (.int p4), some (.ref a28), some (.ref a52), none] [.int 0] M0 _
            refine z_xP zt114 13 46 [some (.ref 4), some (.int p1), some (.int p2), some (.int p3), some (.int p4), some (.ref a28), some (.ref a52), some (.int 0)] [.int 0] rfl rfl ?_
            refine z_xZ zt114 14 rfl rfl (fun (h76 : (0 : Int) = 0) => ?_) (fun (h76 : (0 : Int) ≠ 0) => absurd h76 (by omega))
            refine z_xP zt114 17 55 [some (.ref 4), some (.int p1), some (.int p2), some (.int p3), some (.int p4), some (.ref a28), some (.ref a52), some (.int 0)] [.ref 4, .ref a28] rfl rfl ?_
            refine z_xgX (b := 11) zt114 18 rfl zo114 zzf0_22 X f4 (by decide) (by decide) rfl ?_
            refine z_xP zt114 19 59 [some (.ref 4), some (.int p1), some (.int p2), some (.int p3), some (.int p4), some (.ref a28), some (.ref a52), some (.int 0)] [.int p2, .ref 11, .ref a28] rfl rfl ?_
            have f11 : T[11]? = some (.inr (11, 2, 8, 5, 0)) := X.1.k rfl (by decide)
            refine z_xal zt114 20 rfl X f11 (by decide) (by decide) (by decide) (by omega) (by omega) (fun (a77 : Nat) h78 h79 => ?_) (fun h80 => absurd h80 (z_Gt (hG.go X (by decide)).2.1 h36 (by omega) (by omega)))
            obtain ⟨q81, t82, m83, k84⟩ : ∃ q t m, T[a77]? = some (.inl (3, q, t, m, 5)) := h79
            have g85 := X.1.p3 k84
            have h86 := z_Gm (hG.go X (by decide)).2.2 X.1 (z_cll (n := 8) (by omega) (by decide)) h43 h78 k49 k84
            refine z_xP zt114 21 63 [some (.ref 4), some (.int p1), some (.int p2), some (.int p3), some (.int p4), some (.ref a28), some (.ref a52), some (.int 0)] [.int p4, .int p3, .ref a77, .ref a28] rfl rfl ?_
            refine z_xcV (vs := [.ref a28, .ref a77, .int p3, .int p4]) (r := []) (L2 := [some (.ref a28), some (.ref a77), some (.int p3), some (.int p4), none, none, none]) zt114 22 rfl zo114 zzcV0_256 (Or.inr rfl) rfl X k34 (z_w8 (fun c => (([(4, 115), (10, 115), (7, 115), (5, 115), (11, 115), (8, 115), (6, 115), (9, 115)] : List (Nat × Nat)).find? fun t => t.1 == c) = some (c, 115)) rfl rfl rfl rfl rfl rfl rfl rfl w33) rfl rfl (Nat.le_of_ble_eq_true rfl) zzm115 (Nat.le_of_ble_eq_true rfl) rfl ?_
            refine z_ev.told (z_Qt T) (hbk.ke X.2 (by decide)) X.1 (z_qLc (z_rvr (z_pb.way w33 k34)) (z_qLc (z_rvr (z_pb.ben k84 ⟨_, _, _, k84⟩)) (z_qLc z_rvi (z_qLc z_rvi (z_qLn (z_qLn (z_qLn z_qL0))))))) z_qS0 ?_
            refine zC115 X.1 w33 k34 k84 (by omega) (by omega) (fun x89 M87 X88  => ?_)
            intro ho90
            have X91 := X.go X88 (z_sb (by decide))
            show z_ev (d + 5) 114 66 [some (.ref 4), some (.int p1), some (.int p2), some (.int p3), some (.int p4), some (.ref a28), some (.ref a52), some (.int 0)] [.int x89] M87 _
            exact z_xri zt114 23 rfl zzr114 (kk x89 M87 X91 (z_oth.refl.trans ho90))
          refine z_xP zt103 14 38 [some (.ref 4), some (.int p2), some (.int p3), some (.ref a52)] [.int (-4)] rfl rfl ?_
          refine z_xri zt103 16 rfl zzr103 ?_
          show z_ev (d + 5) 114 42 [some (.ref 4), some (.int p1), some (.int p2), some (.int p3), some (.int p4), some (.ref a28), some (.ref a52), none] [.int (-4)] M0 _
          refine z_xP zt114 13 46 [some (.ref 4), some (.int p1), some (.int p2), some (.int p3), some (.int p4), some (.ref a28), some (.ref a52), some (.int (-4))] [.int (-4)] rfl rfl ?_
          refine z_xZ zt114 14 rfl rfl (fun (h93 : ((-4) : Int) = 0) => absurd h93 (by omega)) (fun (h93 : ((-4) : Int) ≠ 0) => ?_)
          refine z_xP zt114 15 51 [some (.ref 4), some (.int p1), some (.int p2), some (.int p3), some (.int p4), some (.ref a28), some (.ref a52), some (.int (-4))] [.int (-4)] rfl rfl ?_
          have qm4 : (((-4) : Int32)).toInt = (-4) := rfl
          exact z_xri zt114 16 rfl zzr114 (kk (-4) M0 X z_oth.refl)
        refine z_xP zt103 7 21 [some (.ref 4), some (.int p2), some (.int p3), some (.ref a52)] [.int (-1)] rfl rfl ?_
        refine z_xri zt103 8 rfl zzr103 ?_
        show z_ev (d + 5) 114 42 [some (.ref 4), some (.int p1), some (.int p2), some (.int p3), some (.int p4), some (.ref a28), some (.ref a52), none] [.int (-1)] M0 _
        refine z_xP zt114 13 46 [some (.ref 4), some (.int p1), some (.int p2), some (.int p3), some (.int p4), some (.ref a28), some (.ref a52), some (.int (-1))] [.int (-1)] rfl rfl ?_
        refine z_xZ zt114 14 rfl rfl (fun (h94 : ((-1) : Int) = 0) => absurd h94 (by omega)) (fun (h94 : ((-1) : Int) ≠ 0) => ?_)
        refine z_xP zt114 15 51 [some (.ref 4), some (.int p1), some (.int p2), some (.int p3), some (.int p4), some (.ref a28), some (.ref a52), some (.int (-1))] [.int (-1)] rfl rfl ?_
        have qm1 : (((-1) : Int32)).toInt = (-1) := rfl
        exact z_xri zt114 16 rfl zzr114 (kk (-1) M0 X z_oth.refl)
      refine z_xP zt37 5 25 [some (.ref 4), some (.int p2)] [.null] rfl rfl ?_
      refine z_xrn zt37 11 rfl zzr37 ?_
      show z_ev (d + 4) 103 5 [some (.ref 4), some (.int p2), some (.int p3), none] [.null] M0 _
      refine z_xP zt103 2 20 [some (.ref 4), some (.int p2), some (.int p3), some (.null)] [] rfl rfl ?_
      refine z_xP zt103 7 21 [some (.ref 4), some (.int p2), some (.int p3), some (.null)] [.int (-1)] rfl rfl ?_
      refine z_xri zt103 8 rfl zzr103 ?_
      show z_ev (d + 5) 114 42 [some (.ref 4), some (.int p1), some (.int p2), some (.int p3), some (.int p4), some (.ref a28), some (.ref a52), none] [.int (-1)] M0 _
      refine z_xP zt114 13 46 [some (.ref 4), some (.int p1), some (.int p2), some (.int p3), some (.int p4), some (.ref a28), some (.ref a52), some (.int (-1))] [.int (-1)] rfl rfl ?_
      refine z_xZ zt114 14 rfl rfl (fun (h95 : ((-1) : Int) = 0) => absurd h95 (by omega)) (fun (h95 : ((-1) : Int) ≠ 0) => ?_)
      refine z_xP zt114 15 51 [some (.ref 4), some (.int p1), some (.int p2), some (.int p3), some (.int p4), some (.ref a28), some (.ref a52), some (.int (-1))] [.int (-1)] rfl rfl ?_
      have qm1 : (((-1) : Int32)).toInt = (-1) := rfl
      exact z_xri zt114 16 rfl zzr114 (kk (-1) M0 X z_oth.refl)
    refine z_xP zt37 5 25 [some (.ref 4), some (.int p2)] [.null] rfl rfl ?_
    refine z_xrn zt37 11 rfl zzr37 ?_
    show z_ev (d + 5) 114 12 [some (.ref 4), some (.int p1), some (.int p2), some (.int p3), some (.int p4), some (.ref a28), none, none] [.null] M0 _
    refine z_xP zt114 4 19 [some (.ref 4), some (.int p1), some (.int p2), some (.int p3), some (.int p4), some (.ref a28), some (.null), none] [] rfl rfl ?_
    refine z_xP zt114 5 34 [some (.ref 4), some (.int p1), some (.int p2), some (.int p3), some (.int p4), some (.ref a28), some (.null), none] [] rfl rfl ?_
    refine z_xP zt114 9 35 [some (.ref 4), some (.int p1), some (.int p2), some (.int p3), some (.int p4), some (.ref a28), some (.null), none] [.int (-1)] rfl rfl ?_
    have qm1 : (((-1) : Int32)).toInt = (-1) := rfl
    exact z_xri zt114 10 rfl zzr114 (kk (-1) M0 X z_oth.refl)
  refine z_xP zt84 5 22 [some (.ref 4), some (.int p1)] [.null] rfl rfl ?_
  refine z_xrn zt84 10 rfl zzr84 ?_
  show z_ev (d + 5) 114 5 [some (.ref 4), some (.int p1), some (.int p2), some (.int p3), some (.int p4), none, none, none] [.null] M0 _
  refine z_xP zt114 2 9 [some (.ref 4), some (.int p1), some (.int p2), some (.int p3), some (.int p4), some (.null), none, none] [.int p2, .ref 4] rfl rfl ?_
  refine z_xcV (vs := [.ref 4, .int p2]) (r := []) (L2 := [some (.ref 4), some (.int p2)]) zt114 3 rfl zo114 zzcV0_108 (Or.inl rfl) rfl X f4 rfl rfl rfl (Nat.le_of_ble_eq_true rfl) zzm37 (Nat.le_of_ble_eq_true rfl) rfl ?_
  refine z_xP zt37 0 1 [some (.ref 4), some (.int p2)] [.int p2] rfl rfl ?_
  refine z_xZ zt37 1 rfl rfl (fun (h96 : p2.toInt < 0) => ?_) (fun (h96 : 0 ≤ p2.toInt) => ?_)
  · skip
    refine z_xP zt37 5 25 [some (.ref 4), some (.int p2)] [.null] rfl rfl ?_
    refine z_xrn zt37 11 rfl zzr37 ?_
    show z_ev (d + 5) 114 12 [some (.ref 4), some (.int p1), some (.int p2), some (.int p3), some (.int p4), some (.null), none, none] [.null] M0 _
    refine z_xP zt114 4 34 [some (.ref 4), some (.int p1), some (.int p2), some (.int p3), some (.int p4), some (.null), some (.null), none] [] rfl rfl ?_
    refine z_xP zt114 9 35 [some (.ref 4), some (.int p1), some (.int p2), some (.int p3), some (.int p4), some (.null), some (.null), none] [.int (-1)] rfl rfl ?_
    have qm1 : (((-1) : Int32)).toInt = (-1) := rfl
    exact z_xri zt114 10 rfl zzr114 (kk (-1) M0 X z_oth.refl)
  refine z_xP zt37 2 6 [some (.ref 4), some (.int p2)] [.ref 4, .int p2] rfl rfl ?_
  refine z_xgI zt37 3 rfl zo37 zzf0_59 X f4 (by decide) (by decide) rfl (fun (x98 : Int32) h97 (h99 : 0 ≤ x98.toInt) (h100 : x98.toInt ≤ 8) => ?_)
  have h101 := z_b32 p2
  refine z_xJ zt37 4 rfl rfl (fun (h102 : p2.toInt < x98.toInt) => ?_) (fun (h102 : x98.toInt ≤ p2.toInt) => ?_)
  · skip
    refine z_xP zt37 6 17 [some (.ref 4), some (.int p2)] [.ref 4] rfl rfl ?_
    refine z_xgX (b := 10) zt37 7 rfl zo37 zzf0_18 X f4 (by decide) (by decide) rfl ?_
    refine z_xP zt37 8 21 [some (.ref 4), some (.int p2)] [.int p2, .ref 10] rfl rfl ?_
    have f10 : T[10]? = some (.inr (10, 2, 8, 9, 0)) := X.1.k rfl (by decide)
    refine z_xal zt37 9 rfl X f10 (by decide) (by decide) (by decide) (by omega) (by omega) (fun (a103 : Nat) h104 h105 => ?_) (fun h106 => absurd h106 (z_Gs (hG.go X (by decide)).2.1 h97 (by omega) (by omega)))
    obtain ⟨q107, t108, m109, k110⟩ : ∃ q t m, T[a103]? = some (.inl (3, q, t, m, 9)) := h105
    have g111 := X.1.p3 k110
    refine z_xgR (κ := .inl (2, q107, t108, m109, 0)) zt37 10 rfl zo37 zzf0_89 X k110 (by decide) (by decide) rfl (fun (a113 : Nat) h112 k114 => ?_)
    have g115 := X.1.p2 k114
    refine z_xra zt37 11 rfl zzr37 ?_
    show z_ev (d + 5) 114 12 [some (.ref 4), some (.int p1), some (.int p2), some (.int p3), some (.int p4), some (.null), none, none] [.ref a113] M0 _
    refine z_xP zt114 4 34 [some (.ref 4), some (.int p1), some (.int p2), some (.int p3), some (.int p4), some (.null), some (.ref a113), none] [] rfl rfl ?_
    refine z_xP zt114 9 35 [some (.ref 4), some (.int p1), some (.int p2), some (.int p3), some (.int p4), some (.null), some (.ref a113), none] [.int (-1)] rfl rfl ?_
    have qm1 : (((-1) : Int32)).toInt = (-1) := rfl
    exact z_xri zt114 10 rfl zzr114 (kk (-1) M0 X z_oth.refl)
  refine z_xP zt37 5 25 [some (.ref 4), some (.int p2)] [.null] rfl rfl ?_
  refine z_xrn zt37 11 rfl zzr37 ?_
  show z_ev (d + 5) 114 12 [some (.ref 4), some (.int p1), some (.int p2), some (.int p3), some (.int p4), some (.null), none, none] [.null] M0 _
  refine z_xP zt114 4 34 [some (.ref 4), some (.int p1), some (.int p2), some (.int p3), some (.int p4), some (.null), some (.null), none] [] rfl rfl ?_
  refine z_xP zt114 9 35 [some (.ref 4), some (.int p1), some (.int p2), some (.int p3), some (.int p4), some (.null), some (.null), none] [.int (-1)] rfl rfl ?_
  have qm1 : (((-1) : Int32)).toInt = (-1) := rfl
  exact z_xri zt114 10 rfl zzr114 (kk (-1) M0 X z_oth.refl)
theorem zOC129 {T : List zK} {d : Nat} {K : Option Value → zH → Prop} {p1 : Int32} {p2 : Int32} {p3 : Int32} {p4 : Int32} {M0 : zH} (hW : z_W M0 T) (hW0 : z_W M0 T) (hbk : z_blk T M0) (hG : z_GG T M0) (kk : ∀ (x : Int32) (M1 : zH), z_X T zw129 M0 M1 → (-4) ≤ x.toInt → x.toInt ≤ 215 → z_oth T (z_Qt T) M0 M1 → K (some (.int x)) M1) : z_ev (d + 5) 129 0 [some (.ref 4), some (.int p1), some (.int p2), some (.int p3), some (.int p4), none, none] [] M0 K := by
  have X : z_X T zw129 M0 M0 := .refl hW
  refine z_xP zt129 0 2 [some (.ref 4), some (.int p1), some (.int p2), some (.int p3), some (.int p4), none, none] [.int p1, .ref 4] rfl rfl ?_
  have f4 : T[4]? = some (.inl (0, 0, 0, 0, 0)) := X.1.k rfl (by decide)
  refine z_xcV (vs := [.ref 4, .int p1]) (r := []) (L2 := [some (.ref 4), some (.int p1)]) zt129 1 rfl zo129 zzcV0_221 (Or.inl rfl) rfl X f4 rfl rfl rfl (Nat.le_of_ble_eq_true rfl) zzm84 (Nat.le_of_ble_eq_true rfl) rfl ?_
  refine z_xP zt84 0 1 [some (.ref 4), some (.int p1)] [.int p1] rfl rfl ?_
  refine z_xZ zt84 1 rfl rfl (fun (h1 : p1.toInt < 0) => ?_) (fun (h1 : 0 ≤ p1.toInt) => ?_)
  · skip
    refine z_xP zt84 5 22 [some (.ref 4), some (.int p1)] [.null] rfl rfl ?_
    refine z_xrn zt84 10 rfl zzr84 ?_
    show z_ev (d + 5) 129 5 [some (.ref 4), some (.int p1), some (.int p2), some (.int p3), some (.int p4), none, none] [.null] M0 _
    refine z_xP zt129 2 23 [some (.ref 4), some (.int p1), some (.int p2), some (.int p3), some (.int p4), some (.null), none] [] rfl rfl ?_
    refine z_xP zt129 7 24 [some (.ref 4), some (.int p1), some (.int p2), some (.int p3), some (.int p4), some (.null), none] [.int (-1)] rfl rfl ?_
    have qm1 : (((-1) : Int32)).toInt = (-1) := rfl
    exact z_xri zt129 8 rfl zzr129 (kk (-1) M0 X (by omega) (by omega) z_oth.refl)
  refine z_xP zt84 2 6 [some (.ref 4), some (.int p1)] [.ref 4, .int p1] rfl rfl ?_
  refine z_xgI zt84 3 rfl zo84 zzf0_188 X f4 (by decide) (by decide) rfl (fun (x3 : Int32) h2 (h4 : 0 ≤ x3.toInt) (h5 : x3.toInt ≤ 20) => ?_)
  have h6 := z_b32 p1
  refine z_xJ zt84 4 rfl rfl (fun (h7 : p1.toInt < x3.toInt) => ?_) (fun (h7 : x3.toInt ≤ p1.toInt) => ?_)
  · skip
    refine z_xP zt84 6 17 [some (.ref 4), some (.int p1)] [.ref 4] rfl rfl ?_
    refine z_xgX (b := 12) zt84 7 rfl zo84 zzf0_27 X f4 (by decide) (by decide) rfl ?_
    refine z_xP zt84 8 21 [some (.ref 4), some (.int p1)] [.int p1, .ref 12] rfl rfl ?_
    have f12 : T[12]? = some (.inr (12, 3, 20, 0, 0)) := X.1.k rfl (by decide)
    refine z_xal zt84 9 rfl X f12 (by decide) (by decide) (by decide) (by omega) (by omega) (fun (a8 : Nat) h9 h10 => ?_) (fun h11 => absurd h11 (z_Gb (hG.go X (by decide)).2.1 h2 (by omega) (by omega)))
    obtain ⟨c12, w13l, w13u, k14⟩ : ∃ ci, 4 ≤ ci ∧ ci ≤ 11 ∧ T[a8]? = some (.inl (ci, 0, 0, 0, 0)) := h10
    have w13 := And.intro w13l w13u
    refine z_xra zt84 10 rfl zzr84 ?_
    show z_ev (d + 5) 129 5 [some (.ref 4), some (.int p1), some (.int p2), some (.int p3), some (.int p4), none, none] [.ref a8] M0 _
    refine z_xP zt129 2 12 [some (.ref 4), some (.int p1), some (.int p2), some (.int p3), some (.int p4), some (.ref a8), none] [] rfl rfl ?_
    refine z_xP zt129 3 14 [some (.ref 4), some (.int p1), some (.int p2), some (.int p3), some (.int p4), some (.ref a8), none] [.int p4] rfl rfl ?_
    refine z_xZ zt129 4 rfl rfl (fun (h15 : p4.toInt < 0) => ?_) (fun (h15 : 0 ≤ p4.toInt) => ?_)
    · skip
      refine z_xP zt129 7 24 [some (.ref 4), some (.int p1), some (.int p2), some (.int p3), some (.int p4), some (.ref a8), none] [.int (-1)] rfl rfl ?_
      have qm1 : (((-1) : Int32)).toInt = (-1) := rfl
      exact z_xri zt129 8 rfl zzr129 (kk (-1) M0 X (by omega) (by omega) z_oth.refl)
    refine z_xP zt129 5 20 [some (.ref 4), some (.int p1), some (.int p2), some (.int p3), some (.int p4), some (.ref a8), none] [.int 4, .int p4] rfl rfl ?_
    refine z_xJ zt129 6 rfl rfl (fun (h16 : p4.toInt ≤ 4) => ?_) (fun (h16 : 4 < p4.toInt) => ?_)
    · skip
      refine z_xP zt129 9 28 [some (.ref 4), some (.int p1), some (.int p2), some (.int p3), some (.int p4), some (.ref a8), none] [.int p3, .int p2, .ref 4] rfl rfl ?_
      refine z_xcV (vs := [.ref 4, .int p2, .int p3]) (r := []) (L2 := [some (.ref 4), some (.int p2), some (.int p3), none]) zt129 10 rfl zo129 zzcV0_274 (Or.inl rfl) rfl X f4 rfl rfl rfl (Nat.le_of_ble_eq_true rfl) zzm130 (Nat.le_of_ble_eq_true rfl) rfl ?_
      refine z_xP zt130 0 2 [some (.ref 4), some (.int p2), some (.int p3), none] [.int p2, .ref 4] rfl rfl ?_
      refine z_xcV (vs := [.ref 4, .int p2]) (r := []) (L2 := [some (.ref 4), some (.int p2)]) zt130 1 rfl zo130 zzcV0_108 (Or.inl rfl) rfl X f4 rfl rfl rfl (Nat.le_of_ble_eq_true rfl) zzm37 (Nat.le_of_ble_eq_true rfl) rfl ?_
      refine z_xP zt37 0 1 [some (.ref 4), some (.int p2)] [.int p2] rfl rfl ?_
      refine z_xZ zt37 1 rfl rfl (fun (h17 : p2.toInt < 0) => ?_) (fun (h17 : 0 ≤ p2.toInt) => ?_)
      · skip
        refine z_xP zt37 5 25 [some (.ref 4), some (.int p2)] [.null] rfl rfl ?_
        refine z_xrn zt37 11 rfl zzr37 ?_
        show z_ev (d + 4) 130 5 [some (.ref 4), some (.int p2), some (.int p3), none] [.null] M0 _
        refine z_xP zt130 2 20 [some (.ref 4), some (.int p2), some (.int p3), some (.null)] [] rfl rfl ?_
        refine z_xP zt130 7 21 [some (.ref 4), some (.int p2), some (.int p3), some (.null)] [.int (-1)] rfl rfl ?_
        refine z_xri zt130 8 rfl zzr130 ?_
        show z_ev (d + 5) 129 31 [some (.ref 4), some (.int p1), some (.int p2), some (.int p3), some (.int p4), some (.ref a8), none] [.int (-1)] M0 _
        refine z_xP zt129 11 35 [some (.ref 4), some (.int p1), some (.int p2), some (.int p3), some (.int p4), some (.ref a8), some (.int (-1))] [.int (-1)] rfl rfl ?_
        refine z_xZ zt129 12 rfl rfl (fun (h18 : ((-1) : Int) = 0) => absurd h18 (by omega)) (fun (h18 : ((-1) : Int) ≠ 0) => ?_)
        refine z_xP zt129 13 40 [some (.ref 4), some (.int p1), some (.int p2), some (.int p3), some (.int p4), some (.ref a8), some (.int (-1))] [.int (-1)] rfl rfl ?_
        have qm1 : (((-1) : Int32)).toInt = (-1) := rfl
        exact z_xri zt129 14 rfl zzr129 (kk (-1) M0 X (by omega) (by omega) z_oth.refl)
      refine z_xP zt37 2 6 [some (.ref 4), some (.int p2)] [.ref 4, .int p2] rfl rfl ?_
      refine z_xgI zt37 3 rfl zo37 zzf0_59 X f4 (by decide) (by decide) rfl (fun (x20 : Int32) h19 (h21 : 0 ≤ x20.toInt) (h22 : x20.toInt ≤ 8) => ?_)
      have h23 := z_b32 p2
      refine z_xJ zt37 4 rfl rfl (fun (h24 : p2.toInt < x20.toInt) => ?_) (fun (h24 : x20.toInt ≤ p2.toInt) => ?_)
      · skip
        refine z_xP zt37 6 17 [some (.ref 4), some (.int p2)] [.ref 4] rfl rfl ?_
        refine z_xgX (b := 10) zt37 7 rfl zo37 zzf0_18 X f4 (by decide) (by decide) rfl ?_
        refine z_xP zt37 8 21 [some (.ref 4), some (.int p2)] [.int p2, .ref 10] rfl rfl ?_
        have f10 : T[10]? = some (.inr (10, 2, 8, 9, 0)) := X.1.k rfl (by decide)
        refine z_xal zt37 9 rfl X f10 (by decide) (by decide) (by decide) (by omega) (by omega) (fun (a25 : Nat) h26 h27 => ?_) (fun h28 => absurd h28 (z_Gs (hG.go X (by decide)).2.1 h19 (by omega) (by omega)))
        obtain ⟨q29, t30, m31, k32⟩ : ∃ q t m, T[a25]? = some (.inl (3, q, t, m, 9)) := h27
        have g33 := X.1.p3 k32
        refine z_xgR (κ := .inl (2, q29, t30, m31, 0)) zt37 10 rfl zo37 zzf0_89 X k32 (by decide) (by decide) rfl (fun (a35 : Nat) h34 k36 => ?_)
        have g37 := X.1.p2 k36
        refine z_xra zt37 11 rfl zzr37 ?_
        show z_ev (d + 4) 130 5 [some (.ref 4), some (.int p2), some (.int p3), none] [.ref a35] M0 _
        refine z_xP zt130 2 10 [some (.ref 4), some (.int p2), some (.int p3), some (.ref a35)] [] rfl rfl ?_
        refine z_xP zt130 3 12 [some (.ref 4), some (.int p2), some (.int p3), some (.ref a35)] [.int 1, .int p3] rfl rfl ?_
        refine z_xJ zt130 4 rfl rfl (fun (h38 : p3.toInt < 1) => ?_) (fun (h38 : 1 ≤ p3.toInt) => ?_)
        · skip
          refine z_xP zt130 7 21 [some (.ref 4), some (.int p2), some (.int p3), some (.ref a35)] [.int (-1)] rfl rfl ?_
          refine z_xri zt130 8 rfl zzr130 ?_
          show z_ev (d + 5) 129 31 [some (.ref 4), some (.int p1), some (.int p2), some (.int p3), some (.int p4), some (.ref a8), none] [.int (-1)] M0 _
          refine z_xP zt129 11 35 [some (.ref 4), some (.int p1), some (.int p2), some (.int p3), some (.int p4), some (.ref a8), some (.int (-1))] [.int (-1)] rfl rfl ?_
          refine z_xZ zt129 12 rfl rfl (fun (h39 : ((-1) : Int) = 0) => absurd h39 (by omega)) (fun (h39 : ((-1) : Int) ≠ 0) => ?_)
          refine z_xP zt129 13 40 [some (.ref 4), some (.int p1), some (.int p2), some (.int p3), some (.int p4), some (.ref a8), some (.int (-1))] [.int (-1)] rfl rfl ?_
          have qm1 : (((-1) : Int32)).toInt = (-1) := rfl
          exact z_xri zt129 14 rfl zzr129 (kk (-1) M0 X (by omega) (by omega) z_oth.refl)
        refine z_xP zt130 5 17 [some (.ref 4), some (.int p2), some (.int p3), some (.ref a35)] [.int 3, .int p3] rfl rfl ?_
        refine z_xJ zt130 6 rfl rfl (fun (h40 : p3.toInt ≤ 3) => ?_) (fun (h40 : 3 < p3.toInt) => ?_)
        · skip
          refine z_xP zt130 9 23 [some (.ref 4), some (.int p2), some (.int p3), some (.ref a35)] [.ref a35] rfl rfl ?_
          refine z_xgR (κ := .inr (102, 0, m31, 0, 1023)) zt130 10 rfl zo130 zzf0_74 X k36 (by decide) (by decide) rfl (fun (a42 : Nat) h41 k43 => ?_)
          refine z_xln zt130 11 rfl X k43 (by decide) (by omega) (fun (x44 : Int32) (h45 : x44.toInt = ((m31 : Nat) : Int)) => ?_)
          refine z_xP zt130 12 29 [some (.ref 4), some (.int p2), some (.int p3), some (.ref a35)] [.int 6, .int x44] rfl rfl ?_
          refine z_xJ zt130 13 rfl rfl (fun (h46 : x44.toInt ≤ 6) => ?_) (fun (h46 : 6 < x44.toInt) => ?_)
          · skip
            refine z_xP zt130 15 38 [some (.ref 4), some (.int p2), some (.int p3), some (.ref a35)] [.int 0] rfl rfl ?_
            refine z_xri zt130 16 rfl zzr130 ?_
            show z_ev (d + 5) 129 31 [some (.ref 4), some (.int p1), some (.int p2), some (.int p3), some (.int p4), some (.ref a8), none] [.int 0] M0 _
            refine z_xP zt129 11 35 [some (.ref 4), some (.int p1), some (.int p2), some (.int p3), some (.int p4), some (.ref a8), some (.int 0)] [.int 0] rfl rfl ?_
            refine z_xZ zt129 12 rfl rfl (fun (h47 : (0 : Int) = 0) => ?_) (fun (h47 : (0 : Int) ≠ 0) => absurd h47 (by omega))
            refine z_xP zt129 15 44 [some (.ref 4), some (.int p1), some (.int p2), some (.int p3), some (.int p4), some (.ref a8), some (.int 0)] [.ref 4, .ref a8] rfl rfl ?_
            refine z_xgX (b := 11) zt129 16 rfl zo129 zzf0_22 X f4 (by decide) (by decide) rfl ?_
            refine z_xP zt129 17 48 [some (.ref 4), some (.int p1), some (.int p2), some (.int p3), some (.int p4), some (.ref a8), some (.int 0)] [.int p2, .ref 11, .ref a8] rfl rfl ?_
            have f11 : T[11]? = some (.inr (11, 2, 8, 5, 0)) := X.1.k rfl (by decide)
            refine z_xal zt129 18 rfl X f11 (by decide) (by decide) (by decide) (by omega) (by omega) (fun (a48 : Nat) h49 h50 => ?_) (fun h51 => absurd h51 (z_Gt (hG.go X (by decide)).2.1 h19 (by omega) (by omega)))
            obtain ⟨q52, t53, m54, k55⟩ : ∃ q t m, T[a48]? = some (.inl (3, q, t, m, 5)) := h50
            have g56 := X.1.p3 k55
            have h57 := z_Gm (hG.go X (by decide)).2.2 X.1 (z_cll (n := 8) (by omega) (by decide)) h26 h49 k32 k55
            refine z_xP zt129 19 51 [some (.ref 4), some (.int p1), some (.int p2), some (.int p3), some (.int p4), some (.ref a8), some (.int 0)] [.ref 4, .int p3, .ref a48, .ref a8] rfl rfl ?_
            refine z_xgX (b := 18) zt129 20 rfl zo129 zzf0_48 X f4 (by decide) (by decide) rfl ?_
            refine z_xcV (vs := [.ref a8, .ref a48, .int p3, .ref 18]) (r := []) (L2 := [some (.ref a8), some (.ref a48), some (.int p3), some (.ref 18), none, none]) zt129 21 rfl zo129 zzcV0_277 (Or.inr rfl) rfl X k14 (z_w8 (fun c => (([(4, 131), (10, 131), (7, 131), (5, 131), (11, 131), (8, 131), (6, 131), (9, 131)] : List (Nat × Nat)).find? fun t => t.1 == c) = some (c, 131)) rfl rfl rfl rfl rfl rfl rfl rfl w13) rfl rfl (Nat.le_of_ble_eq_true rfl) zzm131 (Nat.le_of_ble_eq_true rfl) rfl ?_
            obtain ⟨x58, h59, h60, h61⟩ := z_W.fi X.1 k55 (k := 4) (lo := 0) (hi := (5 : Int)) (by decide) rfl
            have f18 : T[18]? = some (.inr (18, 0, 216, (-2147483648), 2147483647)) := X.1.k rfl (by decide)
            refine z_ev.told (z_Qt T) (hbk.ke X.2 (by decide)) X.1 (z_qLc (z_rvr (z_pb.way w13 k14)) (z_qLc (z_rvr (z_pb.ben k55 ⟨_, _, _, k55⟩)) (z_qLc z_rvi (z_qLc (z_rvr (z_pb.low hbk hW0 f18 (by decide) (by decide) (by decide))) (z_qLn (z_qLn z_qL0)))))) z_qS0 ?_
            refine zC131 X.1 w13 k14 k55 (by omega) h59 ⟨by omega, by omega⟩ (fun M62 X63 z64 h65 h66 => ?_)
            intro ho67
            have X68 := X.go X63 (z_sb (by decide))
            show z_ev (d + 5) 129 57 [some (.ref 4), some (.int p1), some (.int p2), some (.int p3), some (.int p4), some (.ref a8), some (.int 0)] [] M62 _
            refine z_xP zt129 22 58 [some (.ref 4), some (.int p1), some (.int p2), some (.int p3), some (.int p4), some (.ref a8), some (.int 0)] [.ref 4] rfl rfl ?_
            refine z_xgX (b := 11) zt129 23 rfl zo129 zzf0_22 X68 f4 (by decide) (by decide) rfl ?_
            refine z_xP zt129 24 62 [some (.ref 4), some (.int p1), some (.int p2), some (.int p3), some (.int p4), some (.ref a8), some (.int 0)] [.int p2, .ref 11] rfl rfl ?_
            refine z_xalv zt129 25 rfl X68 f11 (by decide) (by decide) (by decide) (by omega) (by omega) ((congrFun (X63.2.o f11 (by decide)) _).trans h49) ?_
            refine z_xP zt129 26 66 [some (.ref 4), some (.int p1), some (.int p2), some (.int p3), some (.int p4), some (.ref a8), some (.int 0)] [.ref 4, .int p4, .ref a48] rfl rfl ?_
            refine z_xgX (b := 18) zt129 27 rfl zo129 zzf0_48 X68 f4 (by decide) (by decide) rfl ?_
            refine z_xcV (vs := [.ref a48, .int p4, .ref 18]) (r := []) (L2 := [some (.ref a48), some (.int p4), some (.ref 18), none]) zt129 28 rfl zo129 zzcV0_281 (Or.inl rfl) rfl X68 k55 rfl rfl rfl (Nat.le_of_ble_eq_true rfl) zzm136 (Nat.le_of_ble_eq_true rfl) rfl ?_
            refine z_xP zt136 0 1 [some (.ref a48), some (.int p4), some (.ref 18), none] [.ref a48] rfl rfl ?_
            refine z_xcV (vs := [.ref a48]) (r := []) (L2 := [some (.ref a48), none, none]) zt136 1 rfl zo136 zzcV3_164 (Or.inl rfl) rfl X68 k55 rfl rfl rfl (Nat.le_of_ble_eq_true rfl) zzm132 (Nat.le_of_ble_eq_true rfl) rfl ?_
            refine zC132 X68.1 k55 h65 ⟨by omega, by omega⟩ (fun x75 M70 X71 z72 h73 h74 => ?_)
            have X76 := X68.go X71 (z_sb (by decide))
            show z_ev (d + 4) 136 4 [some (.ref a48), some (.int p4), some (.ref 18), none] [.int x75] M70 _
            refine z_xP zt136 2 5 [some (.ref a48), some (.int p4), some (.ref 18), none] [.ref 18, .int x75] rfl rfl ?_
            refine z_xln zt136 3 rfl X76 f18 (by decide) (by decide) (fun (x78 : Int32) (h79 : x78.toInt = ((216 : Nat) : Int)) => ?_)
            refine z_xmn zt136 4 rfl zo136 zzcS3_78 (Nat.le_of_ble_eq_true rfl) (fun (x80 : Int32) h81 => ?_)
            refine z_xP zt136 5 11 [some (.ref a48), some (.int p4), some (.ref 18), some (.int x80)] [.int p4] rfl rfl ?_
            by_cases h82 : p4.toInt = 0
            · refine z_xSC zt136 6 (z_sub (k := 0) h82 rfl) 40 rfl rfl ?_
              refine z_xP zt136 7 43 [some (.ref a48), some (.int p4), some (.ref 18), some (.int x80)] [.int x80, .ref 18, .ref a48] rfl rfl ?_
              refine z_xcV (vs := [.ref a48, .ref 18, .int x80]) (r := []) (L2 := [some (.ref a48), some (.ref 18), some (.int x80), none]) zt136 8 rfl zo136 zzcV3_167 (Or.inl rfl) rfl X76 k55 rfl rfl rfl (Nat.le_of_ble_eq_true rfl) zzm137 (Nat.le_of_ble_eq_true rfl) rfl ?_
              have h83 := z_b32 x80
              have h84 := (X71.2.f k55 (by decide) h65)
              refine z_ev.told (z_Qt T) (hbk.ke X76.2 (by decide)) X76.1 (z_qLc (z_rvr (z_pb.ben k55 ⟨_, _, _, k55⟩)) (z_qLc (z_rvr (z_pb.low hbk hW0 f18 (by decide) (by decide) (by decide))) (z_qLc z_rvi (z_qLn z_qL0)))) z_qS0 ?_
              refine zC137 X76.1 k55 (by omega) h84 ⟨by omega, by omega⟩ (by omega) (fun x90 M85 X86 h91 h92 z87 h88 h89 => ?_)
              intro ho93
              have X94 := X76.go X86 (z_sb (by decide))
              show z_ev (d + 4) 136 46 [some (.ref a48), some (.int p4), some (.ref 18), some (.int x80)] [.int x90] M85 _
              refine z_xri zt136 9 rfl zzr136 ?_
              show z_ev (d + 5) 129 72 [some (.ref 4), some (.int p1), some (.int p2), some (.int p3), some (.int p4), some (.ref a8), some (.int 0)] [.int x90] M85 _
              exact z_xri zt129 29 rfl zzr129 (kk x90 M85 X94 (by omega) (by omega) (((z_oth.refl.trans ho67).trans (z_oth.ke hbk hW0 X71.2 (by decide) (by decide))).trans ho93))
            by_cases h96 : p4.toInt = 1
            · refine z_xSC zt136 6 (z_sub (k := 1) h96 rfl) 47 rfl rfl ?_
              refine z_xP zt136 10 50 [some (.ref a48), some (.int p4), some (.ref 18), some (.int x80)] [.int x80, .ref 18, .ref a48] rfl rfl ?_
              refine z_xcV (vs := [.ref a48, .ref 18, .int x80]) (r := []) (L2 := [some (.ref a48), some (.ref 18), some (.int x80), none, none, none, none]) zt136 11 rfl zo136 zzcV3_171 (Or.inl rfl) rfl X76 k55 rfl rfl rfl (Nat.le_of_ble_eq_true rfl) zzm139 (Nat.le_of_ble_eq_true rfl) rfl ?_
              have h97 := z_b32 x80
              have h98 := (X71.2.f k55 (by decide) h65)
              refine z_ev.told (z_Qt T) (hbk.ke X76.2 (by decide)) X76.1 (z_qLc (z_rvr (z_pb.ben k55 ⟨_, _, _, k55⟩)) (z_qLc (z_rvr (z_pb.low hbk hW0 f18 (by decide) (by decide) (by decide))) (z_qLc z_rvi (z_qLn (z_qLn (z_qLn (z_qLn z_qL0))))))) z_qS0 ?_
              refine zC139 X76.1 k55 (by omega) h98 ⟨by omega, by omega⟩ (by omega) (fun x104 M99 X100 h105 h106 z101 h102 h103 => ?_)
              intro ho107
              have X108 := X76.go X100 (z_sb (by decide))
              show z_ev (d + 4) 136 53 [some (.ref a48), some (.int p4), some (.ref 18), some (.int x80)] [.int x104] M99 _
              refine z_xri zt136 12 rfl zzr136 ?_
              show z_ev (d + 5) 129 72 [some (.ref 4), some (.int p1), some (.int p2), some (.int p3), some (.int p4), some (.ref a8), some (.int 0)] [.int x104] M99 _
              exact z_xri zt129 29 rfl zzr129 (kk x104 M99 X108 (by omega) (by omega) (((z_oth.refl.trans ho67).trans (z_oth.ke hbk hW0 X71.2 (by decide) (by decide))).trans ho107))
            by_cases h110 : p4.toInt = 2
            · refine z_xSC zt136 6 (z_sub (k := 2) h110 rfl) 54 rfl rfl ?_
              refine z_xP zt136 13 57 [some (.ref a48), some (.int p4), some (.ref 18), some (.int x80)] [.int x80, .ref 18, .ref a48] rfl rfl ?_
              refine z_xcV (vs := [.ref a48, .ref 18, .int x80]) (r := []) (L2 := [some (.ref a48), some (.ref 18), some (.int x80), none, none, none, none]) zt136 14 rfl zo136 zzcV3_174 (Or.inl rfl) rfl X76 k55 rfl rfl rfl (Nat.le_of_ble_eq_true rfl) zzm141 (Nat.le_of_ble_eq_true rfl) rfl ?_
              have h111 := z_b32 x80
              have h112 := (X71.2.f k55 (by decide) h65)
              refine zC141 X76.1 k55 (by omega) h112 ⟨by omega, by omega⟩ (by omega) (fun x118 M113 X114 h119 h120 z115 h116 h117 => ?_)
              have X121 := X76.go X114 (z_sb (by decide))
              show z_ev (d + 4) 136 60 [some (.ref a48), some (.int p4), some (.ref 18), some (.int x80)] [.int x118] M113 _
              refine z_xri zt136 15 rfl zzr136 ?_
              show z_ev (d + 5) 129 72 [some (.ref 4), some (.int p1), some (.int p2), some (.int p3), some (.int p4), some (.ref a8), some (.int 0)] [.int x118] M113 _
              exact z_xri zt129 29 rfl zzr129 (kk x118 M113 X121 (by omega) (by omega) (((z_oth.refl.trans ho67).trans (z_oth.ke hbk hW0 X71.2 (by decide) (by decide))).trans (z_oth.ke hbk hW0 X114.2 (by decide) (by decide))))
            by_cases h123 : p4.toInt = 3
            · refine z_xSC zt136 6 (z_sub (k := 3) h123 rfl) 61 rfl rfl ?_
              refine z_xP zt136 16 64 [some (.ref a48), some (.int p4), some (.ref 18), some (.int x80)] [.int x80, .ref 18, .ref a48] rfl rfl ?_
              refine z_xcV (vs := [.ref a48, .ref 18, .int x80]) (r := []) (L2 := [some (.ref a48), some (.ref 18), some (.int x80), none]) zt136 17 rfl zo136 zzcV3_177 (Or.inl rfl) rfl X76 k55 rfl rfl rfl (Nat.le_of_ble_eq_true rfl) zzm142 (Nat.le_of_ble_eq_true rfl) rfl ?_
              have h124 := z_b32 x80
              have h125 := (X71.2.f k55 (by decide) h65)
              refine zC142 X76.1 k55 (by omega) h125 ⟨by omega, by omega⟩ (by omega) (fun x131 M126 X127 h132 h133 z128 h129 h130 => ?_)
              have X134 := X76.go X127 (z_sb (by decide))
              show z_ev (d + 4) 136 67 [some (.ref a48), some (.int p4), some (.ref 18), some (.int x80)] [.int x131] M126 _
              refine z_xri zt136 18 rfl zzr136 ?_
              show z_ev (d + 5) 129 72 [some (.ref 4), some (.int p1), some (.int p2), some (.int p3), some (.int p4), some (.ref a8), some (.int 0)] [.int x131] M126 _
              exact z_xri zt129 29 rfl zzr129 (kk x131 M126 X134 (by omega) (by omega) (((z_oth.refl.trans ho67).trans (z_oth.ke hbk hW0 X71.2 (by decide) (by decide))).trans (z_oth.ke hbk hW0 X127.2 (by decide) (by decide))))
            refine z_xSD zt136 6 rfl rfl (by omega) ?_
            refine z_xP zt136 19 71 [some (.ref a48), some (.int p4), some (.ref 18), some (.int x80)] [.int x80, .ref 18, .ref a48] rfl rfl ?_
            refine z_xcV (vs := [.ref a48, .ref 18, .int x80]) (r := []) (L2 := [some (.ref a48), some (.ref 18), some (.int x80), none, none, none]) zt136 20 rfl zo136 zzcV3_180 (Or.inl rfl) rfl X76 k55 rfl rfl rfl (Nat.le_of_ble_eq_true rfl) zzm143 (Nat.le_of_ble_eq_true rfl) rfl ?_
            have h136 := z_b32 x80
            have h137 := (X71.2.f k55 (by decide) h65)
            refine zC143 X76.1 k55 (by omega) h137 ⟨by omega, by omega⟩ (by omega) (fun x143 M138 X139 h144 h145 z140 h141 h142 => ?_)
            have X146 := X76.go X139 (z_sb (by decide))
            show z_ev (d + 4) 136 74 [some (.ref a48), some (.int p4), some (.ref 18), some (.int x80)] [.int x143] M138 _
            refine z_xri zt136 21 rfl zzr136 ?_
            show z_ev (d + 5) 129 72 [some (.ref 4), some (.int p1), some (.int p2), some (.int p3), some (.int p4), some (.ref a8), some (.int 0)] [.int x143] M138 _
            exact z_xri zt129 29 rfl zzr129 (kk x143 M138 X146 (by omega) (by omega) (((z_oth.refl.trans ho67).trans (z_oth.ke hbk hW0 X71.2 (by decide) (by decide))).trans (z_oth.ke hbk hW0 X139.2 (by decide) (by decide))))
          refine z_xP zt130 14 38 [some (.ref 4), some (.int p2), some (.int p3), some (.ref a35)] [.int (-4)] rfl rfl ?_
          refine z_xri zt130 16 rfl zzr130 ?_
          show z_ev (d + 5) 129 31 [some (.ref 4), some (.int p1), some (.int p2), some (.int p3), some (.int p4), some (.ref a8), none] [.int (-4)] M0 _
          refine z_xP zt129 11 35 [some (.ref 4), some (.int p1), some (.int p2), some (.int p3), some (.int p4), some (.ref a8), some (.int (-4))] [.int (-4)] rfl rfl ?_
          refine z_xZ zt129 12 rfl rfl (fun (h148 : ((-4) : Int) = 0) => absurd h148 (by omega)) (fun (h148 : ((-4) : Int) ≠ 0) => ?_)
          refine z_xP zt129 13 40 [some (.ref 4), some (.int p1), some (.int p2), some (.int p3), some (.int p4), some (.ref a8), some (.int (-4))] [.int (-4)] rfl rfl ?_
          have qm4 : (((-4) : Int32)).toInt = (-4) := rfl
          exact z_xri zt129 14 rfl zzr129 (kk (-4) M0 X (by omega) (by omega) z_oth.refl)
        refine z_xP zt130 7 21 [some (.ref 4), some (.int p2), some (.int p3), some (.ref a35)] [.int (-1)] rfl rfl ?_
        refine z_xri zt130 8 rfl zzr130 ?_
        show z_ev (d + 5) 129 31 [some (.ref 4), some (.int p1), some (.int p2), some (.int p3), some (.int p4), some (.ref a8), none] [.int (-1)] M0 _
        refine z_xP zt129 11 35 [some (.ref 4), some (.int p1), some (.int p2), some (.int p3), some (.int p4), some (.ref a8), some (.int (-1))] [.int (-1)] rfl rfl ?_
        refine z_xZ zt129 12 rfl rfl (fun (h149 : ((-1) : Int) = 0) => absurd h149 (by omega)) (fun (h149 : ((-1) : Int) ≠ 0) => ?_)
        refine z_xP zt129 13 40 [some (.ref 4), some (.int p1), some (.int p2), some (.int p3), some (.int p4), some (.ref a8), some (.int (-1))] [.int (-1)] rfl rfl ?_
        have qm1 : (((-1) : Int32)).toInt = (-1) := rfl
        exact z_xri zt129 14 rfl zzr129 (kk (-1) M0 X (by omega) (by omega) z_oth.refl)
      refine z_xP zt37 5 25 [some (.ref 4), some (.int p2)] [.null] rfl rfl ?_
      refine z_xrn zt37 11 rfl zzr37 ?_
      show z_ev (d + 4) 130 5 [some (.ref 4), some (.int p2), some (.int p3), none] [.null] M0 _
      refine z_xP zt130 2 20 [some (.ref 4), some (.int p2), some (.int p3), some (.null)] [] rfl rfl ?_
      refine z_xP zt130 7 21 [some (.ref 4), some (.int p2), some (.int p3), some (.null)] [.int (-1)] rfl rfl ?_
      refine z_xri zt130 8 rfl zzr130 ?_
      show z_ev (d + 5) 129 31 [some (.ref 4), some (.int p1), some (.int p2), some (.int p3), some (.int p4), some (.ref a8), none] [.int (-1)] M0 _
      refine z_xP zt129 11 35 [some (.ref 4), some (.int p1), some (.int p2), some (.int p3), some (.int p4), some (.ref a8), some (.int (-1))] [.int (-1)] rfl rfl ?_
      refine z_xZ zt129 12 rfl rfl (fun (h150 : ((-1) : Int) = 0) => absurd h150 (by omega)) (fun (h150 : ((-1) : Int) ≠ 0) => ?_)
      refine z_xP zt129 13 40 [some (.ref 4), some (.int p1), some (.int p2), some (.int p3), some (.int p4), some (.ref a8), some (.int (-1))] [.int (-1)] rfl rfl ?_
      have qm1 : (((-1) : Int32)).toInt = (-1) := rfl
      exact z_xri zt129 14 rfl zzr129 (kk (-1) M0 X (by omega) (by omega) z_oth.refl)
    refine z_xP zt129 7 24 [some (.ref 4), some (.int p1), some (.int p2), some (.int p3), some (.int p4), some (.ref a8), none] [.int (-1)] rfl rfl ?_
    have qm1 : (((-1) : Int32)).toInt = (-1) := rfl
    exact z_xri zt129 8 rfl zzr129 (kk (-1) M0 X (by omega) (by omega) z_oth.refl)
  refine z_xP zt84 5 22 [some (.ref 4), some (.int p1)] [.null] rfl rfl ?_
  refine z_xrn zt84 10 rfl zzr84 ?_
  show z_ev (d + 5) 129 5 [some (.ref 4), some (.int p1), some (.int p2), some (.int p3), some (.int p4), none, none] [.null] M0 _
  refine z_xP zt129 2 23 [some (.ref 4), some (.int p1), some (.int p2), some (.int p3), some (.int p4), some (.null), none] [] rfl rfl ?_
  refine z_xP zt129 7 24 [some (.ref 4), some (.int p1), some (.int p2), some (.int p3), some (.int p4), some (.null), none] [.int (-1)] rfl rfl ?_
  have qm1 : (((-1) : Int32)).toInt = (-1) := rfl
  exact z_xri zt129 8 rfl zzr129 (kk (-1) M0 X (by omega) (by omega) z_oth.refl)
theorem zOB144 {T : List zK} {d : Nat} {K : Option Value → zH → Prop} {p1 : Int32} {p2 : Int32} {p3 : Int32} {M0 : zH} (hW0 : z_W M0 T) (hbk : z_blk T M0) (hG : z_GG T M0) (kk : ∀ (x : Int32) (M1 : zH), z_X T zw144 M0 M1 → (-4) ≤ x.toInt → x.toInt ≤ 19 → z_oth T (z_Qt T) M0 M1 → K (some (.int x)) M1) (hx : ∀ (c q t m J : Nat), z_O M0 11 p1.toNatClampNeg = some c → T[c]? = some (.inl (3, q, t, m, J)) → m ≤ 6) : ∀ n : Nat, (∀ (M : zH) (b4 : Int32) (b5 : Int32) (z0 : Int32), z_X T zw144 M0 M → 0 ≤ p1.toInt ∧ p1.toInt ≤ 7 → 1 ≤ p2.toInt ∧ p2.toInt ≤ 3 → 1 ≤ p3.toInt ∧ p3.toInt ≤ 31 → 0 ≤ b4.toInt ∧ b4.toInt ≤ 0 → 0 ≤ b5.toInt ∧ b5.toInt ≤ 20 → z_F M 4 3 = some (.int z0) → 1 ≤ z0.toInt ∧ z0.toInt ≤ 8 → p1.toInt < z0.toInt → z_oth T (z_Qt T) M0 M → ((0) * 2 + 0) * 21 + (20 - b5.toInt) < (n : Int) → z_ev (d + 6) 144 32 [some (.ref 4), some (.int p1), some (.int p2), some (.int p3), some (.int b4), some (.int b5)] [] M K) := by
  intro n
  induction n with
  | zero => exact by intros; exfalso; omega
  | succ n ih =>
    intro M b4 b5 z0 X hh0 hh1 hh2 hh3 hh4 hp0 hh6 hh7 ho hE
    refine z_xP zt144 13 35 [some (.ref 4), some (.int p1), some (.int p2), some (.int p3), some (.int b4), some (.int b5)] [.ref 4, .int b5] rfl rfl ?_
    have f4 : T[4]? = some (.inl (0, 0, 0, 0, 0)) := X.1.k rfl (by decide)
    refine z_xgI zt144 14 rfl zo144 zzf0_188 X f4 (by decide) (by decide) rfl (fun (x2 : Int32) h1 (h3 : 0 ≤ x2.toInt) (h4 : x2.toInt ≤ 20) => ?_)
    refine z_xJ zt144 15 rfl rfl (fun (h5 : x2.toInt ≤ b5.toInt) => ?_) (fun (h5 : b5.toInt < x2.toInt) => ?_)
    · skip
      refine z_xP zt144 39 90 [some (.ref 4), some (.int p1), some (.int p2), some (.int p3), some (.int b4), some (.int b5)] [.int (-2)] rfl rfl ?_
      have qm2 : (((-2) : Int32)).toInt = (-2) := rfl
      exact z_xri zt144 40 rfl zzr144 (kk (-2) M X (by omega) (by omega) ho)
    refine z_xP zt144 16 42 [some (.ref 4), some (.int p1), some (.int p2), some (.int p3), some (.int b4), some (.int b5)] [.ref 4] rfl rfl ?_
    refine z_xgX (b := 12) zt144 17 rfl zo144 zzf0_27 X f4 (by decide) (by decide) rfl ?_
    refine z_xP zt144 18 47 [some (.ref 4), some (.int p1), some (.int p2), some (.int p3), some (.int b4), some (.int b5)] [.int b5, .ref 12] rfl rfl ?_
    have f12 : T[12]? = some (.inr (12, 3, 20, 0, 0)) := X.1.k rfl (by decide)
    refine z_xal zt144 19 rfl X f12 (by decide) (by decide) (by decide) (by omega) (by omega) (fun (a6 : Nat) h7 h8 => ?_) (fun h9 => absurd h9 (z_Gb (hG.go X (by decide)).2.1 h1 (by omega) (by omega)))
    obtain ⟨c10, w11l, w11u, k12⟩ : ∃ ci, 4 ≤ ci ∧ ci ≤ 11 ∧ T[a6]? = some (.inl (ci, 0, 0, 0, 0)) := h8
    have w11 := And.intro w11l w11u
    refine z_xP zt144 20 49 [some (.ref 4), some (.int p1), some (.int p2), some (.int p3), some (.int b4), some (.int b5)] [.ref 4, .ref a6] rfl rfl ?_
    refine z_xgX (b := 11) zt144 21 rfl zo144 zzf0_22 X f4 (by decide) (by decide) rfl ?_
    refine z_xP zt144 22 53 [some (.ref 4), some (.int p1), some (.int p2), some (.int p3), some (.int b4), some (.int b5)] [.int p1, .ref 11, .ref a6] rfl rfl ?_
    have f11 : T[11]? = some (.inr (11, 2, 8, 5, 0)) := X.1.k rfl (by decide)
    refine z_xal zt144 23 rfl X f11 (by decide) (by decide) (by decide) (by omega) (by omega) (fun (a13 : Nat) h14 h15 => ?_) (fun h16 => absurd h16 (z_Gt (hG.go X (by decide)).2.1 hp0 (by omega) (by omega)))
    obtain ⟨q17, t18, m19, k20⟩ : ∃ q t m, T[a13]? = some (.inl (3, q, t, m, 5)) := h15
    have g21 := X.1.p3 k20
    have h22 := hx a13 q17 t18 m19 5 ((congrFun (X.2.o f11 (by decide)) _).symm.trans h14) k20
    refine z_xP zt144 24 56 [some (.ref 4), some (.int p1), some (.int p2), some (.int p3), some (.int b4), some (.int b5)] [.ref 4, .int p2, .ref a13, .ref a6] rfl rfl ?_
    refine z_xgX (b := 18) zt144 25 rfl zo144 zzf0_48 X f4 (by decide) (by decide) rfl ?_
    refine z_xcV (vs := [.ref a6, .ref a13, .int p2, .ref 18]) (r := []) (L2 := [some (.ref a6), some (.ref a13), some (.int p2), some (.ref 18), none, none]) zt144 26 rfl zo144 zzcV0_277 (Or.inr rfl) rfl X k12 (z_w8 (fun c => (([(4, 131), (10, 131), (7, 131), (5, 131), (11, 131), (8, 131), (6, 131), (9, 131)] : List (Nat × Nat)).find? fun t => t.1 == c) = some (c, 131)) rfl rfl rfl rfl rfl rfl rfl rfl w11) rfl rfl (Nat.le_of_ble_eq_true rfl) zzm131 (Nat.le_of_ble_eq_true rfl) rfl ?_
    obtain ⟨x23, h24, h25, h26⟩ := z_W.fi X.1 k20 (k := 4) (lo := 0) (hi := (5 : Int)) (by decide) rfl
    have f18 : T[18]? = some (.inr (18, 0, 216, (-2147483648), 2147483647)) := X.1.k rfl (by decide)
    refine z_ev.told (z_Qt T) (hbk.ke X.2 (by decide)) X.1 (z_qLc (z_rvr (z_pb.way w11 k12)) (z_qLc (z_rvr (z_pb.ben k20 ⟨_, _, _, k20⟩)) (z_qLc z_rvi (z_qLc (z_rvr (z_pb.low hbk hW0 f18 (by decide) (by decide) (by decide))) (z_qLn (z_qLn z_qL0)))))) z_qS0 ?_
    refine zC131 X.1 w11 k12 k20 (by omega) h24 ⟨by omega, by omega⟩ (fun M27 X28 z29 h30 h31 => ?_)
    intro ho32
    have X33 := X.go X28 (z_sb (by decide))
    show z_ev (d + 6) 144 62 [some (.ref 4), some (.int p1), some (.int p2), some (.int p3), some (.int b4), some (.int b5)] [] M27 _
    refine z_xP zt144 27 63 [some (.ref 4), some (.int p1), some (.int p2), some (.int p3), some (.int b4), some (.int b5)] [.ref 4] rfl rfl ?_
    refine z_xgX (b := 11) zt144 28 rfl zo144 zzf0_22 X33 f4 (by decide) (by decide) rfl ?_
    refine z_xP zt144 29 67 [some (.ref 4), some (.int p1), some (.int p2), some (.int p3), some (.int b4), some (.int b5)] [.int p1, .ref 11] rfl rfl ?_
    refine z_xalv zt144 30 rfl X33 f11 (by decide) (by decide) (by decide) (by omega) (by omega) ((congrFun (X28.2.o f11 (by decide)) _).trans h14) ?_
    refine z_xP zt144 31 70 [some (.ref 4), some (.int p1), some (.int p2), some (.int p3), some (.int b4), some (.int b5)] [.ref 4, .int p3, .ref a13] rfl rfl ?_
    refine z_xgX (b := 18) zt144 32 rfl zo144 zzf0_48 X33 f4 (by decide) (by decide) rfl ?_
    refine z_xcV (vs := [.ref a13, .int p3, .ref 18]) (r := []) (L2 := [some (.ref a13), some (.int p3), some (.ref 18), none]) zt144 33 rfl zo144 zzcV0_284 (Or.inl rfl) rfl X33 k20 rfl rfl rfl (Nat.le_of_ble_eq_true rfl) zzm145 (Nat.le_of_ble_eq_true rfl) rfl ?_
    refine z_ev.told (z_Qt T) (hbk.ke X33.2 (by decide)) X33.1 (z_qLc (z_rvr (z_pb.ben k20 ⟨_, _, _, k20⟩)) (z_qLc z_rvi (z_qLc (z_rvr (z_pb.low hbk hW0 f18 (by decide) (by decide) (by decide))) (z_qLn z_qL0)))) z_qS0 ?_
    refine zC145 X33.1 k20 (by omega) h30 ⟨by omega, by omega⟩ (by omega) (fun x40 M35 X36 h41 h42 z37 h38 h39 => ?_)
    intro ho43
    have X44 := X33.go X36 (z_sb (by decide))
    show z_ev (d + 6) 144 76 [some (.ref 4), some (.int p1), some (.int p2), some (.int p3), some (.int b4), some (.int b5)] [.int x40] M35 _
    refine z_xZ zt144 34 rfl rfl (fun (h46 : x40.toInt = 0) => ?_) (fun (h46 : x40.toInt ≠ 0) => ?_)
    · skip
      refine z_xN zt144 37 rfl rfl (fun (x47 : Int32) (h48 : x47.toInt = b5.toInt + 1) => ?_) (z_pAdd rfl rfl (by omega) (by omega))
      show z_ev (d + 6) 144 85 [some (.ref 4), some (.int p1), some (.int p2), some (.int p3), some (.int b4), some (.int x47)] [] M35 _
      refine z_xP zt144 38 32 [some (.ref 4), some (.int p1), some (.int p2), some (.int p3), some (.int b4), some (.int x47)] [] rfl rfl ?_
      have h49 := (X36.2.f f4 (by decide) (X28.2.f f4 (by decide) hp0))
      exact ih M35 b4 x47 z0 X44 ⟨by omega, by omega⟩ ⟨by omega, by omega⟩ ⟨by omega, by omega⟩ ⟨by omega, by omega⟩ ⟨by omega, by omega⟩ h49 ⟨by omega, by omega⟩ (by omega) ((ho.trans ho32).trans ho43) (by omega)
    refine z_xP zt144 35 81 [some (.ref 4), some (.int p1), some (.int p2), some (.int p3), some (.int b4), some (.int b5)] [.int b5] rfl rfl ?_
    exact z_xri zt144 36 rfl zzr144 (kk b5 M35 X44 (by omega) (by omega) ((ho.trans ho32).trans ho43))
theorem zOC144 {T : List zK} {d : Nat} {K : Option Value → zH → Prop} {p1 : Int32} {p2 : Int32} {p3 : Int32} {M0 : zH} (hW : z_W M0 T) (hW0 : z_W M0 T) (hbk : z_blk T M0) (hG : z_GG T M0) (kk : ∀ (x : Int32) (M1 : zH), z_X T zw144 M0 M1 → (-4) ≤ x.toInt → x.toInt ≤ 19 → z_oth T (z_Qt T) M0 M1 → K (some (.int x)) M1) : z_ev (d + 6) 144 0 [some (.ref 4), some (.int p1), some (.int p2), some (.int p3), none, none] [] M0 K := by
  have X : z_X T zw144 M0 M0 := .refl hW
  refine z_xP zt144 0 2 [some (.ref 4), some (.int p1), some (.int p2), some (.int p3), none, none] [.int 1, .int p3] rfl rfl ?_
  refine z_xJ zt144 1 rfl rfl (fun (h1 : p3.toInt < 1) => ?_) (fun (h1 : 1 ≤ p3.toInt) => ?_)
  · skip
    refine z_xP zt144 4 12 [some (.ref 4), some (.int p1), some (.int p2), some (.int p3), none, none] [.int (-1)] rfl rfl ?_
    have qm1 : (((-1) : Int32)).toInt = (-1) := rfl
    exact z_xri zt144 5 rfl zzr144 (kk (-1) M0 X (by omega) (by omega) z_oth.refl)
  refine z_xP zt144 2 8 [some (.ref 4), some (.int p1), some (.int p2), some (.int p3), none, none] [.int 31, .int p3] rfl rfl ?_
  refine z_xJ zt144 3 rfl rfl (fun (h2 : p3.toInt ≤ 31) => ?_) (fun (h2 : 31 < p3.toInt) => ?_)
  · skip
    refine z_xP zt144 6 16 [some (.ref 4), some (.int p1), some (.int p2), some (.int p3), none, none] [.int p2, .int p1, .ref 4] rfl rfl ?_
    have f4 : T[4]? = some (.inl (0, 0, 0, 0, 0)) := X.1.k rfl (by decide)
    refine z_xcV (vs := [.ref 4, .int p1, .int p2]) (r := []) (L2 := [some (.ref 4), some (.int p1), some (.int p2), none]) zt144 7 rfl zo144 zzcV0_274 (Or.inl rfl) rfl X f4 rfl rfl rfl (Nat.le_of_ble_eq_true rfl) zzm130 (Nat.le_of_ble_eq_true rfl) rfl ?_
    refine z_xP zt130 0 2 [some (.ref 4), some (.int p1), some (.int p2), none] [.int p1, .ref 4] rfl rfl ?_
    refine z_xcV (vs := [.ref 4, .int p1]) (r := []) (L2 := [some (.ref 4), some (.int p1)]) zt130 1 rfl zo130 zzcV0_108 (Or.inl rfl) rfl X f4 rfl rfl rfl (Nat.le_of_ble_eq_true rfl) zzm37 (Nat.le_of_ble_eq_true rfl) rfl ?_
    refine z_xP zt37 0 1 [some (.ref 4), some (.int p1)] [.int p1] rfl rfl ?_
    refine z_xZ zt37 1 rfl rfl (fun (h3 : p1.toInt < 0) => ?_) (fun (h3 : 0 ≤ p1.toInt) => ?_)
    · skip
      refine z_xP zt37 5 25 [some (.ref 4), some (.int p1)] [.null] rfl rfl ?_
      refine z_xrn zt37 11 rfl zzr37 ?_
      show z_ev (d + 5) 130 5 [some (.ref 4), some (.int p1), some (.int p2), none] [.null] M0 _
      refine z_xP zt130 2 20 [some (.ref 4), some (.int p1), some (.int p2), some (.null)] [] rfl rfl ?_
      refine z_xP zt130 7 21 [some (.ref 4), some (.int p1), some (.int p2), some (.null)] [.int (-1)] rfl rfl ?_
      refine z_xri zt130 8 rfl zzr130 ?_
      show z_ev (d + 6) 144 19 [some (.ref 4), some (.int p1), some (.int p2), some (.int p3), none, none] [.int (-1)] M0 _
      refine z_xP zt144 8 23 [some (.ref 4), some (.int p1), some (.int p2), some (.int p3), some (.int (-1)), none] [.int (-1)] rfl rfl ?_
      refine z_xZ zt144 9 rfl rfl (fun (h4 : ((-1) : Int) = 0) => absurd h4 (by omega)) (fun (h4 : ((-1) : Int) ≠ 0) => ?_)
      refine z_xP zt144 10 28 [some (.ref 4), some (.int p1), some (.int p2), some (.int p3), some (.int (-1)), none] [.int (-1)] rfl rfl ?_
      have qm1 : (((-1) : Int32)).toInt = (-1) := rfl
      exact z_xri zt144 11 rfl zzr144 (kk (-1) M0 X (by omega) (by omega) z_oth.refl)
    refine z_xP zt37 2 6 [some (.ref 4), some (.int p1)] [.ref 4, .int p1] rfl rfl ?_
    refine z_xgI zt37 3 rfl zo37 zzf0_59 X f4 (by decide) (by decide) rfl (fun (x6 : Int32) h5 (h7 : 0 ≤ x6.toInt) (h8 : x6.toInt ≤ 8) => ?_)
    have h9 := z_b32 p1
    refine z_xJ zt37 4 rfl rfl (fun (h10 : p1.toInt < x6.toInt) => ?_) (fun (h10 : x6.toInt ≤ p1.toInt) => ?_)
    · skip
      refine z_xP zt37 6 17 [some (.ref 4), some (.int p1)] [.ref 4] rfl rfl ?_
      refine z_xgX (b := 10) zt37 7 rfl zo37 zzf0_18 X f4 (by decide) (by decide) rfl ?_
      refine z_xP zt37 8 21 [some (.ref 4), some (.int p1)] [.int p1, .ref 10] rfl rfl ?_
      have f10 : T[10]? = some (.inr (10, 2, 8, 9, 0)) := X.1.k rfl (by decide)
      refine z_xal zt37 9 rfl X f10 (by decide) (by decide) (by decide) (by omega) (by omega) (fun (a11 : Nat) h12 h13 => ?_) (fun h14 => absurd h14 (z_Gs (hG.go X (by decide)).2.1 h5 (by omega) (by omega)))
      obtain ⟨q15, t16, m17, k18⟩ : ∃ q t m, T[a11]? = some (.inl (3, q, t, m, 9)) := h13
      have g19 := X.1.p3 k18
      refine z_xgR (κ := .inl (2, q15, t16, m17, 0)) zt37 10 rfl zo37 zzf0_89 X k18 (by decide) (by decide) rfl (fun (a21 : Nat) h20 k22 => ?_)
      have g23 := X.1.p2 k22
      refine z_xra zt37 11 rfl zzr37 ?_
      show z_ev (d + 5) 130 5 [some (.ref 4), some (.int p1), some (.int p2), none] [.ref a21] M0 _
      refine z_xP zt130 2 10 [some (.ref 4), some (.int p1), some (.int p2), some (.ref a21)] [] rfl rfl ?_
      refine z_xP zt130 3 12 [some (.ref 4), some (.int p1), some (.int p2), some (.ref a21)] [.int 1, .int p2] rfl rfl ?_
      refine z_xJ zt130 4 rfl rfl (fun (h24 : p2.toInt < 1) => ?_) (fun (h24 : 1 ≤ p2.toInt) => ?_)
      · skip
        refine z_xP zt130 7 21 [some (.ref 4), some (.int p1), some (.int p2), some (.ref a21)] [.int (-1)] rfl rfl ?_
        refine z_xri zt130 8 rfl zzr130 ?_
        show z_ev (d + 6) 144 19 [some (.ref 4), some (.int p1), some (.int p2), some (.int p3), none, none] [.int (-1)] M0 _
        refine z_xP zt144 8 23 [some (.ref 4), some (.int p1), some (.int p2), some (.int p3), some (.int (-1)), none] [.int (-1)] rfl rfl ?_
        refine z_xZ zt144 9 rfl rfl (fun (h25 : ((-1) : Int) = 0) => absurd h25 (by omega)) (fun (h25 : ((-1) : Int) ≠ 0) => ?_)
        refine z_xP zt144 10 28 [some (.ref 4), some (.int p1), some (.int p2), some (.int p3), some (.int (-1)), none] [.int (-1)] rfl rfl ?_
        have qm1 : (((-1) : Int32)).toInt = (-1) := rfl
        exact z_xri zt144 11 rfl zzr144 (kk (-1) M0 X (by omega) (by omega) z_oth.refl)
      refine z_xP zt130 5 17 [some (.ref 4), some (.int p1), some (.int p2), some (.ref a21)] [.int 3, .int p2] rfl rfl ?_
      refine z_xJ zt130 6 rfl rfl (fun (h26 : p2.toInt ≤ 3) => ?_) (fun (h26 : 3 < p2.toInt) => ?_)
      · skip
        refine z_xP zt130 9 23 [some (.ref 4), some (.int p1), some (.int p2), some (.ref a21)] [.ref a21] rfl rfl ?_
        refine z_xgR (κ := .inr (102, 0, m17, 0, 1023)) zt130 10 rfl zo130 zzf0_74 X k22 (by decide) (by decide) rfl (fun (a28 : Nat) h27 k29 => ?_)
        refine z_xln zt130 11 rfl X k29 (by decide) (by omega) (fun (x30 : Int32) (h31 : x30.toInt = ((m17 : Nat) : Int)) => ?_)
        refine z_xP zt130 12 29 [some (.ref 4), some (.int p1), some (.int p2), some (.ref a21)] [.int 6, .int x30] rfl rfl ?_
        refine z_xJ zt130 13 rfl rfl (fun (h32 : x30.toInt ≤ 6) => ?_) (fun (h32 : 6 < x30.toInt) => ?_)
        · skip
          refine z_xP zt130 15 38 [some (.ref 4), some (.int p1), some (.int p2), some (.ref a21)] [.int 0] rfl rfl ?_
          refine z_xri zt130 16 rfl zzr130 ?_
          show z_ev (d + 6) 144 19 [some (.ref 4), some (.int p1), some (.int p2), some (.int p3), none, none] [.int 0] M0 _
          refine z_xP zt144 8 23 [some (.ref 4), some (.int p1), some (.int p2), some (.int p3), some (.int 0), none] [.int 0] rfl rfl ?_
          refine z_xZ zt144 9 rfl rfl (fun (h33 : (0 : Int) = 0) => ?_) (fun (h33 : (0 : Int) ≠ 0) => absurd h33 (by omega))
          refine z_xP zt144 12 32 [some (.ref 4), some (.int p1), some (.int p2), some (.int p3), some (.int 0), some (.int 0)] [] rfl rfl ?_
          have q0 : ((0 : Int32)).toInt = 0 := rfl
          have f11 : T[11]? = some (.inr (11, 2, 8, 5, 0)) := X.1.k rfl (by decide)
          exact (zOB144 hW0 hbk hG kk (fun c q t m J hc kc => by have w := z_Gm (hG.go X (by decide)).2.2 X.1 (z_cll (n := 8) (by omega) (by decide)) h12 ((congrFun (X.2.o f11 (by decide)) _).trans hc) k18 kc; omega) 42) M0 (0) (0) x6 X ⟨by omega, by omega⟩ ⟨by omega, by omega⟩ ⟨by omega, by omega⟩ (by decide) (by decide) h5 ⟨by omega, by omega⟩ (by omega) z_oth.refl (by omega)
        refine z_xP zt130 14 38 [some (.ref 4), some (.int p1), some (.int p2), some (.ref a21)] [.int (-4)] rfl rfl ?_
        refine z_xri zt130 16 rfl zzr130 ?_
        show z_ev (d + 6) 144 19 [some (.ref 4), some (.int p1), some (.int p2), some (.int p3), none, none] [.int (-4)] M0 _
        refine z_xP zt144 8 23 [some (.ref 4), some (.int p1), some (.int p2), some (.int p3), some (.int (-4)), none] [.int (-4)] rfl rfl ?_
        refine z_xZ zt144 9 rfl rfl (fun (h34 : ((-4) : Int) = 0) => absurd h34 (by omega)) (fun (h34 : ((-4) : Int) ≠ 0) => ?_)
        refine z_xP zt144 10 28 [some (.ref 4), some (.int p1), some (.int p2), some (.int p3), some (.int (-4)), none] [.int (-4)] rfl rfl ?_
        have qm4 : (((-4) : Int32)).toInt = (-4) := rfl
        exact z_xri zt144 11 rfl zzr144 (kk (-4) M0 X (by omega) (by omega) z_oth.refl)
      refine z_xP zt130 7 21 [some (.ref 4), some (.int p1), some (.int p2), some (.ref a21)] [.int (-1)] rfl rfl ?_
      refine z_xri zt130 8 rfl zzr130 ?_
      show z_ev (d + 6) 144 19 [some (.ref 4), some (.int p1), some (.int p2), some (.int p3), none, none] [.int (-1)] M0 _
      refine z_xP zt144 8 23 [some (.ref 4), some (.int p1), some (.int p2), some (.int p3), some (.int (-1)), none] [.int (-1)] rfl rfl ?_
      refine z_xZ zt144 9 rfl rfl (fun (h35 : ((-1) : Int) = 0) => absurd h35 (by omega)) (fun (h35 : ((-1) : Int) ≠ 0) => ?_)
      refine z_xP zt144 10 28 [some (.ref 4), some (.int p1), some (.int p2), some (.int p3), some (.int (-1)), none] [.int (-1)] rfl rfl ?_
      have qm1 : (((-1) : Int32)).toInt = (-1) := rfl
      exact z_xri zt144 11 rfl zzr144 (kk (-1) M0 X (by omega) (by omega) z_oth.refl)
    refine z_xP zt37 5 25 [some (.ref 4), some (.int p1)] [.null] rfl rfl ?_
    refine z_xrn zt37 11 rfl zzr37 ?_
    show z_ev (d + 5) 130 5 [some (.ref 4), some (.int p1), some (.int p2), none] [.null] M0 _
    refine z_xP zt130 2 20 [some (.ref 4), some (.int p1), some (.int p2), some (.null)] [] rfl rfl ?_
    refine z_xP zt130 7 21 [some (.ref 4), some (.int p1), some (.int p2), some (.null)] [.int (-1)] rfl rfl ?_
    refine z_xri zt130 8 rfl zzr130 ?_
    show z_ev (d + 6) 144 19 [some (.ref 4), some (.int p1), some (.int p2), some (.int p3), none, none] [.int (-1)] M0 _
    refine z_xP zt144 8 23 [some (.ref 4), some (.int p1), some (.int p2), some (.int p3), some (.int (-1)), none] [.int (-1)] rfl rfl ?_
    refine z_xZ zt144 9 rfl rfl (fun (h36 : ((-1) : Int) = 0) => absurd h36 (by omega)) (fun (h36 : ((-1) : Int) ≠ 0) => ?_)
    refine z_xP zt144 10 28 [some (.ref 4), some (.int p1), some (.int p2), some (.int p3), some (.int (-1)), none] [.int (-1)] rfl rfl ?_
    have qm1 : (((-1) : Int32)).toInt = (-1) := rfl
    exact z_xri zt144 11 rfl zzr144 (kk (-1) M0 X (by omega) (by omega) z_oth.refl)
  refine z_xP zt144 4 12 [some (.ref 4), some (.int p1), some (.int p2), some (.int p3), none, none] [.int (-1)] rfl rfl ?_
  have qm1 : (((-1) : Int32)).toInt = (-1) := rfl
  exact z_xri zt144 5 rfl zzr144 (kk (-1) M0 X (by omega) (by omega) z_oth.refl)
theorem zOC119 {T : List zK} {d : Nat} {K : Option Value → zH → Prop} {p1 : Int32} {p2 : Int32} {p3 : Int32} {M0 : zH} (hW : z_W M0 T) (hbk : z_blk T M0) (hT : ∀ (b c : Nat) (A : Int32), 4 ≤ c ∧ c ≤ 11 → T[b]? = some (.inl (c, 0, 0, 0, 0)) → z_F M0 4 3 = some (.int A) → 0 ≤ p2.toInt → p2.toInt < A.toInt → A.toInt ≤ 8 → 1 ≤ p3.toInt → p3.toInt ≤ 5 → z_F M0 4 12 = some .null → z_ev (d + 7) 119 37 [some (.ref 4), some (.int p1), some (.int p2), some (.int p3), some (.ref b), some (.int 0)] [] M0 K) (hG : z_GG T M0) (kk : ∀ (x : Int32) (M1 : zH), z_X T zw119 M0 M1 → z_oth T (z_Qt T) M0 M1 → K (some (.int x)) M1) : z_ev (d + 7) 119 0 [some (.ref 4), some (.int p1), some (.int p2), some (.int p3), none, none] [] M0 K := by
  have X : z_X T zw119 M0 M0 := .refl hW
  refine z_xP zt119 0 2 [some (.ref 4), some (.int p1), some (.int p2), some (.int p3), none, none] [.int p1, .ref 4] rfl rfl ?_
  have f4 : T[4]? = some (.inl (0, 0, 0, 0, 0)) := X.1.k rfl (by decide)
  refine z_xcV (vs := [.ref 4, .int p1]) (r := []) (L2 := [some (.ref 4), some (.int p1)]) zt119 1 rfl zo119 zzcV0_221 (Or.inl rfl) rfl X f4 rfl rfl rfl (Nat.le_of_ble_eq_true rfl) zzm84 (Nat.le_of_ble_eq_true rfl) rfl ?_
  refine z_xP zt84 0 1 [some (.ref 4), some (.int p1)] [.int p1] rfl rfl ?_
  refine z_xZ zt84 1 rfl rfl (fun (h1 : p1.toInt < 0) => ?_) (fun (h1 : 0 ≤ p1.toInt) => ?_)
  · skip
    refine z_xP zt84 5 22 [some (.ref 4), some (.int p1)] [.null] rfl rfl ?_
    refine z_xrn zt84 10 rfl zzr84 ?_
    show z_ev (d + 7) 119 5 [some (.ref 4), some (.int p1), some (.int p2), some (.int p3), none, none] [.null] M0 _
    refine z_xP zt119 2 12 [some (.ref 4), some (.int p1), some (.int p2), some (.int p3), some (.null), none] [] rfl rfl ?_
    refine z_xP zt119 3 13 [some (.ref 4), some (.int p1), some (.int p2), some (.int p3), some (.null), none] [.int (-1)] rfl rfl ?_
    have qm1 : (((-1) : Int32)).toInt = (-1) := rfl
    exact z_xri zt119 4 rfl zzr119 (kk (-1) M0 X z_oth.refl)
  refine z_xP zt84 2 6 [some (.ref 4), some (.int p1)] [.ref 4, .int p1] rfl rfl ?_
  refine z_xgI zt84 3 rfl zo84 zzf0_188 X f4 (by decide) (by decide) rfl (fun (x3 : Int32) h2 (h4 : 0 ≤ x3.toInt) (h5 : x3.toInt ≤ 20) => ?_)
  have h6 := z_b32 p1
  refine z_xJ zt84 4 rfl rfl (fun (h7 : p1.toInt < x3.toInt) => ?_) (fun (h7 : x3.toInt ≤ p1.toInt) => ?_)
  · skip
    refine z_xP zt84 6 17 [some (.ref 4), some (.int p1)] [.ref 4] rfl rfl ?_
    refine z_xgX (b := 12) zt84 7 rfl zo84 zzf0_27 X f4 (by decide) (by decide) rfl ?_
    refine z_xP zt84 8 21 [some (.ref 4), some (.int p1)] [.int p1, .ref 12] rfl rfl ?_
    have f12 : T[12]? = some (.inr (12, 3, 20, 0, 0)) := X.1.k rfl (by decide)
    refine z_xal zt84 9 rfl X f12 (by decide) (by decide) (by decide) (by omega) (by omega) (fun (a8 : Nat) h9 h10 => ?_) (fun h11 => absurd h11 (z_Gb (hG.go X (by decide)).2.1 h2 (by omega) (by omega)))
    obtain ⟨c12, w13l, w13u, k14⟩ : ∃ ci, 4 ≤ ci ∧ ci ≤ 11 ∧ T[a8]? = some (.inl (ci, 0, 0, 0, 0)) := h10
    have w13 := And.intro w13l w13u
    refine z_xra zt84 10 rfl zzr84 ?_
    show z_ev (d + 7) 119 5 [some (.ref 4), some (.int p1), some (.int p2), some (.int p3), none, none] [.ref a8] M0 _
    refine z_xP zt119 2 14 [some (.ref 4), some (.int p1), some (.int p2), some (.int p3), some (.ref a8), none] [] rfl rfl ?_
    refine z_xP zt119 5 17 [some (.ref 4), some (.int p1), some (.int p2), some (.int p3), some (.ref a8), none] [.int p3, .int p2, .ref 4] rfl rfl ?_
    refine z_xcV (vs := [.ref 4, .int p2, .int p3]) (r := []) (L2 := [some (.ref 4), some (.int p2), some (.int p3), none]) zt119 6 rfl zo119 zzcV0_241 (Or.inl rfl) rfl X f4 rfl rfl rfl (Nat.le_of_ble_eq_true rfl) zzm103 (Nat.le_of_ble_eq_true rfl) rfl ?_
    refine z_xP zt103 0 2 [some (.ref 4), some (.int p2), some (.int p3), none] [.int p2, .ref 4] rfl rfl ?_
    refine z_xcV (vs := [.ref 4, .int p2]) (r := []) (L2 := [some (.ref 4), some (.int p2)]) zt103 1 rfl zo103 zzcV0_108 (Or.inl rfl) rfl X f4 rfl rfl rfl (Nat.le_of_ble_eq_true rfl) zzm37 (Nat.le_of_ble_eq_true rfl) rfl ?_
    refine z_xP zt37 0 1 [some (.ref 4), some (.int p2)] [.int p2] rfl rfl ?_
    refine z_xZ zt37 1 rfl rfl (fun (h15 : p2.toInt < 0) => ?_) (fun (h15 : 0 ≤ p2.toInt) => ?_)
    · skip
      refine z_xP zt37 5 25 [some (.ref 4), some (.int p2)] [.null] rfl rfl ?_
      refine z_xrn zt37 11 rfl zzr37 ?_
      show z_ev (d + 6) 103 5 [some (.ref 4), some (.int p2), some (.int p3), none] [.null] M0 _
      refine z_xP zt103 2 20 [some (.ref 4), some (.int p2), some (.int p3), some (.null)] [] rfl rfl ?_
      refine z_xP zt103 7 21 [some (.ref 4), some (.int p2), some (.int p3), some (.null)] [.int (-1)] rfl rfl ?_
      refine z_xri zt103 8 rfl zzr103 ?_
      show z_ev (d + 7) 119 20 [some (.ref 4), some (.int p1), some (.int p2), some (.int p3), some (.ref a8), none] [.int (-1)] M0 _
      refine z_xP zt119 7 24 [some (.ref 4), some (.int p1), some (.int p2), some (.int p3), some (.ref a8), some (.int (-1))] [.int (-1)] rfl rfl ?_
      refine z_xZ zt119 8 rfl rfl (fun (h16 : ((-1) : Int) = 0) => absurd h16 (by omega)) (fun (h16 : ((-1) : Int) ≠ 0) => ?_)
      refine z_xP zt119 9 29 [some (.ref 4), some (.int p1), some (.int p2), some (.int p3), some (.ref a8), some (.int (-1))] [.int (-1)] rfl rfl ?_
      have qm1 : (((-1) : Int32)).toInt = (-1) := rfl
      exact z_xri zt119 10 rfl zzr119 (kk (-1) M0 X z_oth.refl)
    refine z_xP zt37 2 6 [some (.ref 4), some (.int p2)] [.ref 4, .int p2] rfl rfl ?_
    refine z_xgI zt37 3 rfl zo37 zzf0_59 X f4 (by decide) (by decide) rfl (fun (x18 : Int32) h17 (h19 : 0 ≤ x18.toInt) (h20 : x18.toInt ≤ 8) => ?_)
    have h21 := z_b32 p2
    refine z_xJ zt37 4 rfl rfl (fun (h22 : p2.toInt < x18.toInt) => ?_) (fun (h22 : x18.toInt ≤ p2.toInt) => ?_)
    · skip
      refine z_xP zt37 6 17 [some (.ref 4), some (.int p2)] [.ref 4] rfl rfl ?_
      refine z_xgX (b := 10) zt37 7 rfl zo37 zzf0_18 X f4 (by decide) (by decide) rfl ?_
      refine z_xP zt37 8 21 [some (.ref 4), some (.int p2)] [.int p2, .ref 10] rfl rfl ?_
      have f10 : T[10]? = some (.inr (10, 2, 8, 9, 0)) := X.1.k rfl (by decide)
      refine z_xal zt37 9 rfl X f10 (by decide) (by decide) (by decide) (by omega) (by omega) (fun (a23 : Nat) h24 h25 => ?_) (fun h26 => absurd h26 (z_Gs (hG.go X (by decide)).2.1 h17 (by omega) (by omega)))
      obtain ⟨q27, t28, m29, k30⟩ : ∃ q t m, T[a23]? = some (.inl (3, q, t, m, 9)) := h25
      have g31 := X.1.p3 k30
      refine z_xgR (κ := .inl (2, q27, t28, m29, 0)) zt37 10 rfl zo37 zzf0_89 X k30 (by decide) (by decide) rfl (fun (a33 : Nat) h32 k34 => ?_)
      have g35 := X.1.p2 k34
      refine z_xra zt37 11 rfl zzr37 ?_
      show z_ev (d + 6) 103 5 [some (.ref 4), some (.int p2), some (.int p3), none] [.ref a33] M0 _
      refine z_xP zt103 2 10 [some (.ref 4), some (.int p2), some (.int p3), some (.ref a33)] [] rfl rfl ?_
      refine z_xP zt103 3 12 [some (.ref 4), some (.int p2), some (.int p3), some (.ref a33)] [.int 1, .int p3] rfl rfl ?_
      refine z_xJ zt103 4 rfl rfl (fun (h36 : p3.toInt < 1) => ?_) (fun (h36 : 1 ≤ p3.toInt) => ?_)
      · skip
        refine z_xP zt103 7 21 [some (.ref 4), some (.int p2), some (.int p3), some (.ref a33)] [.int (-1)] rfl rfl ?_
        refine z_xri zt103 8 rfl zzr103 ?_
        show z_ev (d + 7) 119 20 [some (.ref 4), some (.int p1), some (.int p2), some (.int p3), some (.ref a8), none] [.int (-1)] M0 _
        refine z_xP zt119 7 24 [some (.ref 4), some (.int p1), some (.int p2), some (.int p3), some (.ref a8), some (.int (-1))] [.int (-1)] rfl rfl ?_
        refine z_xZ zt119 8 rfl rfl (fun (h37 : ((-1) : Int) = 0) => absurd h37 (by omega)) (fun (h37 : ((-1) : Int) ≠ 0) => ?_)
        refine z_xP zt119 9 29 [some (.ref 4), some (.int p1), some (.int p2), some (.int p3), some (.ref a8), some (.int (-1))] [.int (-1)] rfl rfl ?_
        have qm1 : (((-1) : Int32)).toInt = (-1) := rfl
        exact z_xri zt119 10 rfl zzr119 (kk (-1) M0 X z_oth.refl)
      refine z_xP zt103 5 17 [some (.ref 4), some (.int p2), some (.int p3), some (.ref a33)] [.int 5, .int p3] rfl rfl ?_
      refine z_xJ zt103 6 rfl rfl (fun (h38 : p3.toInt ≤ 5) => ?_) (fun (h38 : 5 < p3.toInt) => ?_)
      · skip
        refine z_xP zt103 9 23 [some (.ref 4), some (.int p2), some (.int p3), some (.ref a33)] [.ref a33] rfl rfl ?_
        refine z_xgR (κ := .inr (102, 0, m29, 0, 1023)) zt103 10 rfl zo103 zzf0_74 X k34 (by decide) (by decide) rfl (fun (a40 : Nat) h39 k41 => ?_)
        refine z_xln zt103 11 rfl X k41 (by decide) (by omega) (fun (x42 : Int32) (h43 : x42.toInt = ((m29 : Nat) : Int)) => ?_)
        refine z_xP zt103 12 29 [some (.ref 4), some (.int p2), some (.int p3), some (.ref a33)] [.int 12, .int x42] rfl rfl ?_
        refine z_xJ zt103 13 rfl rfl (fun (h44 : x42.toInt ≤ 12) => ?_) (fun (h44 : 12 < x42.toInt) => ?_)
        · skip
          refine z_xP zt103 15 38 [some (.ref 4), some (.int p2), some (.int p3), some (.ref a33)] [.int 0] rfl rfl ?_
          refine z_xri zt103 16 rfl zzr103 ?_
          show z_ev (d + 7) 119 20 [some (.ref 4), some (.int p1), some (.int p2), some (.int p3), some (.ref a8), none] [.int 0] M0 _
          refine z_xP zt119 7 24 [some (.ref 4), some (.int p1), some (.int p2), some (.int p3), some (.ref a8), some (.int 0)] [.int 0] rfl rfl ?_
          refine z_xZ zt119 8 rfl rfl (fun (h45 : (0 : Int) = 0) => ?_) (fun (h45 : (0 : Int) ≠ 0) => absurd h45 (by omega))
          refine z_xP zt119 11 31 [some (.ref 4), some (.int p1), some (.int p2), some (.int p3), some (.ref a8), some (.int 0)] [.ref 4] rfl rfl ?_
          refine z_xgN (κ := .inr (300, 0, 16380, (-2147483648), 2147483647)) zt119 12 rfl zo119 zzf0_267 X f4 (by decide) (by decide) rfl (fun (a47 : Nat) h46 k48 => ?_) (fun h49 => ?_)
          · skip
            refine z_xP zt119 13 46 [some (.ref 4), some (.int p1), some (.int p2), some (.int p3), some (.ref a8), some (.int 0)] [] rfl rfl ?_
            refine z_xP zt119 17 49 [some (.ref 4), some (.int p1), some (.int p2), some (.int p3), some (.ref a8), some (.int 0)] [.ref 4, .ref a8] rfl rfl ?_
            refine z_xgX (b := 11) zt119 18 rfl zo119 zzf0_22 X f4 (by decide) (by decide) rfl ?_
            refine z_xP zt119 19 53 [some (.ref 4), some (.int p1), some (.int p2), some (.int p3), some (.ref a8), some (.int 0)] [.int p2, .ref 11, .ref a8] rfl rfl ?_
            have f11 : T[11]? = some (.inr (11, 2, 8, 5, 0)) := X.1.k rfl (by decide)
            refine z_xal zt119 20 rfl X f11 (by decide) (by decide) (by decide) (by omega) (by omega) (fun (a50 : Nat) h51 h52 => ?_) (fun h53 => absurd h53 (z_Gt (hG.go X (by decide)).2.1 h17 (by omega) (by omega)))
            obtain ⟨q54, t55, m56, k57⟩ : ∃ q t m, T[a50]? = some (.inl (3, q, t, m, 5)) := h52
            have g58 := X.1.p3 k57
            have h59 := z_Gm (hG.go X (by decide)).2.2 X.1 (z_cll (n := 8) (by omega) (by decide)) h24 h51 k30 k57
            refine z_xP zt119 21 56 [some (.ref 4), some (.int p1), some (.int p2), some (.int p3), some (.ref a8), some (.int 0)] [.ref 4, .int p3, .ref a50, .ref a8] rfl rfl ?_
            refine z_xgv zt119 22 rfl zo119 zzf0_267 X f4 (by decide) h46 ?_
            refine z_xcV (vs := [.ref a8, .ref a50, .int p3, .ref a47]) (r := []) (L2 := [some (.ref a8), some (.ref a50), some (.int p3), some (.ref a47), none, none, none, none, none, none]) zt119 23 rfl zo119 zzcV0_270 (Or.inr rfl) rfl X k14 (z_w8 (fun c => (([(4, 120), (10, 120), (7, 120), (5, 120), (11, 120), (8, 120), (6, 120), (9, 120)] : List (Nat × Nat)).find? fun t => t.1 == c) = some (c, 120)) rfl rfl rfl rfl rfl rfl rfl rfl w13) rfl rfl (Nat.le_of_ble_eq_true rfl) zzm120 (Nat.le_of_ble_eq_true rfl) rfl ?_
            refine z_ev.told (z_Qt T) hbk hW (z_qLc (z_rvr (z_pb.way w13 k14)) (z_qLc (z_rvr (z_pb.ben k57 ⟨_, _, _, k57⟩)) (z_qLc z_rvi (z_qLc (z_rvr (z_pb.low hbk hW k48 (by decide) (by decide) (by decide))) (z_qLn (z_qLn (z_qLn (z_qLn (z_qLn (z_qLn z_qL0)))))))))) z_qS0 ?_
            refine zC120 X.1 w13 k14 k57 (by omega) k48 (fun x62 M60 X61  => ?_)
            intro ho
            have X63 := X.go X61 (z_sb (by decide))
            show z_ev (d + 7) 119 62 [some (.ref 4), some (.int p1), some (.int p2), some (.int p3), some (.ref a8), some (.int 0)] [.int x62] M60 _
            exact z_xri zt119 24 rfl zzr119 (kk x62 M60 X63 ho)
          refine z_xP zt119 13 37 [some (.ref 4), some (.int p1), some (.int p2), some (.int p3), some (.ref a8), some (.int 0)] [] rfl rfl ?_
          exact hT a8 c12 x18 w13 k14 h17 h15 h22 h20 h36 h38 h49
        refine z_xP zt103 14 38 [some (.ref 4), some (.int p2), some (.int p3), some (.ref a33)] [.int (-4)] rfl rfl ?_
        refine z_xri zt103 16 rfl zzr103 ?_
        show z_ev (d + 7) 119 20 [some (.ref 4), some (.int p1), some (.int p2), some (.int p3), some (.ref a8), none] [.int (-4)] M0 _
        refine z_xP zt119 7 24 [some (.ref 4), some (.int p1), some (.int p2), some (.int p3), some (.ref a8), some (.int (-4))] [.int (-4)] rfl rfl ?_
        refine z_xZ zt119 8 rfl rfl (fun (h65 : ((-4) : Int) = 0) => absurd h65 (by omega)) (fun (h65 : ((-4) : Int) ≠ 0) => ?_)
        refine z_xP zt119 9 29 [some (.ref 4), some (.int p1), some (.int p2), some (.int p3), some (.ref a8), some (.int (-4))] [.int (-4)] rfl rfl ?_
        have qm4 : (((-4) : Int32)).toInt = (-4) := rfl
        exact z_xri zt119 10 rfl zzr119 (kk (-4) M0 X z_oth.refl)
      refine z_xP zt103 7 21 [some (.ref 4), some (.int p2), some (.int p3), some (.ref a33)] [.int (-1)] rfl rfl ?_
      refine z_xri zt103 8 rfl zzr103 ?_
      show z_ev (d + 7) 119 20 [some (.ref 4), some (.int p1), some (.int p2), some (.int p3), some (.ref a8), none] [.int (-1)] M0 _
      refine z_xP zt119 7 24 [some (.ref 4), some (.int p1), some (.int p2), some (.int p3), some (.ref a8), some (.int (-1))] [.int (-1)] rfl rfl ?_
      refine z_xZ zt119 8 rfl rfl (fun (h66 : ((-1) : Int) = 0) => absurd h66 (by omega)) (fun (h66 : ((-1) : Int) ≠ 0) => ?_)
      refine z_xP zt119 9 29 [some (.ref 4), some (.int p1), some (.int p2), some (.int p3), some (.ref a8), some (.int (-1))] [.int (-1)] rfl rfl ?_
      have qm1 : (((-1) : Int32)).toInt = (-1) := rfl
      exact z_xri zt119 10 rfl zzr119 (kk (-1) M0 X z_oth.refl)
    refine z_xP zt37 5 25 [some (.ref 4), some (.int p2)] [.null] rfl rfl ?_
    refine z_xrn zt37 11 rfl zzr37 ?_
    show z_ev (d + 6) 103 5 [some (.ref 4), some (.int p2), some (.int p3), none] [.null] M0 _
    refine z_xP zt103 2 20 [some (.ref 4), some (.int p2), some (.int p3), some (.null)] [] rfl rfl ?_
    refine z_xP zt103 7 21 [some (.ref 4), some (.int p2), some (.int p3), some (.null)] [.int (-1)] rfl rfl ?_
    refine z_xri zt103 8 rfl zzr103 ?_
    show z_ev (d + 7) 119 20 [some (.ref 4), some (.int p1), some (.int p2), some (.int p3), some (.ref a8), none] [.int (-1)] M0 _
    refine z_xP zt119 7 24 [some (.ref 4), some (.int p1), some (.int p2), some (.int p3), some (.ref a8), some (.int (-1))] [.int (-1)] rfl rfl ?_
    refine z_xZ zt119 8 rfl rfl (fun (h67 : ((-1) : Int) = 0) => absurd h67 (by omega)) (fun (h67 : ((-1) : Int) ≠ 0) => ?_)
    refine z_xP zt119 9 29 [some (.ref 4), some (.int p1), some (.int p2), some (.int p3), some (.ref a8), some (.int (-1))] [.int (-1)] rfl rfl ?_
    have qm1 : (((-1) : Int32)).toInt = (-1) := rfl
    exact z_xri zt119 10 rfl zzr119 (kk (-1) M0 X z_oth.refl)
  refine z_xP zt84 5 22 [some (.ref 4), some (.int p1)] [.null] rfl rfl ?_
  refine z_xrn zt84 10 rfl zzr84 ?_
  show z_ev (d + 7) 119 5 [some (.ref 4), some (.int p1), some (.int p2), some (.int p3), none, none] [.null] M0 _
  refine z_xP zt119 2 12 [some (.ref 4), some (.int p1), some (.int p2), some (.int p3), some (.null), none] [] rfl rfl ?_
  refine z_xP zt119 3 13 [some (.ref 4), some (.int p1), some (.int p2), some (.int p3), some (.null), none] [.int (-1)] rfl rfl ?_
  have qm1 : (((-1) : Int32)).toInt = (-1) := rfl
  exact z_xri zt119 4 rfl zzr119 (kk (-1) M0 X z_oth.refl)
theorem zOT119 {T : List zK} {d : Nat} {K : Option Value → zH → Prop} {p1 p2 p3 : Int32} {M0 : zH} (hG : z_GG T M0) (hbk : z_blk T M0) {b c : Nat} {A : Int32} (w13 : 4 ≤ c ∧ c ≤ 11) (hb : T[b]? = some (.inl (c, 0, 0, 0, 0))) (hA : z_F M0 4 3 = some (.int A)) (h0 : 0 ≤ p2.toInt) (h1 : p2.toInt < A.toInt) (h8 : A.toInt ≤ 8) (n0 : 1 ≤ p3.toInt) (n1 : p3.toInt ≤ 5) (kk : ∀ (x : Int32) (M3 : zH), z_W (M0 ++ [.inl (0, 16380, .inl fun _ => 0)]) (T ++ [(.inr (300, 0, 16380, (-2147483648), 2147483647) : zK)]) → z_X (T ++ [(.inr (300, 0, 16380, (-2147483648), 2147483647) : zK)]) (1012 :: zw119) (M0 ++ [.inl (0, 16380, .inl fun _ => 0)]) M3 → z_F M3 4 12 = some (.ref M0.length) → z_sz M3 = z_sz M0 + 16380 → z_oth (T ++ [(.inr (300, 0, 16380, (-2147483648), 2147483647) : zK)]) (z_Qt (T ++ [(.inr (300, 0, 16380, (-2147483648), 2147483647) : zK)])) (M0 ++ [.inl (0, 16380, .inl fun _ => 0)]) M3 → K (some (.int x)) M3) : z_ev (d + 7) 119 37 [some (.ref 4), some (.int p1), some (.int p2), some (.int p3), some (.ref b), some (.int 0)] [] M0 K := by
  have hW := hG.1
  have hW1 : z_W (M0 ++ [.inl (0, 16380, .inl fun _ => 0)]) (T ++ [(.inr (300, 0, 16380, (-2147483648), 2147483647) : zK)]) := hW.push (Or.inr ⟨rfl, rfl, rfl, fun i _ => ⟨(by decide : (-2147483648 : Int) ≤ (0 : Int32).toInt), (by decide : (0 : Int32).toInt ≤ 2147483647)⟩⟩)
  have hs : z_same T M0 (M0 ++ [.inl (0, 16380, .inl fun _ => 0)]) := z_same.push hW
  have hG1 : z_GG (T ++ [(.inr (300, 0, 16380, (-2147483648), 2147483647) : zK)]) (M0 ++ [.inl (0, 16380, .inl fun _ => 0)]) := hG.new hs hW1
  have hbk1 : z_blk (T ++ [(.inr (300, 0, 16380, (-2147483648), 2147483647) : zK)]) (M0 ++ [.inl (0, 16380, .inl fun _ => 0)]) := hbk.push hW (fun _ _ _ _ h => by cases h)
  have X : z_X (T ++ [(.inr (300, 0, 16380, (-2147483648), 2147483647) : zK)]) (1012 :: zw119) (M0 ++ [.inl (0, 16380, .inl fun _ => 0)]) (M0 ++ [.inl (0, 16380, .inl fun _ => 0)]) := .refl hW1
  have k40 : T[4]? = some (.inl (0, 0, 0, 0, 0)) := hW.k rfl (by decide)
  have kN : (T ++ [(.inr (300, 0, 16380, (-2147483648), 2147483647) : zK)])[M0.length]? = some (.inr (300, 0, 16380, (-2147483648), 2147483647)) := by rw [hW.1, List.getElem?_append_right (Nat.le_refl _), Nat.sub_self]; rfl
  have f4 : (T ++ [(.inr (300, 0, 16380, (-2147483648), 2147483647) : zK)])[4]? = some (.inl (0, 0, 0, 0, 0)) := X.1.k rfl (by decide)
  have k14 : (T ++ [(.inr (300, 0, 16380, (-2147483648), 2147483647) : zK)])[b]? = some (.inl (c, 0, 0, 0, 0)) := z_le.push b _ hb (fun z => by have := z.1; omega)
  refine z_xP zt119 14 41 [some (.ref 4), some (.int p1), some (.int p2), some (.int p3), some (.ref b), some (.int 0)] [.int 16380, .ref 4] rfl rfl ?_
  refine z_enai (N := M0.length) (k := 16380) (z_dc1 zt119 (n := 15) rfl) (by decide) rfl rfl ?_
  refine z_ev.mono (z_ev.grow (K := fun v M3 => ∃ x, v = some (.int x) ∧ z_X (T ++ [(.inr (300, 0, 16380, (-2147483648), 2147483647) : zK)]) (1012 :: zw119) (M0 ++ [.inl (0, 16380, .inl fun _ => 0)]) M3 ∧ z_F M3 4 12 = some (.ref M0.length) ∧ z_oth (T ++ [(.inr (300, 0, 16380, (-2147483648), 2147483647) : zK)]) (z_Qt (T ++ [(.inr (300, 0, 16380, (-2147483648), 2147483647) : zK)])) (M0 ++ [.inl (0, 16380, .inl fun _ => 0)]) M3) ?_) (fun v M3 ⟨⟨x, hx, X3, h, ho⟩, hg, _⟩ => by rw [hx]; exact kk x M3 hW1 X3 h ((z_szg hg (X3.1.1.trans hW1.1.symm)).trans (z_sz_push _ _)) ho)
  refine z_xpf zt119 16 rfl zo119 zzf0_267 X f4 (by decide) (by decide) kN rfl (by decide) zw0_12 (fun M2 X2 ke h => ?_)
  have hA2 : z_F M2 4 3 = some (.int A) := ke.f f4 (by decide) ((hs.f k40 (by decide)).trans hA)
  refine z_xP zt119 17 49 [some (.ref 4), some (.int p1), some (.int p2), some (.int p3), some (.ref b), some (.int 0)] [.ref 4, .ref b] rfl rfl ?_
  refine z_xgX (b := 11) zt119 18 rfl zo119 zzf0_22 X2 f4 (by decide) (by decide) rfl ?_
  refine z_xP zt119 19 53 [some (.ref 4), some (.int p1), some (.int p2), some (.int p3), some (.ref b), some (.int 0)] [.int p2, .ref 11, .ref b] rfl rfl ?_
  have f11 : (T ++ [(.inr (300, 0, 16380, (-2147483648), 2147483647) : zK)])[11]? = some (.inr (11, 2, 8, 5, 0)) := X2.1.k rfl (by decide)
  refine z_xal zt119 20 rfl X2 f11 (by decide) (by decide) (by decide) (by omega) (by omega) (fun (a50 : Nat) h51 h52 => ?_) (fun h53 => absurd h53 (z_Gt (hG1.go X2 (by decide)).2.1 hA2 (by omega) (by omega)))
  obtain ⟨q54, t55, m56, k57⟩ : ∃ q t m, (T ++ [(.inr (300, 0, 16380, (-2147483648), 2147483647) : zK)])[a50]? = some (.inl (3, q, t, m, 5)) := h52
  refine z_xP zt119 21 56 [some (.ref 4), some (.int p1), some (.int p2), some (.int p3), some (.ref b), some (.int 0)] [.ref 4, .int p3, .ref a50, .ref b] rfl rfl ?_
  refine z_xgv zt119 22 rfl zo119 zzf0_267 X2 f4 (by decide) h ?_
  refine z_xcV (vs := [.ref b, .ref a50, .int p3, .ref M0.length]) (r := []) (L2 := [some (.ref b), some (.ref a50), some (.int p3), some (.ref M0.length), none, none, none, none, none, none]) zt119 23 rfl zo119 zzcV0_270 (Or.inr rfl) rfl X2 k14 (z_w8 (fun c => (([(4, 120), (10, 120), (7, 120), (5, 120), (11, 120), (8, 120), (6, 120), (9, 120)] : List (Nat × Nat)).find? fun t => t.1 == c) = some (c, 120)) rfl rfl rfl rfl rfl rfl rfl rfl w13) rfl rfl (Nat.le_of_ble_eq_true rfl) zzm120 (Nat.le_of_ble_eq_true rfl) rfl ?_
  refine z_ev.told (z_Qt (T ++ [(.inr (300, 0, 16380, (-2147483648), 2147483647) : zK)])) (hbk1.ke X2.2 (by decide)) X2.1 (z_qLc (z_rvr (z_pb.way w13 k14)) (z_qLc (z_rvr (z_pb.ben k57 ⟨_, _, _, k57⟩)) (z_qLc z_rvi (z_qLc (z_rvr (z_pb.low hbk1 hW1 kN (by decide) (by decide) (by decide))) (z_qLn (z_qLn (z_qLn (z_qLn (z_qLn (z_qLn z_qL0)))))))))) z_qS0 ?_
  refine zC120 X2.1 w13 k14 k57 (by omega) kN (fun x62 M60 X61  => ?_)
  intro ho
  have X63 := X2.go X61 (z_sb (by decide))
  show z_ev (d + 7) 119 62 [some (.ref 4), some (.int p1), some (.int p2), some (.int p3), some (.ref b), some (.int 0)] [.int x62] M60 _
  exact z_xri zt119 24 rfl zzr119 ⟨x62, rfl, X63, X61.2.f f4 (by decide) h, (z_oth.ke hbk1 hW1 ke (by decide) (by decide)).trans ho⟩
theorem zJ20 : z_P20 z_J := by
  intro x1 x2 x3 x4 M ⟨T, hA, hR, h9⟩
  have hW := hA.1.1
  refine z_twoG (C := fun _ _ => True) ?_
  rw [zzm106]
  show z_ev 2046 106 0 [some (.ref 4), some (.int x1), some (.int x2), some (.int x3), some (.int x4), none, none] [] M _
  refine zOC106 hW hW hR.2.2.1 hA.1 fun y M1 X1  ho => ?_
  have hB := z_kee hA X1 (by decide)
  have hS : z_RR T M1 := hR.tri hW X1 ho rfl rfl rfl
  refine ⟨⟨y, rfl⟩, Or.inl ⟨X1.1.1.trans hW.1.symm, z_kep X1 (by decide)⟩, ?_⟩
  rw [zzm256]
  show z_ev 2046 256 0 [some (.ref 19), some (.int x1), some (.int x2), some (.int x3), some (.int x4), none, none, none, none, none] [] M1 _
  refine zC256 hB.1.1 hB.2.2.1 fun z M2 X2  => ?_
  exact ⟨⟨z, rfl⟩, trivial, ⟨T, z_kee hB X2 (by decide), hS.go hB.1.1 X2 rfl, (h9.tri ho (fun b q t m hb ⟨q2, t2, m2, h5⟩ => by rw [hb] at h5; cases h5)).go hS.2.2.1 hB.1.1 X2 rfl⟩, X2.1.1.trans X1.1.1.symm, z_kep X2 (by decide)⟩
theorem zJ21 : z_P21 z_J := by
  intro x1 x2 x3 x4 x5 M ⟨T, hA, hR, h9⟩
  have hW := hA.1.1
  refine z_twoG (C := fun _ _ => True) ?_
  rw [zzm112]
  show z_ev 2046 112 0 [some (.ref 4), some (.int x1), some (.int x2), some (.int x3), some (.int x4), some (.int x5), none, none, none] [] M _
  refine zOC112 hW hW hR.2.2.1 hA.1 fun y M1 X1  ho => ?_
  have hB := z_kee hA X1 (by decide)
  have hS : z_RR T M1 := hR.tri hW X1 ho rfl rfl rfl
  refine ⟨⟨y, rfl⟩, Or.inl ⟨X1.1.1.trans hW.1.symm, z_kep X1 (by decide)⟩, ?_⟩
  rw [zzm258]
  show z_ev 2046 258 0 [some (.ref 19), some (.int x1), some (.int x2), some (.int x3), some (.int x4), some (.int x5), none, none, none, none, none, none, none] [] M1 _
  refine zC258 hB.1.1 hB.2.2.1 fun z M2 X2  => ?_
  exact ⟨⟨z, rfl⟩, trivial, ⟨T, z_kee hB X2 (by decide), hS.go hB.1.1 X2 rfl, (h9.tri ho (fun b q t m hb ⟨q2, t2, m2, h5⟩ => by rw [hb] at h5; cases h5)).go hS.2.2.1 hB.1.1 X2 rfl⟩, X2.1.1.trans X1.1.1.symm, z_kep X2 (by decide)⟩
theorem zJ22 : z_P22 z_J := by
  intro x1 x2 x3 x4 M ⟨T, hA, hR, h9⟩
  have hW := hA.1.1
  refine z_twoG (C := fun _ _ => True) ?_
  rw [zzm114]
  show z_ev 2046 114 0 [some (.ref 4), some (.int x1), some (.int x2), some (.int x3), some (.int x4), none, none, none] [] M _
  refine zOC114 hW hW hR.2.2.1 hA.1 fun y M1 X1  ho => ?_
  have hB := z_kee hA X1 (by decide)
  have hS : z_RR T M1 := hR.tri hW X1 ho rfl rfl rfl
  refine ⟨⟨y, rfl⟩, Or.inl ⟨X1.1.1.trans hW.1.symm, z_kep X1 (by decide)⟩, ?_⟩
  rw [zzm259]
  show z_ev 2046 259 0 [some (.ref 19), some (.int x1), some (.int x2), some (.int x3), some (.int x4), none, none, none] [] M1 _
  refine zC259 hB.1.1 hB.2.2.1 fun z M2 X2  => ?_
  exact ⟨⟨z, rfl⟩, trivial, ⟨T, z_kee hB X2 (by decide), hS.go hB.1.1 X2 rfl, (h9.tri ho (fun b q t m hb ⟨q2, t2, m2, h5⟩ => by rw [hb] at h5; cases h5)).go hS.2.2.1 hB.1.1 X2 rfl⟩, X2.1.1.trans X1.1.1.symm, z_kep X2 (by decide)⟩
theorem zJ25 : z_P25 z_J := by
  intro x1 x2 x3 x4 M ⟨T, hA, hR, h9⟩
  have hW := hA.1.1
  refine z_twoG (C := fun _ _ => True) ?_
  rw [zzm129]
  show z_ev 2046 129 0 [some (.ref 4), some (.int x1), some (.int x2), some (.int x3), some (.int x4), none, none] [] M _
  refine zOC129 hW hW hR.2.2.1 hA.1 fun y M1 X1 _ _ ho => ?_
  have hB := z_kee hA X1 (by decide)
  have hS : z_RR T M1 := hR.tri hW X1 ho rfl rfl rfl
  refine ⟨⟨y, rfl⟩, Or.inl ⟨X1.1.1.trans hW.1.symm, z_kep X1 (by decide)⟩, ?_⟩
  rw [zzm264]
  show z_ev 2046 264 0 [some (.ref 19), some (.int x1), some (.int x2), some (.int x3), some (.int x4)] [] M1 _
  refine zC264 hB.1.1 hB.2.2.1 fun z M2 X2 _ _ => ?_
  exact ⟨⟨z, rfl⟩, trivial, ⟨T, z_kee hB X2 (by decide), hS.go hB.1.1 X2 rfl, (h9.tri ho (fun b q t m hb ⟨q2, t2, m2, h5⟩ => by rw [hb] at h5; cases h5)).go hS.2.2.1 hB.1.1 X2 rfl⟩, X2.1.1.trans X1.1.1.symm, z_kep X2 (by decide)⟩
theorem zJ26 : z_P26 z_J := by
  intro x1 x2 x3 M ⟨T, hA, hR, h9⟩
  have hW := hA.1.1
  refine z_twoG (C := fun _ _ => True) ?_
  rw [zzm144]
  show z_ev 2046 144 0 [some (.ref 4), some (.int x1), some (.int x2), some (.int x3), none, none] [] M _
  refine zOC144 hW hW hR.2.2.1 hA.1 fun y M1 X1 _ _ ho => ?_
  have hB := z_kee hA X1 (by decide)
  have hS : z_RR T M1 := hR.tri hW X1 ho rfl rfl rfl
  refine ⟨⟨y, rfl⟩, Or.inl ⟨X1.1.1.trans hW.1.symm, z_kep X1 (by decide)⟩, ?_⟩
  rw [zzm271]
  show z_ev 2046 271 0 [some (.ref 19), some (.int x1), some (.int x2), some (.int x3), none, none, none] [] M1 _
  refine zC271 hB.1.1 hB.2.2.1 fun z M2 X2 _ _ => ?_
  exact ⟨⟨z, rfl⟩, trivial, ⟨T, z_kee hB X2 (by decide), hS.go hB.1.1 X2 rfl, (h9.tri ho (fun b q t m hb ⟨q2, t2, m2, h5⟩ => by rw [hb] at h5; cases h5)).go hS.2.2.1 hB.1.1 X2 rfl⟩, X2.1.1.trans X1.1.1.symm, z_kep X2 (by decide)⟩
theorem zJ24 : z_P24 z_J := by
  intro x1 x2 x3 M ⟨T, hA, hR, hL9⟩
  refine z_twoG (C := fun _ _ => True) ?_
  have H2 : ∀ (T1 : List zK) (M1 : zH), z_inv T1 M1 → z_RR T1 M1 → z_R89 T1 M1 → z_ev 2046 263 0 (z_ent [.ref 19, .int x1, .int x2, .int x3] (z_ml 263)) [] M1 fun v2 M2 => (∃ y, v2 = some (.int y)) ∧ True ∧ z_J M2 ∧ M2.length = M1.length ∧ z_pot M2 = z_pot M1 := by
    intro T1 M1 hB hS hL
    rw [zzm263]
    show z_ev 2046 263 0 [some (.ref 19), some (.int x1), some (.int x2), some (.int x3), none, none, none, none, none] [] M1 _
    refine zC263 hB.1.1 hB.2.2.1 fun z M2 X2  => ?_
    exact ⟨⟨z, rfl⟩, trivial, ⟨T1, z_kee hB X2 (by decide), hS.go hB.1.1 X2 rfl, hL.go hS.2.2.1 hB.1.1 X2 rfl⟩, X2.1.1.trans hB.1.1.1.symm, z_kep X2 (by decide)⟩
  rw [zzm119]
  show z_ev 2046 119 0 [some (.ref 4), some (.int x1), some (.int x2), some (.int x3), none, none] [] M _
  refine zOC119 hA.1.1 hR.2.2.1 (fun b c A h1 h2 h3 h4 h5 h6 h7 h8 h9 => ?_) hA.1 (fun y M1 X1 ho => ⟨⟨y, rfl⟩, Or.inl ⟨X1.1.1.trans hA.1.1.1.symm, z_kep X1 (by decide)⟩, H2 T M1 (z_kee hA X1 (by decide)) (hR.tri hA.1.1 X1 ho rfl rfl rfl) (hL9.tri ho (fun b q t m hb ⟨q2, t2, m2, h5⟩ => by rw [hb] at h5; cases h5))⟩)
  refine zOT119 hA.1 hR.2.2.1 h1 h2 h3 h4 h5 h6 h7 h8 (fun y M3 hW1 X3 h e2 ho => ?_)
  have hB := z_new4 hA (z_same.push hA.1.1) hW1
  have hS := hR.push1 hA.1.1 hW1 (fun _ _ _ _ h => by cases h)
  refine ⟨⟨y, rfl⟩, Or.inr ?_, H2 _ M3 (z_kee hB X3 (by decide)) (hS.tri hW1 X3 ho rfl rfl rfl) ((hL9.push1 hR.2.2.1 hA.1.1 (fun _ _ _ _ h => by cases h)).tri ho (fun b q t m hb ⟨q2, t2, m2, h5⟩ => by rw [hb] at h5; cases h5))⟩
  have e1 : M3.length = M.length + 1 := by rw [X3.1.1, List.length_append, hA.1.1.1]; rfl
  have e3 : z_pot M = 16400 := by rw [z_poth, h9]
  have e4 : z_pot M3 = 0 := by rw [z_poth, h]
  unfold z_szr
  exact ⟨by omega, by omega⟩
