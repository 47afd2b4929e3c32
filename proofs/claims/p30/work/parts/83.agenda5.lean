/-! agenda on the class's side, told -/
/-- what the call does -/
def z_AGC (bb : Nat → Int) (nn : Nat) (M M1 : zH) : Prop := ((z_Fv M 4 3).toInt = 8 ∧ M1 = M) ∨ ((z_Fv M 4 3).toInt ≠ 8 ∧ (z_Fv M1 5 1).toInt = 0 ∧ (((z_Fv M1 4 3).toInt = (z_Fv M 4 3).toInt ∧ ¬ z_lwA bb nn) ∨ ((z_Fv M1 4 3).toInt = (z_Fv M 4 3).toInt + 1 ∧ z_lwA bb nn)))
/-- one more agenda, or none -/
def z_grw (m : Nat) (A : Int32) (M1 : zH) : Prop := (m = 0 ∧ z_F M1 4 3 = some (.int A)) ∨ (m ≠ 0 ∧ ∃ u : Int32, z_F M1 4 3 = some (.int u) ∧ u.toInt = A.toInt + 1)
theorem z_grw.ke {m : Nat} {A : Int32} {M M1 : zH} (h : z_grw m A M) (e : z_F M1 4 3 = z_F M 4 3) : z_grw m A M1 := by
  unfold z_grw
  rw [e]
  exact h
theorem z_AGCn {bb : Nat → Int} {nn : Nat} {M M5 : zH} {A : Int32} (hA0 : z_F M 4 3 = some (.int A)) (a8 : A.toInt ≠ 8) (h51 : z_F M5 5 1 = some (.int 0)) (h : z_F M5 4 3 = some (.int A)) (hw : z_wh bb nn = none) : z_AGC bb nn M M5 := Or.inr ⟨by rw [z_Fv.of hA0]; exact a8, by rw [z_Fv.of h51]; rfl, Or.inl ⟨by rw [z_Fv.of h, z_Fv.of hA0], z_lw_no hw⟩⟩
theorem z_AGCm {bb : Nat → Int} {nn m q pr en t : Nat} {nu : Int → Int} {ts : Nat → Nat} {M M5 : zH} {A : Int32} (hA0 : z_F M 4 3 = some (.int A)) (a8 : A.toInt ≠ 8) (h51 : z_F M5 5 1 = some (.int 0)) (hm : z_grw m A M5) (hl : m = 0 ↔ ¬ z_lawful bb nn nu q t ts) (hwh : z_wh bb nn = some (q, nu, pr, en, t, ts)) : z_AGC bb nn M M5 := by
  refine Or.inr ⟨by rw [z_Fv.of hA0]; exact a8, by rw [z_Fv.of h51]; rfl, ?_⟩
  rcases hm with ⟨h0, h⟩ | ⟨h0, u, h, hu⟩
  · refine Or.inl ⟨by rw [z_Fv.of h, z_Fv.of hA0], ?_⟩
    rintro ⟨k', nu', pr', en', t', ts', e, hw⟩
    rw [hwh] at e
    cases e
    exact hl.mp h0 hw
  · refine Or.inr ⟨by rw [z_Fv.of h, z_Fv.of hA0]; exact hu, q, nu, pr, en, t, ts, hwh, ?_⟩
    by_cases c : z_lawful bb nn nu q t ts
    · exact c
    · exact absurd (hl.mpr c) h0
/-- the benches of a new agenda -/
def z_fnd (T1 : List zK) (M M1 : zH) (A : Int32) (a q t m : Nat) : Prop := (m = 0 ∧ z_O M1 10 = z_O M 10) ∨ ∃ N1, z_O M1 10 = z_updR (z_O M 10) A.toNatClampNeg (some N1) ∧ T1[N1]? = some (.inl (3, q, t, m, 9)) ∧ z_F M1 N1 0 = some (.ref a)
/-- what a call of agenda leaves: the benches of the others, and the new one's contents -/
def z_AGN (T1 : List zK) (M M1 : zH) (bb : Nat → Int) (nn : Nat) : Prop := ∀ A : Int32, z_F M 4 3 = some (.int A) → (∀ i : Nat, (i : Int) < A.toInt → z_O M1 10 i = z_O M 10 i) ∧ ((z_Fv M1 4 3).toInt = A.toInt + 1 → ∃ (b N q t m pr en : Nat) (nu : Int → Int) (ts : Nat → Nat), z_wh bb nn = some (q, nu, pr, en, t, ts) ∧ z_O M1 10 A.toInt.toNat = some b ∧ T1[b]? = some (.inl (3, q, t, m, 9)) ∧ z_F M1 b 0 = some (.ref N) ∧ z_AGO T1 M1 N q t m pr en (z_brk bb nn nu ts t))
theorem z_AGNs {T1 : List zK} {M M1 : zH} {bb : Nat → Int} {nn : Nat} (h : z_F M1 4 3 = z_F M 4 3) (h2 : z_O M1 10 = z_O M 10) : z_AGN T1 M M1 bb nn := fun A hA => by
  refine ⟨fun i _ => by rw [h2], fun hu => ?_⟩
  rw [z_Fv.of (h.trans hA)] at hu
  omega
theorem z_AGNm {T4 : List zK} {M M3 M4 M5 : zH} {bb : Nat → Int} {nn N q t m pr en : Nat} {nu : Int → Int} {ts : Nat → Nat} {A : Int32} (hA0 : z_F M 4 3 = some (.int A)) (a0 : 0 ≤ A.toInt) (o3 : z_O M3 10 = z_O M 10) (hfd : z_fnd T4 M3 M4 A N q t m) (o5 : z_O M5 10 = z_O M4 10) (u5 : z_ke T4 [1101] M4 M5) (hct : z_AGO T4 M5 N q t m pr en (z_brk bb nn nu ts t)) (hgr : z_grw m A M5) (hwh : z_wh bb nn = some (q, nu, pr, en, t, ts)) : z_AGN T4 M M5 bb nn := fun A' hA' => by
  rw [hA0] at hA'
  cases hA'
  have ea : A.toNatClampNeg = A.toInt.toNat := rfl
  refine ⟨fun i hi => ?_, fun hu => ?_⟩
  · rcases hfd with ⟨_, h1⟩ | ⟨N1, h1, _, _⟩
    · rw [o5, h1, o3]
    · rw [o5, h1, ea, o3]
      unfold z_updR
      exact if_neg (by omega)
  · rcases hgr with ⟨_, h⟩ | ⟨h0, _⟩
    · rw [z_Fv.of h] at hu
      omega
    · rcases hfd with ⟨h1, _⟩ | ⟨N1, h1, h2, h3⟩
      · exact absurd h1 h0
      · refine ⟨N1, N, q, t, m, pr, en, nu, ts, hwh, ?_, h2, u5.f h2 (by decide) h3, hct⟩
        rw [o5, h1, ea]
        unfold z_updR
        exact if_pos rfl
/-- what a new agenda makes of the benches -/
theorem z_tnew {T : List zK} {c : zK} {L : List zK} {b q t m : Nat} (hb : (T ++ (c :: L))[b]? = some (.inl (3, q, t, m, 9))) (hL : (L.all fun κ => match κ with | .inl _ => false | .inr _ => true) = true) : T[b]? = some (.inl (3, q, t, m, 9)) ∨ (b = T.length ∧ c = .inl (3, q, t, m, 9)) := by
  by_cases c1 : b < T.length
  · rw [List.getElem?_append_left c1] at hb
    exact Or.inl hb
  · rw [List.getElem?_append_right (by omega)] at hb
    obtain ⟨j, hj⟩ : ∃ j, b - T.length = j := ⟨_, rfl⟩
    rw [hj] at hb
    match j, hj, hb with
    | 0, hj, hb => exact Or.inr ⟨by omega, Option.some.inj hb⟩
    | j + 1, _, hb =>
      have h2 : (.inl (3, q, t, m, 9) : zK) ∈ L := List.mem_of_getElem? (show L[j]? = _ from hb)
      have h3 := List.all_eq_true.mp hL _ h2
      exact absurd (show false = true from h3) Bool.false_ne_true
theorem z_N8.same {T : List zK} {M1 : zH} : z_N8 T T M1 := fun _ _ _ _ h => Or.inl h
def z_N7 (T T1 : List zK) (M M1 : zH) : Prop := (z_blk T M → z_blk T1 M1) ∧ (((z_O M1 10 = z_O M 10 ∧ z_F M1 4 3 = z_F M 4 3) ∨ ∃ (A : Int32) (b q t m : Nat), z_F M 4 3 = some (.int A) ∧ z_O M1 10 = z_updR (z_O M 10) A.toNatClampNeg (some b) ∧ T1[b]? = some (.inl (3, q, t, m, 9)) ∧ T.length ≤ b ∧ z_F M1 b 4 = some (.int 0) ∧ (z_Fv M1 4 3).toInt = A.toInt + 1)) ∧ (z_blk T M → z_N8 T T1 M1)
theorem z_plen {T T1 : List zK} (hp : ∀ (a : Nat) (κ : zK), T[a]? = some κ → T1[a]? = some κ) : T.length ≤ T1.length := by
  by_cases c : T.length ≤ T1.length
  · exact c
  · have h := hp T1.length (T[T1.length]'(by omega)) (List.getElem?_eq_getElem (by omega))
    have h2 := (List.getElem?_eq_some_iff.mp h).1
    omega
theorem z_N7.up {T T3 T4 : List zK} {M M3 M4 M5 : zH} (hN : z_N7 T3 T4 M3 M4) (h1 : z_blk T M → z_blk T3 M3) (h5 : z_blk T4 M4 → z_blk T4 M5) (o3 : z_O M3 10 = z_O M 10) (a3 : z_F M3 4 3 = z_F M 4 3) (o5 : z_O M5 10 = z_O M4 10) (a5 : z_F M5 4 3 = z_F M4 4 3) (hl : T.length ≤ T3.length) {rs : List Nat} (hT : ∀ b q t m J : Nat, T3[b]? = some (.inl (3, q, t, m, J)) → T[b]? = some (.inl (3, q, t, m, J))) (hW4 : z_W M4 T4) (u5 : z_ke T4 rs M4 M5) (hr5 : (([205, 206, 207] : List Nat).all fun x => !rs.elem x) = true) (h4 : ∀ b q t m J : Nat, T4[b]? = some (.inl (3, q, t, m, J)) → z_F M5 b 4 = z_F M4 b 4) : z_N7 T T4 M M5 := by
  refine ⟨fun h => h5 (hN.1 (h1 h)), ?_, fun h b q t m hb => ?_⟩
  rotate_left
  · have nn := z_nin hr5
    rcases hN.2.2 (h1 h) b q t m hb with g | ⟨g1, g2, g3⟩
    · exact Or.inl (hT _ _ _ _ _ g)
    · refine Or.inr ⟨(h4 b q t m 9 hb).trans g1, fun k hk => ?_, g3.ke (hN.1 (h1 h)) hW4 hb u5 ?_⟩
      · rw [u5.a ((hN.1 (h1 h)).k4 hW4 hb) (nn _ rfl)]
        exact g2 k hk
      · exact List.all_eq_true.mpr fun x hx => List.all_eq_true.mp hr5 x (List.mem_cons_of_mem _ hx)
  rcases hN.2.1 with ⟨g1, g2⟩ | ⟨A, b, q, t, m, g1, g2, g3, g4, g5, g6⟩
  · exact Or.inl ⟨o5.trans (g1.trans o3), a5.trans (g2.trans a3)⟩
  · refine Or.inr ⟨A, b, q, t, m, a3.symm.trans g1, o5.trans (by rw [g2, o3]), g3, by omega, (h4 b q t m 9 g3).trans g5, ?_⟩
    have e : z_Fv M5 4 3 = z_Fv M4 4 3 := z_FvK a5
    rw [e]
    exact g6
theorem z_blk.sub {T T1 : List zK} {M M1 : zH} {rs : List Nat} (h : z_blk T M) (hn : ∀ b q t m J : Nat, T1[b]? = some (.inl (3, q, t, m, J)) → T[b]? = some (.inl (3, q, t, m, J))) (ke : z_ke T rs M M1) (hr : (z_bkf.all fun x => !rs.elem x) = true) : z_blk T1 M1 := fun b q t m J hb => (h.ke ke hr) b q t m J (hn b q t m J hb)
theorem z_hnb {T T3 : List zK} {M1 M3 : zH} (hl : M1.length = T.length) (hW3 : z_W M3 T3) (p3 : ∀ (a : Nat) (κ : zK), T[a]? = some κ → T3[a]? = some κ) (hnob : z_nob M1 M3) : ∀ b q t m J : Nat, T3[b]? = some (.inl (3, q, t, m, J)) → T[b]? = some (.inl (3, q, t, m, J)) := fun b q t m J h => by
  obtain ⟨fs, e1, _⟩ := hW3.ob h
  obtain ⟨fs0, e2⟩ := hnob b fs e1
  have hb : b < T.length := by
    have h2 := (List.getElem?_eq_some_iff.mp e2).1
    omega
  have e3 := p3 b (T[b]'hb) (List.getElem?_eq_getElem hb)
  rw [h] at e3
  rw [List.getElem?_eq_getElem hb]
  exact e3.symm
theorem z_blk.bench {T : List zK} {M : zH} {a q t m J : Nat} (h : z_blk T M) (hW : z_W M T) : z_blk (T ++ [(.inl (3, q, t, m, J) : zK), z_af 201 9, z_af 202 9, z_af 203 9, z_af 205 10, z_af 206 32, z_af 207 32, z_ai 208 10 0 (q - 1), z_ai 210 5 0 (m - 1), z_af 211 80, z_al 209 (z_sp m)]) (M ++ ([.inr (3, [.ref a, .ref (M.length + 1), .ref (M.length + 2), .ref (M.length + 3), .int 0, .ref (M.length + 4), .ref (M.length + 5), .ref (M.length + 6), .ref (M.length + 7), .ref (M.length + 10), .ref (M.length + 8), .ref (M.length + 9)]), .inl (0, 9, .inl fun _ => 0), .inl (0, 9, .inl fun _ => 0), .inl (0, 9, .inl fun _ => 0), .inl (0, 10, .inl fun _ => 0), .inl (0, 32, .inl fun _ => 0), .inl (0, 32, .inl fun _ => 0), .inl (0, 10, .inl fun _ => 0), .inl (0, 5, .inl fun _ => 0), .inl (0, 80, .inl fun _ => 0), .inl (1, z_sp m, .inr (.inl fun _ => 0))] : zH)) := by
  intro b q2 t2 m2 J2 hb
  by_cases c : b < T.length
  · rw [List.getElem?_append_left c] at hb
    have hF : ∀ k, z_F (M ++ ([.inr (3, [.ref a, .ref (M.length + 1), .ref (M.length + 2), .ref (M.length + 3), .int 0, .ref (M.length + 4), .ref (M.length + 5), .ref (M.length + 6), .ref (M.length + 7), .ref (M.length + 10), .ref (M.length + 8), .ref (M.length + 9)]), .inl (0, 9, .inl fun _ => 0), .inl (0, 9, .inl fun _ => 0), .inl (0, 9, .inl fun _ => 0), .inl (0, 10, .inl fun _ => 0), .inl (0, 32, .inl fun _ => 0), .inl (0, 32, .inl fun _ => 0), .inl (0, 10, .inl fun _ => 0), .inl (0, 5, .inl fun _ => 0), .inl (0, 80, .inl fun _ => 0), .inl (1, z_sp m, .inr (.inl fun _ => 0))] : zH)) b k = z_F M b k := fun k => by
      unfold z_F
      rw [List.getElem?_append_left (by rw [hW.1]; exact c)]
    obtain ⟨h1, h2, h3, h5, h6, h7, h8, h10, h11, h9⟩ := h b q2 t2 m2 J2 hb
    exact ⟨(hF 1).trans h1, (hF 2).trans h2, (hF 3).trans h3, (hF 5).trans h5, (hF 6).trans h6, (hF 7).trans h7, (hF 8).trans h8, (hF 10).trans h10, (hF 11).trans h11, (hF 9).trans h9⟩
  · rw [List.getElem?_append_right (by omega)] at hb
    obtain ⟨j, hj⟩ : ∃ j, b = T.length + j := ⟨b - T.length, by omega⟩
    rw [show b - T.length = j by omega] at hb
    match j, hj, hb with
    | 0, hj, hb =>
      have eb : b = M.length := by rw [hW.1]; exact hj
      subst eb
      exact ⟨by unfold z_F; rw [z_geto]; rfl, by unfold z_F; rw [z_geto]; rfl, by unfold z_F; rw [z_geto]; rfl, by unfold z_F; rw [z_geto]; rfl, by unfold z_F; rw [z_geto]; rfl, by unfold z_F; rw [z_geto]; rfl, by unfold z_F; rw [z_geto]; rfl, by unfold z_F; rw [z_geto]; rfl, by unfold z_F; rw [z_geto]; rfl, by unfold z_F; rw [z_geto]; rfl⟩
    | 1, _, hb => cases hb
    | 2, _, hb => cases hb
    | 3, _, hb => cases hb
    | 4, _, hb => cases hb
    | 5, _, hb => cases hb
    | 6, _, hb => cases hb
    | 7, _, hb => cases hb
    | 8, _, hb => cases hb
    | 9, _, hb => cases hb
    | 10, _, hb => cases hb
    | n + 11, _, hb => cases hb
theorem zH29 {T : List zK} {d : Nat} {K : Option Value → zH → Prop} {a q t m : Nat} {A : Int32} {M : zH} (hA : z_GG T M ∧ z_GL M ∧ z_G4 M ∧ z_F M 4 5 = z_F M 19 21) (ka : T[a]? = some (.inl (2, q, t, m, 0))) (hA0 : z_F M 4 3 = some (.int A)) (a0 : 0 ≤ A.toInt) (a8 : A.toInt < 8) (kk : ∀ (y : Int32) (T1 : List zK) (M1 : zH), z_GG T1 M1 ∧ z_GL M1 ∧ z_G4 M1 ∧ z_F M1 4 5 = z_F M1 19 21 → (∀ (a : Nat) (κ : zK), T[a]? = some κ → T1[a]? = some κ) → z_ke T ([10, 11, 1003] ++ zw30) M M1 → z_pot M1 = z_pot M → (M1.length = M.length ∨ (M1.length ≤ M.length + 22 ∧ z_sz M1 ≤ z_sz M + 448)) → z_grw m A M1 → z_fnd T1 M M1 A a q t m → z_N7 T T1 M M1 → K (some (.int y)) M1) : z_ev (d + 3) 29 0 [some (.ref 4), some (.ref a)] [] M K := by
  have hW := hA.1.1
  have X : z_X T zw30 M M := .refl hW
  have g0 := hW.p2 ka
  have k4 : T[4]? = some (.inl (0, 0, 0, 0, 0)) := hW.k rfl (by decide)
  have k10 : T[10]? = some (.inr (10, 2, 8, 9, 0)) := hW.k rfl (by decide)
  have k11 : T[11]? = some (.inr (11, 2, 8, 5, 0)) := hW.k rfl (by decide)
  refine z_xP zt29 0 1 [some (.ref 4), some (.ref a)] [.ref a] rfl rfl ?_
  refine z_xgR (κ := .inr (102, 0, m, 0, 1023)) zt29 1 rfl zo29 zzf0_74 X ka (by decide) (by decide) rfl (fun (b : Nat) h1 kb => ?_)
  refine z_xln zt29 2 rfl X kb (by decide) (by omega) (fun (x : Int32) (hx : x.toInt = ((m : Nat) : Int)) => ?_)
  refine z_xZ zt29 3 rfl rfl (fun (h2 : x.toInt ≠ 0) => ?_) (fun (h2 : x.toInt = 0) => ?_)
  rotate_left
  · refine z_xP zt29 4 12 [some (.ref 4), some (.ref a)] [.ref a, .int (-1000)] rfl rfl ?_
    refine z_xcV (vs := [.ref a]) (r := [.int (-1000)]) (L2 := [some (.ref a), none, none, none, none, none]) zt29 5 rfl zo29 zzcV0_79 (Or.inl rfl) rfl X ka rfl rfl rfl (Nat.le_of_ble_eq_true rfl) zzm30 (Nat.le_of_ble_eq_true rfl) rfl ?_
    refine zC30 hW ka (fun y M1 X1 y0 y1 => ?_)
    show z_ev (d + 3) 29 15 [some (.ref 4), some (.ref a)] [.int y, .int (-1000)] M1 _
    have q1000 : ((-1000) : Int32).toInt = -1000 := rfl
    refine z_xI zt29 6 rfl rfl (P := fun _ => True) (fun z _ => ?_) trivial
    exact z_xri zt29 7 rfl zzr29 (kk z T M1 (z_kee hA X1 (by decide)) (fun _ _ h => h) ((z_ke.refl (rs := ([10, 11, 1003] ++ zw30))).trans X1.2 (z_sb (by decide))) (z_kep X1 (by decide)) (Or.inl (X1.1.1.trans hW.1.symm)) (Or.inl ⟨by omega, X1.2.f k4 (by decide) hA0⟩) (Or.inl ⟨by omega, X1.2.o k10 (by decide)⟩) ⟨fun h => h.ke X1.2 rfl, Or.inl ⟨X1.2.o k10 (by decide), X1.2.1 4 0 0 0 0 0 3 k4 (by decide)⟩, fun _ => z_N8.same⟩)
  · refine z_xP zt29 8 18 [some (.ref 4), some (.ref a)] [.ref 4] rfl rfl ?_
    have hm : 1 ≤ m := by omega
    have hsp : z_sp m ≤ 16 := by unfold z_sp; omega
    refine z_xgX (b := 10) zt29 9 rfl zo29 zzf0_18 X k4 (by decide) (by decide) rfl ?_
    refine z_xP zt29 10 22 [some (.ref 4), some (.ref a)] [.ref 4, .ref 10] rfl rfl ?_
    refine z_xgv zt29 11 rfl zo29 zzf0_59 X k4 (by decide) hA0 ?_
    refine z_nwo hW ka hm (fun fs sx g1 ga gN gs gn gk => ?_)
    refine z_enew (N := M.length) (fs := [.null, .null, .null, .null, .int 0, .null, .null, .null, .null, .null, .null, .null]) (z_dc1 zt29 (n := 12) rfl) (by rw [zo29]; exact zzw0_16) rfl rfl ?_
    refine z_xP zt29 13 30 [some (.ref 4), some (.ref a)] [.ref a, .ref M.length, .ref M.length, .int A, .ref 10] rfl rfl ?_
    refine z_ecI (vs := [.ref M.length, .ref a]) (r := [.ref M.length, .int A, .ref 10]) (L2 := [some (.ref M.length), some (.ref a)]) (z_dc1 zt29 (n := 14) rfl) (by rw [zo29]; exact zzcI0_82) (by decide) rfl z_geto gN rfl rfl (Nat.le_of_ble_eq_true rfl) zzm33 (Nat.le_of_ble_eq_true rfl) rfl ?_
    refine zA33 gN g1 ga gs gn gk ?_
    show z_ev (d + 3) 29 33 [some (.ref 4), some (.ref a)] [.ref M.length, .int A, .ref 10] _ _
    have hW1 : z_W (M ++ ([.inr (3, [.ref a, .ref (M.length + 1), .ref (M.length + 2), .ref (M.length + 3), .int 0, .ref (M.length + 4), .ref (M.length + 5), .ref (M.length + 6), .ref (M.length + 7), .ref (M.length + 10), .ref (M.length + 8), .ref (M.length + 9)]), .inl (0, 9, .inl fun _ => 0), .inl (0, 9, .inl fun _ => 0), .inl (0, 9, .inl fun _ => 0), .inl (0, 10, .inl fun _ => 0), .inl (0, 32, .inl fun _ => 0), .inl (0, 32, .inl fun _ => 0), .inl (0, 10, .inl fun _ => 0), .inl (0, 5, .inl fun _ => 0), .inl (0, 80, .inl fun _ => 0), .inl (1, z_sp m, .inr (.inl fun _ => 0))] : zH)) (T ++ [(.inl (3, q, t, m, 9) : zK), z_af 201 9, z_af 202 9, z_af 203 9, z_af 205 10, z_af 206 32, z_af 207 32, z_ai 208 10 0 (q - 1), z_ai 210 5 0 (m - 1), z_af 211 80, z_al 209 (z_sp m)]) := z_bench hW ka hm (Or.inl rfl) rfl
    have z1 : z_sz (M ++ ([.inr (3, [.ref a, .ref (M.length + 1), .ref (M.length + 2), .ref (M.length + 3), .int 0, .ref (M.length + 4), .ref (M.length + 5), .ref (M.length + 6), .ref (M.length + 7), .ref (M.length + 10), .ref (M.length + 8), .ref (M.length + 9)]), .inl (0, 9, .inl fun _ => 0), .inl (0, 9, .inl fun _ => 0), .inl (0, 9, .inl fun _ => 0), .inl (0, 10, .inl fun _ => 0), .inl (0, 32, .inl fun _ => 0), .inl (0, 32, .inl fun _ => 0), .inl (0, 10, .inl fun _ => 0), .inl (0, 5, .inl fun _ => 0), .inl (0, 80, .inl fun _ => 0), .inl (1, z_sp m, .inr (.inl fun _ => 0))] : zH)) = z_sz M + (208 + z_sp m) := z_szb M.length rfl
    have kb1 : z_ke T [] M (M ++ ([.inr (3, [.ref a, .ref (M.length + 1), .ref (M.length + 2), .ref (M.length + 3), .int 0, .ref (M.length + 4), .ref (M.length + 5), .ref (M.length + 6), .ref (M.length + 7), .ref (M.length + 10), .ref (M.length + 8), .ref (M.length + 9)]), .inl (0, 9, .inl fun _ => 0), .inl (0, 9, .inl fun _ => 0), .inl (0, 9, .inl fun _ => 0), .inl (0, 10, .inl fun _ => 0), .inl (0, 32, .inl fun _ => 0), .inl (0, 32, .inl fun _ => 0), .inl (0, 10, .inl fun _ => 0), .inl (0, 5, .inl fun _ => 0), .inl (0, 80, .inl fun _ => 0), .inl (1, z_sp m, .inr (.inl fun _ => 0))] : zH)) := z_ke.block hW
    have kB1 : z_ke T [10, 11, 1003] M (M ++ ([.inr (3, [.ref a, .ref (M.length + 1), .ref (M.length + 2), .ref (M.length + 3), .int 0, .ref (M.length + 4), .ref (M.length + 5), .ref (M.length + 6), .ref (M.length + 7), .ref (M.length + 10), .ref (M.length + 8), .ref (M.length + 9)]), .inl (0, 9, .inl fun _ => 0), .inl (0, 9, .inl fun _ => 0), .inl (0, 9, .inl fun _ => 0), .inl (0, 10, .inl fun _ => 0), .inl (0, 32, .inl fun _ => 0), .inl (0, 32, .inl fun _ => 0), .inl (0, 10, .inl fun _ => 0), .inl (0, 5, .inl fun _ => 0), .inl (0, 80, .inl fun _ => 0), .inl (1, z_sp m, .inr (.inl fun _ => 0))] : zH)) := z_ke.block hW
    have eN1 : z_F (M ++ ([.inr (3, [.ref a, .ref (M.length + 1), .ref (M.length + 2), .ref (M.length + 3), .int 0, .ref (M.length + 4), .ref (M.length + 5), .ref (M.length + 6), .ref (M.length + 7), .ref (M.length + 10), .ref (M.length + 8), .ref (M.length + 9)]), .inl (0, 9, .inl fun _ => 0), .inl (0, 9, .inl fun _ => 0), .inl (0, 9, .inl fun _ => 0), .inl (0, 10, .inl fun _ => 0), .inl (0, 32, .inl fun _ => 0), .inl (0, 32, .inl fun _ => 0), .inl (0, 10, .inl fun _ => 0), .inl (0, 5, .inl fun _ => 0), .inl (0, 80, .inl fun _ => 0), .inl (1, z_sp m, .inr (.inl fun _ => 0))] : zH)) M.length 0 = some (.ref a) := by unfold z_F; rw [z_geto]; rfl
    have kN1 : (T ++ [(.inl (3, q, t, m, 9) : zK), z_af 201 9, z_af 202 9, z_af 203 9, z_af 205 10, z_af 206 32, z_af 207 32, z_ai 208 10 0 (q - 1), z_ai 210 5 0 (m - 1), z_af 211 80, z_al 209 (z_sp m)])[M.length]? = some (.inl (3, q, t, m, 9)) := by rw [hW.1, List.getElem?_append_right (Nat.le_refl _), Nat.sub_self]; rfl
    have l1 : (M ++ ([.inr (3, [.ref a, .ref (M.length + 1), .ref (M.length + 2), .ref (M.length + 3), .int 0, .ref (M.length + 4), .ref (M.length + 5), .ref (M.length + 6), .ref (M.length + 7), .ref (M.length + 10), .ref (M.length + 8), .ref (M.length + 9)]), .inl (0, 9, .inl fun _ => 0), .inl (0, 9, .inl fun _ => 0), .inl (0, 9, .inl fun _ => 0), .inl (0, 10, .inl fun _ => 0), .inl (0, 32, .inl fun _ => 0), .inl (0, 32, .inl fun _ => 0), .inl (0, 10, .inl fun _ => 0), .inl (0, 5, .inl fun _ => 0), .inl (0, 80, .inl fun _ => 0), .inl (1, z_sp m, .inr (.inl fun _ => 0))] : zH)).length = M.length + 11 := List.length_append ..
    have p1 : ∀ (a : Nat) (κ : zK), T[a]? = some κ → (T ++ [(.inl (3, q, t, m, 9) : zK), z_af 201 9, z_af 202 9, z_af 203 9, z_af 205 10, z_af 206 32, z_af 207 32, z_ai 208 10 0 (q - 1), z_ai 210 5 0 (m - 1), z_af 211 80, z_al 209 (z_sp m)])[a]? = some κ := z_pfx
    have bk1 : z_blk T M → z_blk (T ++ [(.inl (3, q, t, m, 9) : zK), z_af 201 9, z_af 202 9, z_af 203 9, z_af 205 10, z_af 206 32, z_af 207 32, z_ai 208 10 0 (q - 1), z_ai 210 5 0 (m - 1), z_af 211 80, z_al 209 (z_sp m)]) (M ++ ([.inr (3, [.ref a, .ref (M.length + 1), .ref (M.length + 2), .ref (M.length + 3), .int 0, .ref (M.length + 4), .ref (M.length + 5), .ref (M.length + 6), .ref (M.length + 7), .ref (M.length + 10), .ref (M.length + 8), .ref (M.length + 9)]), .inl (0, 9, .inl fun _ => 0), .inl (0, 9, .inl fun _ => 0), .inl (0, 9, .inl fun _ => 0), .inl (0, 10, .inl fun _ => 0), .inl (0, 32, .inl fun _ => 0), .inl (0, 32, .inl fun _ => 0), .inl (0, 10, .inl fun _ => 0), .inl (0, 5, .inl fun _ => 0), .inl (0, 80, .inl fun _ => 0), .inl (1, z_sp m, .inr (.inl fun _ => 0))] : zH)) := fun h => h.bench hW
    have j4 : z_F (M ++ ([.inr (3, [.ref a, .ref (M.length + 1), .ref (M.length + 2), .ref (M.length + 3), .int 0, .ref (M.length + 4), .ref (M.length + 5), .ref (M.length + 6), .ref (M.length + 7), .ref (M.length + 10), .ref (M.length + 8), .ref (M.length + 9)]), .inl (0, 9, .inl fun _ => 0), .inl (0, 9, .inl fun _ => 0), .inl (0, 9, .inl fun _ => 0), .inl (0, 10, .inl fun _ => 0), .inl (0, 32, .inl fun _ => 0), .inl (0, 32, .inl fun _ => 0), .inl (0, 10, .inl fun _ => 0), .inl (0, 5, .inl fun _ => 0), .inl (0, 80, .inl fun _ => 0), .inl (1, z_sp m, .inr (.inl fun _ => 0))] : zH)) M.length 4 = some (.int 0) := by unfold z_F; rw [z_geto]; rfl
    have j54 : z_Ar (M ++ ([.inr (3, [.ref a, .ref (M.length + 1), .ref (M.length + 2), .ref (M.length + 3), .int 0, .ref (M.length + 4), .ref (M.length + 5), .ref (M.length + 6), .ref (M.length + 7), .ref (M.length + 10), .ref (M.length + 8), .ref (M.length + 9)]), .inl (0, 9, .inl fun _ => 0), .inl (0, 9, .inl fun _ => 0), .inl (0, 9, .inl fun _ => 0), .inl (0, 10, .inl fun _ => 0), .inl (0, 32, .inl fun _ => 0), .inl (0, 32, .inl fun _ => 0), .inl (0, 10, .inl fun _ => 0), .inl (0, 5, .inl fun _ => 0), .inl (0, 80, .inl fun _ => 0), .inl (1, z_sp m, .inr (.inl fun _ => 0))] : zH)) (M.length + 4) = fun _ => 0 := by unfold z_Ar; rw [List.getElem?_append_right (Nat.le_add_right _ _), Nat.add_sub_cancel_left]; rfl
    have j55 : z_Ar (M ++ ([.inr (3, [.ref a, .ref (M.length + 1), .ref (M.length + 2), .ref (M.length + 3), .int 0, .ref (M.length + 4), .ref (M.length + 5), .ref (M.length + 6), .ref (M.length + 7), .ref (M.length + 10), .ref (M.length + 8), .ref (M.length + 9)]), .inl (0, 9, .inl fun _ => 0), .inl (0, 9, .inl fun _ => 0), .inl (0, 9, .inl fun _ => 0), .inl (0, 10, .inl fun _ => 0), .inl (0, 32, .inl fun _ => 0), .inl (0, 32, .inl fun _ => 0), .inl (0, 10, .inl fun _ => 0), .inl (0, 5, .inl fun _ => 0), .inl (0, 80, .inl fun _ => 0), .inl (1, z_sp m, .inr (.inl fun _ => 0))] : zH)) (M.length + 5) = fun _ => 0 := by unfold z_Ar; rw [List.getElem?_append_right (Nat.le_add_right _ _), Nat.add_sub_cancel_left]; rfl
    have j56 : z_Ar (M ++ ([.inr (3, [.ref a, .ref (M.length + 1), .ref (M.length + 2), .ref (M.length + 3), .int 0, .ref (M.length + 4), .ref (M.length + 5), .ref (M.length + 6), .ref (M.length + 7), .ref (M.length + 10), .ref (M.length + 8), .ref (M.length + 9)]), .inl (0, 9, .inl fun _ => 0), .inl (0, 9, .inl fun _ => 0), .inl (0, 9, .inl fun _ => 0), .inl (0, 10, .inl fun _ => 0), .inl (0, 32, .inl fun _ => 0), .inl (0, 32, .inl fun _ => 0), .inl (0, 10, .inl fun _ => 0), .inl (0, 5, .inl fun _ => 0), .inl (0, 80, .inl fun _ => 0), .inl (1, z_sp m, .inr (.inl fun _ => 0))] : zH)) (M.length + 6) = fun _ => 0 := by unfold z_Ar; rw [List.getElem?_append_right (Nat.le_add_right _ _), Nat.add_sub_cancel_left]; rfl
    generalize hM1 : (M ++ ([.inr (3, [.ref a, .ref (M.length + 1), .ref (M.length + 2), .ref (M.length + 3), .int 0, .ref (M.length + 4), .ref (M.length + 5), .ref (M.length + 6), .ref (M.length + 7), .ref (M.length + 10), .ref (M.length + 8), .ref (M.length + 9)]), .inl (0, 9, .inl fun _ => 0), .inl (0, 9, .inl fun _ => 0), .inl (0, 9, .inl fun _ => 0), .inl (0, 10, .inl fun _ => 0), .inl (0, 32, .inl fun _ => 0), .inl (0, 32, .inl fun _ => 0), .inl (0, 10, .inl fun _ => 0), .inl (0, 5, .inl fun _ => 0), .inl (0, 80, .inl fun _ => 0), .inl (1, z_sp m, .inr (.inl fun _ => 0))] : zH)) = M1 at *
    generalize hT1 : (T ++ [(.inl (3, q, t, m, 9) : zK), z_af 201 9, z_af 202 9, z_af 203 9, z_af 205 10, z_af 206 32, z_af 207 32, z_ai 208 10 0 (q - 1), z_ai 210 5 0 (m - 1), z_af 211 80, z_al 209 (z_sp m)]) = T1 at *
    have X1 : z_X T1 [10, 11, 1003] M1 M1 := .refl hW1
    refine z_xasG (q := q) (t := t) (m := m) zt29 15 rfl X1 (p1 _ _ k10) (by decide) (by decide) a0 (by omega) kN1 (by decide) (fun M2 X2 ke2 o10 s2 => ?_)
    have a2 : z_F M2 4 3 = some (.int A) := ke2.f (p1 _ _ k4) (by decide) ((kb1.1 4 0 0 0 0 0 3 k4 (by decide)).trans hA0)
    have ka1 := p1 _ _ ka
    refine z_xP zt29 16 35 [some (.ref 4), some (.ref a)] [.ref 4] rfl rfl ?_
    refine z_xgX (b := 11) zt29 17 rfl zo29 zzf0_22 X2 (p1 _ _ k4) (by decide) (by decide) rfl ?_
    refine z_xP zt29 18 39 [some (.ref 4), some (.ref a)] [.ref 4, .ref 11] rfl rfl ?_
    refine z_xgv zt29 19 rfl zo29 zzf0_59 X2 (p1 _ _ k4) (by decide) a2 ?_
    refine z_nwo X2.1 ka1 hm (fun fs2 sx2 g1b gab gNb gsb gnb gkb => ?_)
    refine z_enew (N := M2.length) (fs := [.null, .null, .null, .null, .int 0, .null, .null, .null, .null, .null, .null, .null]) (z_dc1 zt29 (n := 20) rfl) (by rw [zo29]; exact zzw0_16) rfl rfl ?_
    refine z_xP zt29 21 47 [some (.ref 4), some (.ref a)] [.ref a, .ref M2.length, .ref M2.length, .int A, .ref 11] rfl rfl ?_
    refine z_ecI (vs := [.ref M2.length, .ref a]) (r := [.ref M2.length, .int A, .ref 11]) (L2 := [some (.ref M2.length), some (.ref a)]) (z_dc1 zt29 (n := 22) rfl) (by rw [zo29]; exact zzcI0_82) (by decide) rfl z_geto gNb rfl rfl (Nat.le_of_ble_eq_true rfl) zzm33 (Nat.le_of_ble_eq_true rfl) rfl ?_
    refine zA33 gNb g1b gab gsb gnb gkb ?_
    show z_ev (d + 3) 29 50 [some (.ref 4), some (.ref a)] [.ref M2.length, .int A, .ref 11] _ _
    have hW3 : z_W (M2 ++ ([.inr (3, [.ref a, .ref (M2.length + 1), .ref (M2.length + 2), .ref (M2.length + 3), .int 0, .ref (M2.length + 4), .ref (M2.length + 5), .ref (M2.length + 6), .ref (M2.length + 7), .ref (M2.length + 10), .ref (M2.length + 8), .ref (M2.length + 9)]), .inl (0, 9, .inl fun _ => 0), .inl (0, 9, .inl fun _ => 0), .inl (0, 9, .inl fun _ => 0), .inl (0, 10, .inl fun _ => 0), .inl (0, 32, .inl fun _ => 0), .inl (0, 32, .inl fun _ => 0), .inl (0, 10, .inl fun _ => 0), .inl (0, 5, .inl fun _ => 0), .inl (0, 80, .inl fun _ => 0), .inl (1, z_sp m, .inr (.inl fun _ => 0))] : zH)) (T1 ++ [(.inl (3, q, t, m, 5) : zK), z_af 201 9, z_af 202 9, z_af 203 9, z_af 205 10, z_af 206 32, z_af 207 32, z_ai 208 10 0 (q - 1), z_ai 210 5 0 (m - 1), z_af 211 80, z_al 209 (z_sp m)]) := z_bench X2.1 ka1 hm (Or.inr rfl) rfl
    have z3 : z_sz (M2 ++ ([.inr (3, [.ref a, .ref (M2.length + 1), .ref (M2.length + 2), .ref (M2.length + 3), .int 0, .ref (M2.length + 4), .ref (M2.length + 5), .ref (M2.length + 6), .ref (M2.length + 7), .ref (M2.length + 10), .ref (M2.length + 8), .ref (M2.length + 9)]), .inl (0, 9, .inl fun _ => 0), .inl (0, 9, .inl fun _ => 0), .inl (0, 9, .inl fun _ => 0), .inl (0, 10, .inl fun _ => 0), .inl (0, 32, .inl fun _ => 0), .inl (0, 32, .inl fun _ => 0), .inl (0, 10, .inl fun _ => 0), .inl (0, 5, .inl fun _ => 0), .inl (0, 80, .inl fun _ => 0), .inl (1, z_sp m, .inr (.inl fun _ => 0))] : zH)) = z_sz M2 + (208 + z_sp m) := z_szb M2.length rfl
    have kb3 : z_ke T1 [] M2 (M2 ++ ([.inr (3, [.ref a, .ref (M2.length + 1), .ref (M2.length + 2), .ref (M2.length + 3), .int 0, .ref (M2.length + 4), .ref (M2.length + 5), .ref (M2.length + 6), .ref (M2.length + 7), .ref (M2.length + 10), .ref (M2.length + 8), .ref (M2.length + 9)]), .inl (0, 9, .inl fun _ => 0), .inl (0, 9, .inl fun _ => 0), .inl (0, 9, .inl fun _ => 0), .inl (0, 10, .inl fun _ => 0), .inl (0, 32, .inl fun _ => 0), .inl (0, 32, .inl fun _ => 0), .inl (0, 10, .inl fun _ => 0), .inl (0, 5, .inl fun _ => 0), .inl (0, 80, .inl fun _ => 0), .inl (1, z_sp m, .inr (.inl fun _ => 0))] : zH)) := z_ke.block X2.1
    have kB3 : z_ke T1 [10, 11, 1003] M2 (M2 ++ ([.inr (3, [.ref a, .ref (M2.length + 1), .ref (M2.length + 2), .ref (M2.length + 3), .int 0, .ref (M2.length + 4), .ref (M2.length + 5), .ref (M2.length + 6), .ref (M2.length + 7), .ref (M2.length + 10), .ref (M2.length + 8), .ref (M2.length + 9)]), .inl (0, 9, .inl fun _ => 0), .inl (0, 9, .inl fun _ => 0), .inl (0, 9, .inl fun _ => 0), .inl (0, 10, .inl fun _ => 0), .inl (0, 32, .inl fun _ => 0), .inl (0, 32, .inl fun _ => 0), .inl (0, 10, .inl fun _ => 0), .inl (0, 5, .inl fun _ => 0), .inl (0, 80, .inl fun _ => 0), .inl (1, z_sp m, .inr (.inl fun _ => 0))] : zH)) := z_ke.block X2.1
    have eN3 : z_F (M2 ++ ([.inr (3, [.ref a, .ref (M2.length + 1), .ref (M2.length + 2), .ref (M2.length + 3), .int 0, .ref (M2.length + 4), .ref (M2.length + 5), .ref (M2.length + 6), .ref (M2.length + 7), .ref (M2.length + 10), .ref (M2.length + 8), .ref (M2.length + 9)]), .inl (0, 9, .inl fun _ => 0), .inl (0, 9, .inl fun _ => 0), .inl (0, 9, .inl fun _ => 0), .inl (0, 10, .inl fun _ => 0), .inl (0, 32, .inl fun _ => 0), .inl (0, 32, .inl fun _ => 0), .inl (0, 10, .inl fun _ => 0), .inl (0, 5, .inl fun _ => 0), .inl (0, 80, .inl fun _ => 0), .inl (1, z_sp m, .inr (.inl fun _ => 0))] : zH)) M2.length 0 = some (.ref a) := by unfold z_F; rw [z_geto]; rfl
    have kN3 : (T1 ++ [(.inl (3, q, t, m, 5) : zK), z_af 201 9, z_af 202 9, z_af 203 9, z_af 205 10, z_af 206 32, z_af 207 32, z_ai 208 10 0 (q - 1), z_ai 210 5 0 (m - 1), z_af 211 80, z_al 209 (z_sp m)])[M2.length]? = some (.inl (3, q, t, m, 5)) := by rw [X2.1.1, List.getElem?_append_right (Nat.le_refl _), Nat.sub_self]; rfl
    have l3 : (M2 ++ ([.inr (3, [.ref a, .ref (M2.length + 1), .ref (M2.length + 2), .ref (M2.length + 3), .int 0, .ref (M2.length + 4), .ref (M2.length + 5), .ref (M2.length + 6), .ref (M2.length + 7), .ref (M2.length + 10), .ref (M2.length + 8), .ref (M2.length + 9)]), .inl (0, 9, .inl fun _ => 0), .inl (0, 9, .inl fun _ => 0), .inl (0, 9, .inl fun _ => 0), .inl (0, 10, .inl fun _ => 0), .inl (0, 32, .inl fun _ => 0), .inl (0, 32, .inl fun _ => 0), .inl (0, 10, .inl fun _ => 0), .inl (0, 5, .inl fun _ => 0), .inl (0, 80, .inl fun _ => 0), .inl (1, z_sp m, .inr (.inl fun _ => 0))] : zH)).length = M2.length + 11 := List.length_append ..
    have p3 : ∀ (a : Nat) (κ : zK), T1[a]? = some κ → (T1 ++ [(.inl (3, q, t, m, 5) : zK), z_af 201 9, z_af 202 9, z_af 203 9, z_af 205 10, z_af 206 32, z_af 207 32, z_ai 208 10 0 (q - 1), z_ai 210 5 0 (m - 1), z_af 211 80, z_al 209 (z_sp m)])[a]? = some κ := z_pfx
    have i10 : z_O (M2 ++ ([.inr (3, [.ref a, .ref (M2.length + 1), .ref (M2.length + 2), .ref (M2.length + 3), .int 0, .ref (M2.length + 4), .ref (M2.length + 5), .ref (M2.length + 6), .ref (M2.length + 7), .ref (M2.length + 10), .ref (M2.length + 8), .ref (M2.length + 9)]), .inl (0, 9, .inl fun _ => 0), .inl (0, 9, .inl fun _ => 0), .inl (0, 9, .inl fun _ => 0), .inl (0, 10, .inl fun _ => 0), .inl (0, 32, .inl fun _ => 0), .inl (0, 32, .inl fun _ => 0), .inl (0, 10, .inl fun _ => 0), .inl (0, 5, .inl fun _ => 0), .inl (0, 80, .inl fun _ => 0), .inl (1, z_sp m, .inr (.inl fun _ => 0))] : zH)) 10 = z_O M2 10 := z_kbo X2.1 (p1 _ _ k10)
    have i11 : z_O (M2 ++ ([.inr (3, [.ref a, .ref (M2.length + 1), .ref (M2.length + 2), .ref (M2.length + 3), .int 0, .ref (M2.length + 4), .ref (M2.length + 5), .ref (M2.length + 6), .ref (M2.length + 7), .ref (M2.length + 10), .ref (M2.length + 8), .ref (M2.length + 9)]), .inl (0, 9, .inl fun _ => 0), .inl (0, 9, .inl fun _ => 0), .inl (0, 9, .inl fun _ => 0), .inl (0, 10, .inl fun _ => 0), .inl (0, 32, .inl fun _ => 0), .inl (0, 32, .inl fun _ => 0), .inl (0, 10, .inl fun _ => 0), .inl (0, 5, .inl fun _ => 0), .inl (0, 80, .inl fun _ => 0), .inl (1, z_sp m, .inr (.inl fun _ => 0))] : zH)) 11 = z_O M2 11 := z_kbo X2.1 (p1 _ _ k11)
    have bk3 : z_blk T1 M2 → z_blk (T1 ++ [(.inl (3, q, t, m, 5) : zK), z_af 201 9, z_af 202 9, z_af 203 9, z_af 205 10, z_af 206 32, z_af 207 32, z_ai 208 10 0 (q - 1), z_ai 210 5 0 (m - 1), z_af 211 80, z_al 209 (z_sp m)]) (M2 ++ ([.inr (3, [.ref a, .ref (M2.length + 1), .ref (M2.length + 2), .ref (M2.length + 3), .int 0, .ref (M2.length + 4), .ref (M2.length + 5), .ref (M2.length + 6), .ref (M2.length + 7), .ref (M2.length + 10), .ref (M2.length + 8), .ref (M2.length + 9)]), .inl (0, 9, .inl fun _ => 0), .inl (0, 9, .inl fun _ => 0), .inl (0, 9, .inl fun _ => 0), .inl (0, 10, .inl fun _ => 0), .inl (0, 32, .inl fun _ => 0), .inl (0, 32, .inl fun _ => 0), .inl (0, 10, .inl fun _ => 0), .inl (0, 5, .inl fun _ => 0), .inl (0, 80, .inl fun _ => 0), .inl (1, z_sp m, .inr (.inl fun _ => 0))] : zH)) := fun h => h.bench X2.1
    generalize hM3 : (M2 ++ ([.inr (3, [.ref a, .ref (M2.length + 1), .ref (M2.length + 2), .ref (M2.length + 3), .int 0, .ref (M2.length + 4), .ref (M2.length + 5), .ref (M2.length + 6), .ref (M2.length + 7), .ref (M2.length + 10), .ref (M2.length + 8), .ref (M2.length + 9)]), .inl (0, 9, .inl fun _ => 0), .inl (0, 9, .inl fun _ => 0), .inl (0, 9, .inl fun _ => 0), .inl (0, 10, .inl fun _ => 0), .inl (0, 32, .inl fun _ => 0), .inl (0, 32, .inl fun _ => 0), .inl (0, 10, .inl fun _ => 0), .inl (0, 5, .inl fun _ => 0), .inl (0, 80, .inl fun _ => 0), .inl (1, z_sp m, .inr (.inl fun _ => 0))] : zH)) = M3 at *
    generalize hT3 : (T1 ++ [(.inl (3, q, t, m, 5) : zK), z_af 201 9, z_af 202 9, z_af 203 9, z_af 205 10, z_af 206 32, z_af 207 32, z_ai 208 10 0 (q - 1), z_ai 210 5 0 (m - 1), z_af 211 80, z_al 209 (z_sp m)]) = T3 at *
    have X3 : z_X T3 [10, 11, 1003] M3 M3 := .refl hW3
    have k4c := p3 _ _ (p1 _ _ k4)
    refine z_ev.mono (z_ev.grow (K := fun v M5 => ∃ y u : Int32, v = some (.int y) ∧ z_F M5 4 3 = some (.int u) ∧ u.toInt = A.toInt + 1 ∧ z_X T3 [11, 1003] M3 M5 ∧ z_O M5 11 = z_updR (z_O M3 11) A.toNatClampNeg (some M2.length)) ?_) (fun v M5 ⟨⟨y, u, hv, hu, hu1, X5, o11⟩, hg, _⟩ => ?_)
    · have X3 : z_X T3 [11, 1003] M3 M3 := .refl hW3
      refine z_xasG (q := q) (t := t) (m := m) zt29 23 rfl X3 (p3 _ _ (p1 _ _ k11)) (by decide) (by decide) a0 (by omega) kN3 (by decide) (fun M4 X4 ke4 o11 _ => ?_)
      have a4 : z_F M4 4 3 = some (.int A) := ke4.f k4c (by decide) ((kb3.1 4 0 0 0 0 0 3 (p1 _ _ k4) (by decide)).trans a2)
      refine z_xP zt29 24 53 [some (.ref 4), some (.ref a)] [.ref 4, .ref 4] rfl rfl ?_
      refine z_xgv zt29 25 rfl zo29 zzf0_59 X4 k4c (by decide) a4 ?_
      refine z_xP zt29 26 57 [some (.ref 4), some (.ref a)] [.int 1, .int A, .ref 4] rfl rfl ?_
      refine z_xI zt29 27 rfl rfl (fun (u : Int32) (hu : u.toInt = A.toInt + 1) => ?_) (z_pAdd rfl rfl (by omega) (by omega))
      refine z_xpf zt29 28 rfl zo29 zzf0_59 X4 k4c (by decide) (by decide) (show 0 ≤ u.toInt ∧ u.toInt ≤ 8 from ⟨by omega, by omega⟩) rfl (by decide) zw0_3 (fun M5 X5 ke5 h5 => ?_)
      refine z_xP zt29 29 62 [some (.ref 4), some (.ref a)] [.ref 4] rfl rfl ?_
      refine z_xgv zt29 30 rfl zo29 zzf0_59 X5 k4c (by decide) h5 ?_
      refine z_xP zt29 31 66 [some (.ref 4), some (.ref a)] [.int 1, .int u] rfl rfl ?_
      refine z_xI zt29 32 rfl rfl (fun (y : Int32) (hy : y.toInt = u.toInt - 1) => ?_) (z_pSub rfl rfl (by omega) (by omega))
      exact z_xri zt29 33 rfl zzr29 ⟨y, u, rfl, h5, hu, X5, (ke5.o (p3 _ _ (p1 _ _ k11)) (by decide)).trans o11⟩
    · subst hv
      have kM2 : z_ke T [10, 11, 1003] M M2 := kB1.trans (ke2.sub p1) (z_sb (by decide))
      have kM3 : z_ke T [10, 11, 1003] M M3 := kM2.trans (kB3.sub p1) (z_sb (by decide))
      have kM5 : z_ke T [10, 11, 1003] M M5 := kM3.trans ((X5.2.sub p3).sub p1) (z_sb (by decide))
      have s3 : z_sz M5 = z_sz M3 := z_szg hg (X5.1.1.trans hW3.1.symm)
      have n2 : M2.length = M1.length := X2.1.1.trans hW1.1.symm
      have n5 : M5.length = M3.length := X5.1.1.trans hW3.1.symm
      refine kk y T3 M5 (z_seat (N1 := M.length) (N3 := M2.length) (a := a) hA X5.1 kM5 hA0 hu hu1 a0 ?_ ?_ ?_ ?_) (fun _ _ h => p3 _ _ (p1 _ _ h)) ((z_ke.refl (rs := ([10, 11, 1003] ++ zw30))).trans kM5 (z_sb (by decide))) (z_potF (kM5.1 4 0 0 0 0 0 12 k4 (by decide))) (Or.inr ⟨by omega, by omega⟩) (Or.inr ⟨by omega, u, hu, hu1⟩) (Or.inr ⟨M.length, ?_, p3 _ _ kN1, ?_⟩) ⟨fun h => (bk3 ((bk1 h).ke ke2 rfl)).ke X5.2 rfl, Or.inr ⟨A, M.length, q, t, m, hA0, ?_, p3 _ _ kN1, by rw [hW.1]; exact Nat.le_refl _, ?_, by rw [z_Fv.of hu]; exact hu1⟩, fun h b q2 t2 m2 hb => ?_⟩
      · rw [X5.2.o (p3 _ _ (p1 _ _ k10)) (by decide), i10, o10, ← hM1, z_kbo hW k10]
      · rw [o11, i11, ke2.o (p1 _ _ k11) (by decide), ← hM1, z_kbo hW k11]
      · rw [X5.2.1 M.length 3 q t m 9 0 (p3 _ _ kN1) (by decide), kb3.1 M.length 3 q t m 9 0 kN1 (by decide), ke2.1 M.length 3 q t m 9 0 kN1 (by decide)]
        exact eN1
      · rw [X5.2.1 M2.length 3 q t m 5 0 kN3 (by decide)]
        exact eN3
      · rw [X5.2.o (p3 _ _ (p1 _ _ k10)) (by decide), i10, o10, ← hM1, z_kbo hW k10]
      · rw [X5.2.1 M.length 3 q t m 9 0 (p3 _ _ kN1) (by decide), kb3.1 M.length 3 q t m 9 0 kN1 (by decide), ke2.1 M.length 3 q t m 9 0 kN1 (by decide)]
        exact eN1
      · rw [X5.2.o (p3 _ _ (p1 _ _ k10)) (by decide), i10, o10, ← hM1, z_kbo hW k10]
      · rw [X5.2.1 M.length 3 q t m 9 4 (p3 _ _ kN1) (by decide), kb3.1 M.length 3 q t m 9 4 kN1 (by decide), ke2.1 M.length 3 q t m 9 4 kN1 (by decide)]
        exact j4
      · have hb1 : T1[b]? = some (.inl (3, q2, t2, m2, 9)) := by
          rw [← hT3] at hb
          rcases z_tnew hb rfl with h2 | ⟨_, h2⟩
          · exact h2
          · have h5 : (5 : Nat) = 9 := congrArg (fun p : Nat × Nat × Nat × Nat × Nat => p.2.2.2.2) (Sum.inl.inj h2)
            omega
        rw [← hT1] at hb1
        rcases z_tnew hb1 rfl with h2 | ⟨h2, _⟩
        · exact Or.inl h2
        · have hbM : b = M.length := h2.trans hW.1.symm
          have hk1 := bk1 h
          have q4 := hk1.k4 hW1 kN1
          have q5 := hk1.k5 hW1 kN1
          have q6 := hk1.k6 hW1 kN1
          rw [hbM]
          refine Or.inr ⟨?_, fun k _ => ?_, ?_, ?_⟩
          · rw [X5.2.1 M.length 3 q t m 9 4 (p3 _ _ kN1) (by decide), kb3.1 M.length 3 q t m 9 4 kN1 (by decide), ke2.1 M.length 3 q t m 9 4 kN1 (by decide)]
            exact j4
          · rw [X5.2.a (p3 _ _ q4) (by decide), kb3.a q4 (by decide), ke2.a q4 (by decide), j54]
          · rw [X5.2.a (p3 _ _ q5) (by decide), kb3.a q5 (by decide), ke2.a q5 (by decide), j55]
          · rw [X5.2.a (p3 _ _ q6) (by decide), kb3.a q6 (by decide), ke2.a q6 (by decide), j56]
theorem zH5t {T : List zK} {d : Nat} {K : Option Value → zH → Prop} {x y : Int32} {M : zH} (hA : z_GG T M ∧ z_GL M ∧ z_G4 M ∧ z_F M 4 5 = z_F M 19 21) (kk : ∀ M1 : zH, z_GG T M1 ∧ z_GL M1 ∧ z_G4 M1 ∧ z_F M1 4 5 = z_F M1 19 21 → z_ke T [1101] M M1 → z_pot M1 = z_pot M → M1.length = M.length → z_sz M1 = z_sz M → z_F M1 5 1 = some (.int 0) → K (some (.int y)) M1) : z_ev d 5 42 [some (.ref 4), some (.int x), none] [.int y] M K := by
  have hW := hA.1.1
  have k4 : T[4]? = some (.inl (0, 0, 0, 0, 0)) := hW.k rfl (by decide)
  have k5 : T[5]? = some (.inl (1, 0, 0, 0, 0)) := hW.k rfl (by decide)
  have X : z_X T [1101] M M := .refl hW
  refine z_xP zt5 18 44 [some (.ref 4), some (.int x), some (.int y)] [.ref 4] rfl rfl ?_
  refine z_xgX (b := 5) zt5 19 rfl zo5 zzf0_10 X k4 (by decide) (by decide) rfl ?_
  refine z_xP zt5 20 48 [some (.ref 4), some (.int x), some (.int y)] [.int 0, .ref 5] rfl rfl ?_
  have q0 : ((0 : Int32)).toInt = 0 := rfl
  refine z_xpf zt5 21 rfl zo5 zzf0_55 X k5 (by decide) (by decide) ⟨by omega, by omega⟩ rfl (by decide) zw1_1 (fun M1 X1 e1 h1 => ?_)
  refine z_xP zt5 22 52 [some (.ref 4), some (.int x), some (.int y)] [.int y] rfl rfl ?_
  exact z_xri zt5 23 rfl zzr5 (kk M1 (z_kee hA X1 (by decide)) X1.2 (z_kep X1 (by decide)) (X1.1.1.trans hW.1.symm) (z_szX hW X1 (by decide)) h1)
def zwB : List Nat := zw6 ++ [9, 1102, 1103, 1110] ++ ([10, 11, 1003] ++ zw30) ++ [1101]
theorem zH5 {T : List zK} {K : Option Value → zH → Prop} {M : zH} (hA : z_GG T M ∧ z_GL M ∧ z_G4 M ∧ z_F M 4 5 = z_F M 19 21) {bb : Nat → Int} {nn : Nat} (hTB : z_TB M bb nn) (kk : ∀ (y : Int32) (T1 : List zK) (M1 : zH), z_GG T1 M1 ∧ z_GL M1 ∧ z_G4 M1 ∧ z_F M1 4 5 = z_F M1 19 21 → (∀ (a : Nat) (κ : zK), T[a]? = some κ → T1[a]? = some κ) → z_ke T zwB M M1 → z_pot M1 = z_pot M → (M1.length = M.length ∨ (M1.length ≤ M.length + 29 ∧ z_sz M1 ≤ z_sz M + 1818)) → z_AGC bb nn M M1 → z_AGN T1 M M1 bb nn → z_N7 T T1 M M1 → K (some (.int y)) M1) : z_ev 2046 5 0 [some (.ref 4), none, none] [] M K := by
  have hW := hA.1.1
  have k4 : T[4]? = some (.inl (0, 0, 0, 0, 0)) := hW.k rfl (by decide)
  have k5 : T[5]? = some (.inl (1, 0, 0, 0, 0)) := hW.k rfl (by decide)
  have k10 : T[10]? = some (.inr (10, 2, 8, 9, 0)) := hW.k rfl (by decide)
  have X : z_X T [] M M := .refl hW
  refine z_xP zt5 0 1 [some (.ref 4), none, none] [.ref 4] rfl rfl ?_
  refine z_xgI zt5 1 rfl zo5 zzf0_59 X k4 (by decide) (by decide) rfl (fun (A : Int32) hA0 (a0 : 0 ≤ A.toInt) (a8 : A.toInt ≤ 8) => ?_)
  refine z_xP zt5 2 6 [some (.ref 4), none, none] [.int 8, .int A] rfl rfl ?_
  have q8 : (8 : Int32).toInt = 8 := rfl
  refine z_xJ zt5 3 rfl rfl (fun (h1 : A.toInt < (8 : Int32).toInt) => ?_) (fun (h1 : (8 : Int32).toInt ≤ A.toInt) => ?_)
  rotate_left
  · refine z_xP zt5 4 11 [some (.ref 4), none, none] [.int (-3)] rfl rfl ?_
    exact z_xri zt5 5 rfl zzr5 (kk (-3) T M hA (fun _ _ h => h) .refl rfl (Or.inl rfl) (Or.inl ⟨by rw [z_Fv.of hA0]; omega, rfl⟩) (z_AGNs rfl rfl) ⟨fun h => h, Or.inl ⟨rfl, rfl⟩, fun _ => z_N8.same⟩)
  refine z_xP zt5 6 13 [some (.ref 4), none, none] [.ref 4] rfl rfl ?_
  refine z_xgX (b := 5) zt5 7 rfl zo5 zzf0_10 X k4 (by decide) (by decide) rfl ?_
  refine z_xcV (vs := [.ref 5]) (r := []) (L2 := [some (.ref 5), none]) zt5 8 rfl zo5 zzcV0_62 (Or.inl rfl) rfl X k5 rfl rfl rfl (Nat.le_of_ble_eq_true rfl) zzm6 (Nat.le_of_ble_eq_true rfl) rfl ?_
  refine zTC6 (d := 2012) hW hTB (fun x M1 X1 hFF => ?_)
  show z_ev 2046 5 19 [some (.ref 4), none, none] [.int x] M1 _
  have s1 : z_sz M1 = z_sz M := z_szX hW X1 (by decide)
  have l1 : M1.length = M.length := X1.1.1.trans hW.1.symm
  have hB := z_kee hA X1 (by decide)
  have hp1 := z_kep X1 (by decide)
  refine z_xP zt5 9 21 [some (.ref 4), some (.int x), none] [.int x] rfl rfl ?_
  refine z_xZ zt5 10 rfl rfl (fun (h2 : x.toInt < 0) => ?_) (fun (h2 : 0 ≤ x.toInt) => ?_)
  rotate_left
  · refine z_xP zt5 11 27 [some (.ref 4), some (.int x), none] [.int x, .int (-100)] rfl rfl ?_
    refine z_xI zt5 12 rfl rfl (P := fun _ => True) (fun y _ => ?_) trivial
    refine z_xP zt5 13 42 [some (.ref 4), some (.int x), none] [.int y] rfl rfl ?_
    exact zH5t hB (fun M2 hC u2 hp2 l2 s2 h51 => kk y T M2 hC (fun _ _ h => h) (((z_ke.refl (rs := zwB)).trans X1.2 (z_sb (by decide))).trans u2 (z_sb (by decide))) (hp2.trans hp1) (Or.inl (l2.trans l1)) (z_AGCn hA0 (by omega) h51 (u2.f k4 (by decide) (X1.2.f k4 (by decide) hA0)) (hFF.1 h2)) (z_AGNs ((u2.f k4 (by decide) (X1.2.f k4 (by decide) hA0)).trans hA0.symm) ((u2.o k10 (by decide)).trans (X1.2.o k10 (by decide)))) ⟨fun h => (h.ke X1.2 rfl).ke u2 rfl, Or.inl ⟨(u2.o k10 (by decide)).trans (X1.2.o k10 (by decide)), (u2.1 4 0 0 0 0 0 3 k4 (by decide)).trans (X1.2.1 4 0 0 0 0 0 3 k4 (by decide))⟩, fun _ => z_N8.same⟩)
  refine z_xP zt5 14 33 [some (.ref 4), some (.int x), none] [.ref 4, .ref 4] rfl rfl ?_
  have XB : z_X T [] M1 M1 := .refl X1.1
  refine z_xgX (b := 5) zt5 15 rfl zo5 zzf0_10 XB k4 (by decide) (by decide) rfl ?_
  refine z_xcV (vs := [.ref 5]) (r := [.ref 4]) (L2 := [some (.ref 5), none, none, none, none, none, none]) zt5 16 rfl zo5 zzcV0_66 (Or.inl rfl) rfl XB k5 rfl rfl rfl (Nat.le_of_ble_eq_true rfl) zzm22 (Nat.le_of_ble_eq_true rfl) rfl ?_
  obtain ⟨kq, nu, pr, en, t, ts, hTP, hsg, hk4, hk0, hok, hwh⟩ := hFF.2 h2
  obtain ⟨w0, hw0, w00, w010⟩ := X1.1.fi k5 (k := 4) (lo := 0) (hi := 10) (by decide) rfl
  obtain ⟨tv, h7, t0, t8⟩ := X1.1.fi k5 (k := 7) (lo := 0) (hi := 8) (by decide) rfl
  rw [z_Fv.of hw0] at hk4
  have ht : tv.toInt = (t : Int) := by have e := hsg.2.2.1; rw [z_Fv.of h7] at e; exact e
  refine z_ev.nob (by decide) ?_
  refine zH22a (d := 2013) X1.1 hw0 hk4 (by omega) (by omega) h7 ht hsg.1 hsg.2.1 (z_wh_ok hwh).1 ⟨hTP, hok, hsg.2.2.2.2.2⟩ (fun N m T3 M3 hW3 kN p3 ke l3 s3 hlaw hct => ?_)
  intro hnob
  show z_ev 2046 5 39 [some (.ref 4), some (.int x), none] [.ref N, .ref 4] M3 _
  have hC := z_kew hB hW3 ke (by decide)
  have hA3 : z_F M3 4 3 = some (.int A) := ke.f k4 (by decide) (X1.2.f k4 (by decide) hA0)
  have hp3 : z_pot M3 = z_pot M1 := z_potF (ke.1 4 0 0 0 0 0 12 k4 (by decide))
  have X3 : z_X T3 [] M3 M3 := .refl hW3
  refine z_xcV (vs := [.ref 4, .ref N]) (r := []) (L2 := [some (.ref 4), some (.ref N)]) zt5 17 rfl zo5 zzcV0_70 (Or.inl rfl) rfl X3 (p3 _ _ k4) rfl rfl rfl (Nat.le_of_ble_eq_true rfl) zzm29 (Nat.le_of_ble_eq_true rfl) rfl ?_
  refine z_ev.mono (z_ev.grow (K := fun v M4 => ∃ (y : Int32) (T4 : List zK), v = some (.int y) ∧ (z_GG T4 M4 ∧ z_GL M4 ∧ z_G4 M4 ∧ z_F M4 4 5 = z_F M4 19 21) ∧ (∀ (a : Nat) (κ : zK), T3[a]? = some κ → T4[a]? = some κ) ∧ z_ke T3 ([10, 11, 1003] ++ zw30) M3 M4 ∧ z_pot M4 = z_pot M3 ∧ (M4.length = M3.length ∨ (M4.length ≤ M3.length + 22 ∧ z_sz M4 ≤ z_sz M3 + 448)) ∧ z_grw m A M4 ∧ z_fnd T4 M3 M4 A N kq t m ∧ z_N7 T3 T4 M3 M4) (zH29 (d := 2042) hC kN hA3 a0 (by omega) (fun y T4 M4 a p k b c e f n7 => ⟨y, T4, rfl, a, p, k, b, c, e, f, n7⟩))) (fun v M4 ⟨⟨y, T4, hv, hD, p4, ke4, hp4, hs4, hm4, hfd, n7⟩, hg, _⟩ => ?_)
  subst hv
  show z_ev 2046 5 42 [some (.ref 4), some (.int x), none] [.int y] M4 _
  refine zH5t hD (fun M5 hE u5 hp5 l5 s5 h51 => kk y T4 M5 hE (fun a κ h => p4 a κ (p3 a κ h)) (((((z_ke.refl (rs := zwB)).trans X1.2 (z_sb (by decide))).trans ke (z_sb (by decide))).trans (ke4.sub p3) (z_sb (by decide))).trans ((u5.sub p4).sub p3) (z_sb (by decide))) (by rw [hp5, hp4, hp3, hp1]) (Or.inr ?_) (z_AGCm hA0 (by omega) h51 (hm4.ke (u5.1 4 0 0 0 0 0 3 (p4 _ _ (p3 _ _ k4)) (by decide))) hlaw hwh) (z_AGNm hA0 a0 ((ke.o k10 (by decide)).trans (X1.2.o k10 (by decide))) hfd (u5.o (p4 _ _ (p3 _ _ k10)) (by decide)) u5 ((hct.ke p4 ke4 rfl).ke (fun _ _ h => h) u5 rfl) (hm4.ke (u5.1 4 0 0 0 0 0 3 (p4 _ _ (p3 _ _ k4)) (by decide))) hwh) (n7.up (fun h => (h.ke X1.2 rfl).sub (z_hnb X1.1.1 hW3 p3 hnob) ke rfl) (fun h => h.ke u5 rfl) ((ke.o k10 (by decide)).trans (X1.2.o k10 (by decide))) ((ke.1 4 0 0 0 0 0 3 k4 (by decide)).trans (X1.2.1 4 0 0 0 0 0 3 k4 (by decide))) (u5.o (p4 _ _ (p3 _ _ k10)) (by decide)) (u5.1 4 0 0 0 0 0 3 (p4 _ _ (p3 _ _ k4)) (by decide)) (z_plen p3) (z_hnb X1.1.1 hW3 p3 hnob) hD.1.1 u5 rfl (fun b q t m J hb => u5.1 b 3 q t m J 4 hb (by decide))))
  rcases hs4 with h | ⟨h, h2⟩
  · have s4 : z_sz M4 = z_sz M3 := z_szg hg h
    exact ⟨by omega, by omega⟩
  · exact ⟨by omega, by omega⟩
