/-! the typed heap: each cell's kind is told aside (T); what may be in a cell of a kind -/
abbrev zK : Type := (Nat × Nat × Nat × Nat × Nat) ⊕ (Nat × Nat × Nat × Int × Int)
abbrev zFS : Type := (Int × Int) ⊕ (Nat ⊕ Option (Bool × zK))
def z_bl (q : Nat) : Nat := if q ≤ 6 then 1 else 2 ^ (q - 6)
def z_sp (m : Nat) : Nat := (m + 63) / 64
def z_po (q : Nat) : Nat := 2 ^ q
def z_fu : zFS := .inl (-2147483648, 2147483647)
/-- an exact reference, an int between two, a long, an array of ints -/
def z_fx (a : Nat) : zFS := .inr (.inl a)
def z_fi (lo hi : Int) : zFS := .inl (lo, hi)
def z_fl8 : zFS := .inr (.inr none)
def z_ai (r n : Nat) (lo hi : Int) : zK := .inr (r, 0, n, lo, hi)
def z_af (r n : Nat) : zK := .inr (r, 0, n, -2147483648, 2147483647)
def z_al (r n : Nat) : zK := .inr (r, 1, n, 0, 0)
def z_fk (κ : zK) : zFS := .inr (.inr (some (false, κ)))
def z_fs0 (k : Nat) : zFS := match k with
  | 0 => z_fx 5 | 1 => z_fx 10 | 2 => z_fx 11 | 3 => z_fi 0 8 | 4 => z_fx 12 | 5 => z_fi 0 20 | 6 => z_fx 13 | 7 => z_fx 14 | 8 => z_fx 15 | 9 => z_fx 16 | 10 => z_fx 17 | 11 => z_fx 18
  | _ => .inr (.inr (some (true, z_af 300 16380)))
def z_fs1 (k : Nat) : zFS := match k with
  | 0 => z_fx 6 | 1 => z_fi 0 160 | 2 => z_fi 0 160 | 4 => z_fi 0 10 | 7 => z_fi 0 8 | 8 => z_fx 7 | 9 => z_fx 8 | 11 => z_fx 9 | _ => z_fu
def z_fs2 (q t m J k : Nat) : zFS := if J = 1 ∧ (k = 5 ∨ k = 10 ∨ k = 11) then (match k with | 5 => .inr (.inr (some (true, z_ai 102 m 0 1023))) | 10 => z_fu | _ => .inr (.inr (some (true, z_al 111 (q * z_sp m))))) else match k with
  | 0 => z_fi q q | 1 => z_fi (z_po q - 1) (z_po q - 1) | 4 => z_fi t t | 5 => z_fk (z_ai 102 m 0 1023) | 6 => z_fi (z_bl q) (z_bl q) | 7 => z_fl8
  | 8 => z_fk (z_al 108 (t * z_bl q)) | 9 => z_fk (z_al 109 (z_bl q)) | 10 => z_fi (z_sp m) (z_sp m) | 11 => z_fk (z_al 111 (q * z_sp m)) | 12 => z_fk (z_al 112 (z_bl q)) | 13 => z_fk (z_ai 113 12 0 (64 * z_bl q - 1)) | _ => z_fu
def z_fs3 (q t m J k : Nat) : zFS := match k with
  | 0 => z_fk (.inl (2, q, t, m, 0)) | 1 => z_fk (z_af 201 9) | 2 => z_fk (z_af 202 9) | 3 => z_fk (z_af 203 9) | 4 => z_fi 0 J | 5 => z_fk (z_af 205 10) | 6 => z_fk (z_af 206 32) | 7 => z_fk (z_af 207 32)
  | 8 => z_fk (z_ai 208 10 0 (q - 1)) | 9 => z_fk (z_al 209 (z_sp m)) | 10 => z_fk (z_ai 210 5 0 (m - 1)) | _ => z_fk (z_af 211 80)
def z_fsW (k : Nat) : zFS := match k with
  | 0 => z_fi 0 7 | 1 => z_fi 0 9 | 2 => z_fi 0 8 | 3 => z_fi 0 19 | _ => z_fx 13
def z_fsM (k : Nat) : zFS := match k with
  | 0 => z_fx 20 | 1 => z_fi 0 160 | 2 => z_fx 21 | 3 => z_fx 22 | 4 => z_fx 23 | 5 => z_fx 24 | 6 => z_fx 25 | 7 => z_fx 26 | 8 => z_fx 27 | 9 => z_fx 28 | 10 => z_fx 29 | 11 => z_fx 30 | 12 => z_fx 31
  | 13 => z_fi 0 8 | 14 => z_fx 32 | 15 => z_fx 33 | 16 => z_fx 34 | 17 => z_fx 35 | 18 => z_fx 36 | 19 => z_fx 37 | 20 => z_fx 38 | 21 => z_fi 0 20 | 22 => z_fi 0 7 | 23 => z_fi 0 1 | 24 => z_fi 0 160 | 25 => z_fi 0 160
  | 29 => z_fi 0 7 | 30 => z_fi 0 9 | 31 => z_fx 39 | 32 => z_fx 40 | 33 => z_fx 41 | 36 => z_fx 42 | 37 => z_fx 43 | 38 => z_fx 44 | 39 => z_fx 45 | 40 => z_fx 46 | 41 => z_fi 0 216 | 42 => z_fx 47 | 43 => z_fi 0 12
  | 46 => z_fx 48 | 48 => z_fi 0 19 | 49 => z_fx 49 | 50 => z_fx 50 | 51 => z_fx 51 | 52 => z_fx 52 | _ => z_fu
def z_fsp (ci q t m J k : Nat) : zFS := match ci with
  | 0 => z_fs0 k | 1 => z_fs1 k | 2 => z_fs2 q t m J k | 3 => z_fs3 q t m J k | 12 => z_fsM k | _ => z_fsW k
/-- the kinds of the cells that are there from the start -/
def z_kf : List zK := [.inr (99, 0, 0, 0, 0), z_ai 1 102 0 4368, z_al 2 6, z_ai 3 8 (-1) 5, .inl (0, 0, 0, 0, 0), .inl (1, 0, 0, 0, 0), z_af 6 160, z_ai 7 10 (-1) 9, z_ai 8 8 0 160, z_al 9 70, .inr (10, 2, 8, 9, 0), .inr (11, 2, 8, 5, 0), .inr (12, 3, 20, 0, 0),
  z_af 13 25, z_ai 14 6 (-1) 5, z_ai 15 6 0 60, z_al 16 360, .inr (17, 3, 6, 0, 0), z_af 18 216, .inl (12, 0, 0, 0, 0), z_af 20 160, z_af 21 1280, z_ai 22 8 0 160, z_af 23 80, z_ai 24 8 0 10, z_ai 25 8 0 8, z_ai 26 64 0 160, z_af 27 8, z_af 28 8,
  z_af 29 8192, z_ai 30 8192 0 1023, z_ai 31 8 0 1024, z_af 32 72, z_af 33 72, z_af 34 72, z_ai 35 8 0 9, z_ai 36 20 0 7, z_ai 37 20 0 9, z_ai 38 20 0 8, z_af 39 9, z_af 40 9, z_af 41 9, z_ai 42 10 0 9, z_ai 43 9 0 1023, z_af 44 216, z_af 45 216,
  z_ai 46 648 0 1023, z_af 47 12, z_af 48 24, z_ai 49 6 (-1) 24, z_ai 50 6 0 60, z_al 51 360, z_al 52 60]
def z_okv (T : List zK) : zFS → Value → Prop
  | .inl (lo, hi), .int x => lo ≤ x.toInt ∧ x.toInt ≤ hi
  | .inr (.inl b), .ref a => a = b
  | .inr (.inr none), .long _ => True
  | .inr (.inr (some (_, κ))), .ref a => T[a]? = some κ
  | .inr (.inr (some (true, _))), .null => True
  | _, _ => False
def z_elk (T : List zK) (tg : Nat) (lo : Int) (a : Nat) : Prop := if tg = 2 then ∃ q t m, T[a]? = some (.inl (3, q, t, m, lo.toNat)) else ∃ ci, 4 ≤ ci ∧ ci ≤ 11 ∧ T[a]? = some (.inl (ci, 0, 0, 0, 0))
def z_pok (ci q t m J : Nat) : Prop := ci < 13 ∧ (ci = 2 ∨ ci = 3 → 1 ≤ q ∧ q ≤ 10 ∧ t ≤ 8 ∧ m ≤ 1024) ∧ (ci = 3 → 1 ≤ m ∧ (J = 9 ∨ J = 5))
def z_wt (T : List zK) : zK → zE → Prop
  | .inl (ci, q, t, m, J), .inr (c1, fs) => c1 = ci ∧ fs.length = z_nf ci ∧ z_pok ci q t m J ∧ ∀ k v, fs[k]? = some v → z_okv T (z_fsp ci q t m J k) v
  | .inr (r, tg, n, lo, hi), .inl (t1, n1, .inl f) => r = 99 ∨ (tg = 0 ∧ t1 = 0 ∧ n1 = n ∧ ∀ i, i < n → lo ≤ (f i).toInt ∧ (f i).toInt ≤ hi)
  | .inr (r, tg, n, _, _), .inl (t1, n1, .inr (.inl _)) => r = 99 ∨ (tg = 1 ∧ t1 = 1 ∧ n1 = n)
  | .inr (r, tg, n, lo, _), .inl (t1, n1, .inr (.inr f)) => r = 99 ∨ (tg = t1 ∧ 2 ≤ tg ∧ n1 = n ∧ ∀ i a, i < n → f i = some a → z_elk T tg lo a)
  | .inr (r, _), .inr _ => r = 99
  | .inl _, .inl _ => False
def z_W (M : zH) (T : List zK) : Prop := M.length = T.length ∧ (∀ k, k < 53 → T[k]? = z_kf[k]?) ∧ ∀ (k : Nat) (e : zE) (κ : zK), M[k]? = some e → T[k]? = some κ → z_wt T κ e
/-- readings -/
def z_F (M : zH) (a k : Nat) : Option Value := match M[a]? with
  | some (.inr (_, fs)) => fs[k]?
  | _ => none
def z_Ar (M : zH) (a : Nat) : Nat → Int32 := match M[a]? with
  | some (.inl (_, _, .inl f)) => f
  | _ => fun _ => 0
def z_O (M : zH) (a : Nat) : Nat → Option Nat := match M[a]? with
  | some (.inl (_, _, .inr (.inr f))) => f
  | _ => fun _ => none
/-- what is kept: all but the fields and arrays of some roles -/
def z_ke (T : List zK) (rs : List Nat) (M M1 : zH) : Prop :=
  (∀ (a ci q t m J k : Nat), T[a]? = some (.inl (ci, q, t, m, J)) → ¬ (1000 + 100 * ci + k) ∈ rs → z_F M1 a k = z_F M a k) ∧ (∀ (a r : Nat) (x : Nat × Nat × Int × Int), T[a]? = some (.inr (r, x)) → ¬ r ∈ rs → M1[a]? = M[a]?)
theorem z_ke.refl {T : List zK} {rs : List Nat} {M : zH} : z_ke T rs M M := ⟨fun _ _ _ _ _ _ _ _ _ => rfl, fun _ _ _ _ _ => rfl⟩
theorem z_ke.trans {T : List zK} {rs r2 : List Nat} {M M1 M2 : zH} (h : z_ke T rs M M1) (h2 : z_ke T r2 M1 M2) (hs : r2 ⊆ rs) : z_ke T rs M M2 :=
  ⟨fun a ci q t m J k ha hr => (h2.1 a ci q t m J k ha fun hh => hr (hs hh)).trans (h.1 a ci q t m J k ha hr), fun a r x ha hr => (h2.2 a r x ha fun hh => hr (hs hh)).trans (h.2 a r x ha hr)⟩
theorem z_ke.f {T : List zK} {rs : List Nat} {M M1 : zH} (h : z_ke T rs M M1) {a ci q t m J k : Nat} {v : Option Value} (ha : T[a]? = some (.inl (ci, q, t, m, J))) (hr : ¬ (1000 + 100 * ci + k) ∈ rs) (e : z_F M a k = v) : z_F M1 a k = v := (h.1 a ci q t m J k ha hr).trans e
theorem z_ke.a {T : List zK} {rs : List Nat} {M M1 : zH} (h : z_ke T rs M M1) {a r : Nat} {x : Nat × Nat × Int × Int} (ha : T[a]? = some (.inr (r, x))) (hr : ¬ r ∈ rs) : z_Ar M1 a = z_Ar M a := by unfold z_Ar; rw [h.2 a r x ha hr]
theorem z_ke.o {T : List zK} {rs : List Nat} {M M1 : zH} (h : z_ke T rs M M1) {a r : Nat} {x : Nat × Nat × Int × Int} (ha : T[a]? = some (.inr (r, x))) (hr : ¬ r ∈ rs) : z_O M1 a = z_O M a := by unfold z_O; rw [h.2 a r x ha hr]
def z_X (T : List zK) (rs : List Nat) (M0 M : zH) : Prop := z_W M T ∧ z_ke T rs M0 M
theorem z_X.refl {T : List zK} {rs : List Nat} {M : zH} (h : z_W M T) : z_X T rs M M := ⟨h, .refl⟩
theorem z_X.go {T : List zK} {rs r2 : List Nat} {M0 M M1 : zH} (h : z_X T rs M0 M) (h2 : z_X T r2 M M1) (hs : r2 ⊆ rs) : z_X T rs M0 M1 := ⟨h2.1, h.2.trans h2.2 hs⟩
theorem z_W.k {M : zH} {T : List zK} (h : z_W M T) {k : Nat} {κ : zK} (hk : z_kf[k]? = some κ) (hl : k < 53) : T[k]? = some κ := (h.2.1 k hl).trans hk
theorem z_W.ge {M : zH} {T : List zK} (h : z_W M T) : 53 ≤ T.length := by
  have := (List.getElem?_eq_some_iff.mp (h.k (k := 52) (κ := z_al 52 60) rfl (by decide))).1
  omega
theorem z_W.at {M : zH} {T : List zK} (h : z_W M T) {a : Nat} {κ : zK} (ha : T[a]? = some κ) : ∃ e, M[a]? = some e ∧ z_wt T κ e := by
  have h1 := (List.getElem?_eq_some_iff.mp ha).1
  have h2 : a < M.length := Nat.lt_of_lt_of_eq h1 h.1.symm
  exact ⟨M[a]'h2, List.getElem?_eq_getElem h2, h.2.2 a _ κ (List.getElem?_eq_getElem h2) ha⟩
theorem z_W.ob {M : zH} {T : List zK} (h : z_W M T) {a ci q t m J : Nat} (ha : T[a]? = some (.inl (ci, q, t, m, J))) : ∃ fs, M[a]? = some (.inr (ci, fs)) ∧ fs.length = z_nf ci ∧ z_pok ci q t m J ∧ (∀ k v, fs[k]? = some v → z_okv T (z_fsp ci q t m J k) v) ∧ 4 ≤ a := by
  obtain ⟨e, he, hw⟩ := h.at ha
  match e, hw with
  | .inr (c1, fs), ⟨h1, h2, h3, h4⟩ =>
    subst h1
    refine ⟨fs, he, h2, h3, h4, ?_⟩
    have q0 := h.k (k := 0) (κ := .inr (99, 0, 0, 0, 0)) rfl (by decide)
    have q1 := h.k (k := 1) (κ := z_ai 1 102 0 4368) rfl (by decide)
    have q2 := h.k (k := 2) (κ := z_al 2 6) rfl (by decide)
    have q3 := h.k (k := 3) (κ := z_ai 3 8 (-1) 5) rfl (by decide)
    match a, ha with
    | 0, ha => rw [q0] at ha; cases ha
    | 1, ha => rw [q1] at ha; cases ha
    | 2, ha => rw [q2] at ha; cases ha
    | 3, ha => rw [q3] at ha; cases ha
    | n + 4, _ => exact Nat.le_add_left _ _
theorem z_W.ai {M : zH} {T : List zK} (h : z_W M T) {a r n : Nat} {lo hi : Int} (ha : T[a]? = some (.inr (r, 0, n, lo, hi))) (hr : r ≠ 99) : ∃ f, M[a]? = some (.inl (0, n, .inl f)) ∧ z_Ar M a = f ∧ ∀ i, i < n → lo ≤ (f i).toInt ∧ (f i).toInt ≤ hi := by
  obtain ⟨e, he, hw⟩ := h.at ha
  match e, hw with
  | .inl (t1, n1, .inl f), hw =>
    obtain ⟨_, rfl, rfl, h4⟩ := hw.resolve_left hr
    exact ⟨f, he, by unfold z_Ar; rw [he], h4⟩
  | .inl (t1, n1, .inr (.inl f)), hw => exact absurd (hw.resolve_left hr).1 (by decide)
  | .inl (t1, n1, .inr (.inr f)), hw => exact absurd (hw.resolve_left hr).2.1 (by decide)
  | .inr _, hw => exact absurd hw hr
theorem z_W.al {M : zH} {T : List zK} (h : z_W M T) {a r n : Nat} {lo hi : Int} (ha : T[a]? = some (.inr (r, 1, n, lo, hi))) (hr : r ≠ 99) : ∃ f, M[a]? = some (.inl (1, n, .inr (.inl f))) := by
  obtain ⟨e, he, hw⟩ := h.at ha
  match e, hw with
  | .inl (t1, n1, .inl f), hw => exact absurd (hw.resolve_left hr).1 (by decide)
  | .inl (t1, n1, .inr (.inl f)), hw =>
    obtain ⟨_, rfl, rfl⟩ := hw.resolve_left hr
    exact ⟨f, he⟩
  | .inl (t1, n1, .inr (.inr f)), hw => exact absurd (hw.resolve_left hr).2.1 (by decide)
  | .inr _, hw => exact absurd hw hr
theorem z_W.aa {M : zH} {T : List zK} (h : z_W M T) {a r tg n : Nat} {lo hi : Int} (ha : T[a]? = some (.inr (r, tg, n, lo, hi))) (hr : r ≠ 99) (ht : 2 ≤ tg) : ∃ f, M[a]? = some (.inl (tg, n, .inr (.inr f))) ∧ z_O M a = f ∧ ∀ i b, i < n → f i = some b → z_elk T tg lo b := by
  obtain ⟨e, he, hw⟩ := h.at ha
  match e, hw with
  | .inl (t1, n1, .inl f), hw => exact absurd (hw.resolve_left hr).1 (by omega)
  | .inl (t1, n1, .inr (.inl f)), hw => exact absurd (hw.resolve_left hr).1 (by omega)
  | .inl (t1, n1, .inr (.inr f)), hw =>
    obtain ⟨rfl, h2, rfl, h4⟩ := hw.resolve_left hr
    exact ⟨f, he, by unfold z_O; rw [he], h4⟩
  | .inr _, hw => exact absurd hw hr
theorem z_W.fld {M : zH} {T : List zK} (h : z_W M T) {a ci q t m J k : Nat} (ha : T[a]? = some (.inl (ci, q, t, m, J))) (hk : k < z_nf ci) : ∃ v, z_F M a k = some v ∧ z_okv T (z_fsp ci q t m J k) v := by
  obtain ⟨fs, h1, h2, h3, h4, h5⟩ := h.ob ha
  have hk2 : k < fs.length := by rw [h2]; exact hk
  exact ⟨fs[k], by unfold z_F; rw [h1]; exact List.getElem?_eq_getElem hk2, h4 k _ (List.getElem?_eq_getElem hk2)⟩
/-- a write keeps the kinds -/
theorem z_W.set {M : zH} {T : List zK} (h : z_W M T) {a : Nat} {e : zE} {κ : zK} (ha : T[a]? = some κ) (he : z_wt T κ e) : z_W (M.set a e) T := by
  refine ⟨by rw [List.length_set]; exact h.1, h.2.1, fun k e2 κ2 hk hT => ?_⟩
  rw [List.getElem?_set] at hk
  split at hk
  · rename_i hak
    subst hak
    split at hk
    · cases hk
      rw [ha] at hT
      cases hT
      exact he
    · cases hk
  · exact h.2.2 k e2 κ2 hk hT
theorem z_Fset {M : zH} {a b k i ci : Nat} {fs : List Value} {v : Value} (h : M[a]? = some (.inr (ci, fs))) (hn : b ≠ a ∨ k ≠ i) : z_F (M.set a (.inr (ci, fs.set i v))) b k = z_F M b k := by
  unfold z_F
  by_cases hb : a = b
  · subst hb
    rw [z_gs1 h, h]
    show (fs.set i v)[k]? = fs[k]?
    rw [List.getElem?_set_ne]
    rcases hn with hn | hn
    · exact absurd rfl hn
    · exact Ne.symm hn
  · rw [List.getElem?_set_ne hb]
theorem z_Fown {M : zH} {a i ci : Nat} {fs : List Value} {v : Value} (h : M[a]? = some (.inr (ci, fs))) (hi : i < fs.length) : z_F (M.set a (.inr (ci, fs.set i v))) a i = some v := by
  unfold z_F
  rw [z_gs1 h]
  show (fs.set i v)[i]? = some v
  rw [List.getElem?_set]
  simp [hi]
theorem z_kpF {M : zH} {T : List zK} {a ci q t m J i : Nat} {fs : List Value} {v : Value} (hT : T[a]? = some (.inl (ci, q, t, m, J))) (h : M[a]? = some (.inr (ci, fs))) : z_ke T [1000 + 100 * ci + i] M (M.set a (.inr (ci, fs.set i v))) := by
  refine ⟨fun b c2 q2 t2 m2 J2 k hb hr => z_Fset h ?_, fun b r x hb hr => ?_⟩
  · by_cases hba : b = a
    · subst hba
      rw [hT] at hb
      cases hb
      exact Or.inr fun hk => hr (by subst hk; exact List.mem_singleton.mpr rfl)
    · exact Or.inl hba
  · rw [List.getElem?_set_ne]
    rintro rfl
    rw [hT] at hb
    cases hb
theorem z_kpA {M : zH} {T : List zK} {a r : Nat} {x : Nat × Nat × Int × Int} {y z : Nat × zA} (hT : T[a]? = some (.inr (r, x))) (h : M[a]? = some (.inl y)) : z_ke T [r] M (M.set a (.inl z)) := by
  refine ⟨fun b c2 q2 t2 m2 J2 k hb hr => ?_, fun b r2 x2 hb hr => ?_⟩
  · unfold z_F
    rw [List.getElem?_set_ne]
    rintro rfl
    rw [hT] at hb
    cases hb
  · rw [List.getElem?_set_ne]
    rintro rfl
    rw [hT] at hb
    cases hb
    exact hr (List.mem_singleton.mpr rfl)
theorem z_p2f : ∀ q, 1 ≤ q → q ≤ 10 → 2 ≤ z_po q ∧ z_po q ≤ 1024 ∧ 1 ≤ z_bl q ∧ z_bl q ≤ 16 ∧ z_po q ≤ 64 * z_bl q ∧ (z_po q = 64 * z_bl q ∨ z_bl q = 1) := by
  intro q h1 h2
  match q, h1, h2 with
  | 1, _, _ => decide
  | 2, _, _ => decide
  | 3, _, _ => decide
  | 4, _, _ => decide
  | 5, _, _ => decide
  | 6, _, _ => decide
  | 7, _, _ => decide
  | 8, _, _ => decide
  | 9, _, _ => decide
  | 10, _, _ => decide
  | q + 11, _, h2 => omega
theorem z_spf {m : Nat} (h2 : m ≤ 1024) : z_sp m ≤ 16 ∧ m ≤ 64 * z_sp m ∧ 64 * z_sp m < m + 64 := by unfold z_sp; omega
theorem z_W.p2 {M : zH} {T : List zK} (h : z_W M T) {a q t m J : Nat} (ha : T[a]? = some (.inl (2, q, t, m, J))) : (1 ≤ q ∧ q ≤ 10 ∧ t ≤ 8 ∧ m ≤ 1024) ∧ (2 ≤ z_po q ∧ z_po q ≤ 1024 ∧ 1 ≤ z_bl q ∧ z_bl q ≤ 16 ∧ z_po q ≤ 64 * z_bl q ∧ (z_po q = 64 * z_bl q ∨ z_bl q = 1)) ∧ (z_sp m ≤ 16 ∧ m ≤ 64 * z_sp m ∧ 64 * z_sp m < m + 64) := by
  obtain ⟨fs, h1, h2, ⟨h3, h4, h5⟩, h6, h7⟩ := h.ob ha
  obtain ⟨a1, a2, a3, a5⟩ := h4 (Or.inl rfl)
  exact ⟨⟨a1, a2, a3, a5⟩, z_p2f q a1 a2, z_spf a5⟩
theorem z_W.p3 {M : zH} {T : List zK} (h : z_W M T) {a q t m J : Nat} (ha : T[a]? = some (.inl (3, q, t, m, J))) : (1 ≤ q ∧ q ≤ 10 ∧ t ≤ 8 ∧ 1 ≤ m ∧ m ≤ 1024 ∧ J ≤ 9) ∧ (2 ≤ z_po q ∧ z_po q ≤ 1024 ∧ 1 ≤ z_bl q ∧ z_bl q ≤ 16 ∧ z_po q ≤ 64 * z_bl q ∧ (z_po q = 64 * z_bl q ∨ z_bl q = 1)) ∧ (z_sp m ≤ 16 ∧ m ≤ 64 * z_sp m ∧ 64 * z_sp m < m + 64) := by
  obtain ⟨fs, h1, h2, ⟨h3, h4, h5⟩, h6, h7⟩ := h.ob ha
  obtain ⟨a1, a2, a3, a5⟩ := h4 (Or.inr rfl)
  obtain ⟨a6, a7⟩ := h5 rfl
  exact ⟨⟨a1, a2, a3, a6, a5, by omega⟩, z_p2f q a1 a2, z_spf a5⟩
theorem z_sb {r2 rs : List Nat} (h : (r2.all fun x => rs.elem x) = true) : r2 ⊆ rs := fun x hx => by
  have := List.all_eq_true.mp h x hx
  exact List.elem_iff.mp this
