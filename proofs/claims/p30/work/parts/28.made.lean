/-! what is made: cells behind the others; kinds told anew -/
/-- a kind that no field and no array speaks of -/
def z_loose (κ : zK) : Prop := match κ with
  | .inr (r, _) => r = 99
  | .inl (ci, _, _, _, J) => ci = 2 ∧ J = 1
theorem z_spn0 {k : Nat} {b : Bool} {κ : zK} (h : z_fs0 k = .inr (.inr (some (b, κ)))) : ¬ z_loose κ := by
  unfold z_fs0 at h
  split at h <;> first | (cases h; done) | (cases h; intro z; exact absurd (show (300 : Nat) = 99 from z) (by decide))
theorem z_spn2 {q t m J k : Nat} {b : Bool} {κ : zK} (h : z_fs2 q t m J k = .inr (.inr (some (b, κ)))) : ¬ z_loose κ := by
  unfold z_fs2 at h
  split at h
  · split at h <;> first | (cases h; done) | (cases h; intro z; exact absurd (show (_ : Nat) = 99 from z) (by decide))
  · split at h <;> first | (cases h; done) | (cases h; intro z; exact absurd (show (_ : Nat) = 99 from z) (by decide))
theorem z_spn3 {q t m J k : Nat} {b : Bool} {κ : zK} (h : z_fs3 q t m J k = .inr (.inr (some (b, κ)))) : ¬ z_loose κ := by
  unfold z_fs3 at h
  split at h <;> first | (cases h; done) | (cases h; intro z; exact absurd (show (_ : Nat) = 99 from z) (by decide)) | (cases h; intro z; exact absurd z.2 (by decide))
theorem z_spn1 {k : Nat} {b : Bool} {κ : zK} (h : z_fs1 k = .inr (.inr (some (b, κ)))) : ¬ z_loose κ := by
  unfold z_fs1 at h
  split at h <;> cases h
theorem z_spnM {k : Nat} {b : Bool} {κ : zK} (h : z_fsM k = .inr (.inr (some (b, κ)))) : ¬ z_loose κ := by
  unfold z_fsM at h
  split at h <;> cases h
theorem z_spnW {k : Nat} {b : Bool} {κ : zK} (h : z_fsW k = .inr (.inr (some (b, κ)))) : ¬ z_loose κ := by
  unfold z_fsW at h
  split at h <;> cases h
theorem z_spn {ci q t m J k : Nat} {b : Bool} {κ : zK} (h : z_fsp ci q t m J k = .inr (.inr (some (b, κ)))) : ¬ z_loose κ := by
  unfold z_fsp at h
  split at h
  · exact z_spn0 h
  · exact z_spn1 h
  · exact z_spn2 h
  · exact z_spn3 h
  · exact z_spnM h
  · exact z_spnW h
/-- more kinds, or others in the place of loose ones -/
def z_le (T T1 : List zK) : Prop := ∀ (a : Nat) (κ : zK), T[a]? = some κ → ¬ z_loose κ → T1[a]? = some κ
theorem z_le.okv {T T1 : List zK} (h : z_le T T1) {ci q t m J k : Nat} {v : Value} (hv : z_okv T (z_fsp ci q t m J k) v) : z_okv T1 (z_fsp ci q t m J k) v := by
  match hs : z_fsp ci q t m J k, v, hv with
  | .inl _, .int _, hv => exact hv
  | .inr (.inl _), .ref _, hv => exact hv
  | .inr (.inr none), .long _, hv => exact hv
  | .inr (.inr (some (true, κ))), .ref a, hv => exact h a κ hv (z_spn hs)
  | .inr (.inr (some (false, κ))), .ref a, hv => exact h a κ hv (z_spn hs)
  | .inr (.inr (some (true, κ))), .null, hv => exact hv
theorem z_le.elk {T T1 : List zK} (h : z_le T T1) {tg a : Nat} {lo : Int} (hv : z_elk T tg lo a) : z_elk T1 tg lo a := by
  unfold z_elk at hv ⊢
  split at hv
  · rename_i ht
    rw [if_pos ht]
    obtain ⟨q, t, m, hk⟩ := hv
    exact ⟨q, t, m, h a _ hk (fun z => absurd z.1 (by decide))⟩
  · rename_i ht
    rw [if_neg ht]
    obtain ⟨ci, h1, h2, hk⟩ := hv
    exact ⟨ci, h1, h2, h a _ hk (fun z => by have := z.1; omega)⟩
theorem z_le.wt {T T1 : List zK} (h : z_le T T1) : ∀ {κ : zK} {e : zE}, z_wt T κ e → z_wt T1 κ e
  | .inl (ci, q, t, m, J), .inr (c1, fs), ⟨h1, h2, h3, h4⟩ => ⟨h1, h2, h3, fun k v hk => h.okv (h4 k v hk)⟩
  | .inr (r, tg, n, lo, hi), .inl (t1, n1, .inl f), hw => hw
  | .inr (r, tg, n, lo, hi), .inl (t1, n1, .inr (.inl f)), hw => hw
  | .inr (r, tg, n, lo, hi), .inl (t1, n1, .inr (.inr f)), hw => hw.imp id fun ⟨h1, h2, h3, h4⟩ => ⟨h1, h2, h3, fun i a hi ha => h.elk (h4 i a hi ha)⟩
  | .inr (r, _), .inr _, hw => hw
theorem z_le.push {T : List zK} {κ : zK} : z_le T (T ++ [κ]) := fun a κ2 h _ => by rw [List.getElem?_append_left (List.getElem?_eq_some_iff.mp h).1]; exact h
theorem z_le.refl {T : List zK} : z_le T T := fun _ _ h _ => h
theorem z_le.trans {T T1 T2 : List zK} (h : z_le T T1) (h2 : z_le T1 T2) : z_le T T2 := fun a κ hk hl => h2 a κ (h a κ hk hl) hl
/-- a cell is made -/
theorem z_W.push {M : zH} {T : List zK} (h : z_W M T) {e : zE} {κ : zK} (he : z_wt (T ++ [κ]) κ e) : z_W (M ++ [e]) (T ++ [κ]) := by
  have h53 := h.ge
  refine ⟨by rw [List.length_append, List.length_append, h.1]; rfl, fun k hk => by rw [List.getElem?_append_left (by omega)]; exact h.2.1 k hk, fun k e2 κ2 hk hT => ?_⟩
  by_cases hl : k < M.length
  · rw [List.getElem?_append_left hl] at hk
    rw [List.getElem?_append_left (by rw [← h.1]; exact hl)] at hT
    exact z_le.push.wt (h.2.2 k e2 κ2 hk hT)
  · have hk2 := (List.getElem?_eq_some_iff.mp hk).1
    rw [List.length_append] at hk2
    have e1 : k = M.length := by
      have : ([e] : List zE).length = 1 := rfl
      omega
    subst e1
    rw [List.getElem?_append_right (Nat.le_refl _), Nat.sub_self] at hk
    rw [h.1, List.getElem?_append_right (Nat.le_refl _), Nat.sub_self] at hT
    cases hk
    cases hT
    exact he
/-- a loose cell gets a kind -/
theorem z_W.seal {M : zH} {T : List zK} (h : z_W M T) {N : Nat} {e : zE} {κ κ1 : zK} (hN : 53 ≤ N) (hT : T[N]? = some κ) (hl : z_loose κ) (hM : M[N]? = some e) (he : z_wt (T.set N κ1) κ1 e) : z_W M (T.set N κ1) ∧ z_le T (T.set N κ1) := by
  have hle : z_le T (T.set N κ1) := fun a κ2 h2 h3 => by
    by_cases ha : N = a
    · subst ha
      rw [hT] at h2
      cases h2
      exact absurd hl h3
    · rw [List.getElem?_set_ne ha]; exact h2
  refine ⟨⟨by rw [List.length_set]; exact h.1, fun k hk => by rw [List.getElem?_set_ne (by omega)]; exact h.2.1 k hk, fun k e2 κ2 hk hT2 => ?_⟩, hle⟩
  by_cases ha : N = k
  · subst ha
    rw [List.getElem?_set] at hT2
    simp only [if_true] at hT2
    split at hT2
    · cases hT2
      rw [hM] at hk
      cases hk
      exact he
    · cases hT2
  · rw [List.getElem?_set_ne ha] at hT2
    exact hle.wt (h.2.2 k e2 κ2 hk hT2)
theorem z_setN {T : List zK} {N : Nat} {κ κ1 : zK} (hT : T[N]? = some κ) : (T.set N κ1)[N]? = some κ1 := by
  rw [List.getElem?_set]
  simp [(List.getElem?_eq_some_iff.mp hT).1]
/-- what is left of the readings when a cell is made, or a loose one written -/
def z_same (T : List zK) (M M1 : zH) : Prop := ∀ (a : Nat) (κ : zK), T[a]? = some κ → ¬ z_loose κ → M1[a]? = M[a]?
theorem z_same.push {M : zH} {T : List zK} (h : z_W M T) {e : zE} : z_same T M (M ++ [e]) := fun a κ hk _ => by
  rw [List.getElem?_append_left (by have := (List.getElem?_eq_some_iff.mp hk).1; rw [h.1]; exact this)]
theorem z_same.set {M : zH} {T : List zK} {N : Nat} {κ : zK} (hT : T[N]? = some κ) (hl : z_loose κ) {e : zE} : z_same T M (M.set N e) := fun a κ2 hk h2 => by
  rw [List.getElem?_set_ne]
  rintro rfl
  rw [hT] at hk
  cases hk
  exact h2 hl
theorem z_same.trans {M M1 M2 : zH} {T T1 : List zK} (h : z_same T M M1) (h2 : z_same T1 M1 M2) (hl : z_le T T1) : z_same T M M2 := fun a κ hk hn => (h2 a κ (hl a κ hk hn) hn).trans (h a κ hk hn)
theorem z_same.f {M M1 : zH} {T : List zK} (h : z_same T M M1) {a ci q t m J k : Nat} (ha : T[a]? = some (.inl (ci, q, t, m, J))) (hn : ¬ (ci = 2 ∧ J = 1)) : z_F M1 a k = z_F M a k := by unfold z_F; rw [h a _ ha hn]
theorem z_same.o {M M1 : zH} {T : List zK} (h : z_same T M M1) {a r : Nat} {x : Nat × Nat × Int × Int} (ha : T[a]? = some (.inr (r, x))) (hn : r ≠ 99) : z_O M1 a = z_O M a := by unfold z_O; rw [h a _ ha hn]
theorem z_same.a {M M1 : zH} {T : List zK} (h : z_same T M M1) {a r : Nat} {x : Nat × Nat × Int × Int} (ha : T[a]? = some (.inr (r, x))) (hn : r ≠ 99) : z_Ar M1 a = z_Ar M a := by unfold z_Ar; rw [h a _ ha hn]
theorem z_GG.new {M M1 : zH} {T T1 : List zK} (h : z_GG T M) (hs : z_same T M M1) (hW : z_W M1 T1) : z_GG T1 M1 := by
  obtain ⟨h0, h1, h2⟩ := h
  have k4 := h0.k (k := 4) (κ := .inl (0, 0, 0, 0, 0)) rfl (by decide)
  have k10 := h0.k (k := 10) (κ := .inr (10, 2, 8, 9, 0)) rfl (by decide)
  have k11 := h0.k (k := 11) (κ := .inr (11, 2, 8, 5, 0)) rfl (by decide)
  have k12 := h0.k (k := 12) (κ := .inr (12, 3, 20, 0, 0)) rfl (by decide)
  refine ⟨hW, ?_, ?_⟩
  · unfold z_G1
    rw [hs.f k4 (by decide), hs.f k4 (by decide), hs.o k10 (by decide), hs.o k11 (by decide), hs.o k12 (by decide)]
    exact h1
  · intro i b c hi hb hc
    rw [hs.o k10 (by decide)] at hb
    rw [hs.o k11 (by decide)] at hc
    obtain ⟨f, g1, g2, g3⟩ := h0.aa k10 (by decide) (by decide)
    obtain ⟨f2, g4, g5, g6⟩ := h0.aa k11 (by decide) (by decide)
    obtain ⟨q, t, m, kb⟩ : ∃ q t m, T[b]? = some (.inl (3, q, t, m, 9)) := g3 i b hi (by rw [← g2]; exact hb)
    obtain ⟨q2, t2, m2, kc⟩ : ∃ q t m, T[c]? = some (.inl (3, q, t, m, 5)) := g6 i c hi (by rw [← g5]; exact hc)
    rw [hs.f kb (by decide), hs.f kc (by decide)]
    exact h2 i b c hi hb hc
