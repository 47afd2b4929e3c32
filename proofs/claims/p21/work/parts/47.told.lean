/-! the tape's agenda is made; call 1 -/
theorem zzw1_105 : (z_find z_nw 1 105).map (·.1) = some 2 := by decide +kernel
theorem zzcI1_107 : (z_find z_cI 1 107).map (·.1) = some (3, 5, [(0, 23)]) := by decide +kernel
theorem zzm23 : z_ml 23 = 8 := by decide +kernel
theorem zzr22 : z_rt 22 = some (.object "DoorBench$Agenda") := by decide +kernel
theorem zkl2_1_84 : (z_find z_l2 1 84).map (·.1) = some (-1) := by decide +kernel
theorem zzr5 : z_rt 5 = some (.int) := by decide +kernel
theorem zzcV0_70 : (z_find z_cV 0 70).map (·.1) = some (1, 1, [(0, 29)]) := by decide +kernel
theorem zzm29 : z_ml 29 = 2 := by decide +kernel
theorem zzm5 : z_ml 5 = 3 := by decide +kernel
theorem zzm190 : z_ml 190 = 6 := by decide +kernel
/-- sizes: told by the kinds -/
def z_ck (κ : zK) : Nat := match κ with
  | .inl (ci, _, _, _, _) => z_nf ci
  | .inr (_, _, n, _, _) => n
theorem z_wtc {T : List zK} : ∀ {κ : zK} {e : zE}, z_wt T κ e → (∀ x, κ ≠ .inr (99, x)) → z_cz e = z_ck κ
  | .inl (ci, q, t, m, J), .inr (c1, fs), ⟨h1, _, _, _⟩, _ => by subst h1; rfl
  | .inr (r, tg, n, lo, hi), .inl (t1, n1, .inl f), hw, hn => by
    rcases hw with hw | ⟨_, _, hw, _⟩
    · subst hw; exact absurd rfl (hn _)
    · exact hw
  | .inr (r, tg, n, lo, hi), .inl (t1, n1, .inr (.inl f)), hw, hn => by
    rcases hw with hw | ⟨_, _, hw⟩
    · subst hw; exact absurd rfl (hn _)
    · exact hw
  | .inr (r, tg, n, lo, hi), .inl (t1, n1, .inr (.inr f)), hw, hn => by
    rcases hw with hw | ⟨_, _, hw, _⟩
    · subst hw; exact absurd rfl (hn _)
    · exact hw
  | .inr (r, x), .inr _, hw, hn => absurd (congrArg (fun r => (.inr (r, x) : zK)) (show r = 99 from hw)) (hn x)
theorem z_szX {T : List zK} {rs : List Nat} {M0 M : zH} (h0 : z_W M0 T) (hX : z_X T rs M0 M) (hr : ¬ 99 ∈ rs) : z_sz M = z_sz M0 := by
  unfold z_sz
  congr 1
  apply List.ext_getElem?
  intro i
  rw [List.getElem?_map, List.getElem?_map]
  by_cases hi : i < M0.length
  · have hT : i < T.length := by rw [← h0.1]; exact hi
    have hk := List.getElem?_eq_getElem hT
    generalize T[i] = κ at hk
    by_cases h99 : ∃ x, κ = .inr (99, x)
    · obtain ⟨x, rfl⟩ := h99
      rw [hX.2.2 i 99 x hk hr]
    · have hn : ∀ x, κ ≠ .inr (99, x) := fun x hx => h99 ⟨x, hx⟩
      obtain ⟨e0, a0, w0⟩ := h0.at hk
      obtain ⟨e1, a1, w1⟩ := hX.1.at hk
      rw [a0, a1]
      show some (z_cz e1) = some (z_cz e0)
      rw [z_wtc w0 hn, z_wtc w1 hn]
  · rw [List.getElem?_eq_none (by have := h0.1; have := hX.1.1; omega), List.getElem?_eq_none (by omega)]
/-- a heap that grew by two cells -/
theorem z_sz2 {M M3 : zH} {e1 e2 : zE} (hg : z_grow M M3) (hl : M3.length = M.length + 2) (h1 : M3[M.length]? = some e1) (h2 : M3[M.length + 1]? = some e2) : z_sz M3 = z_sz M + z_cz e1 + z_cz e2 := by
  have hd : M3.drop M.length = [e1, e2] := by
    apply List.ext_getElem?
    intro i
    rw [List.getElem?_drop]
    match i with
    | 0 => exact h1
    | 1 => exact h2
    | i + 2 =>
      rw [List.getElem?_eq_none (by omega)]
      rfl
  have ht : z_sz (M3.take M.length) = z_sz M := by
    refine z_szg (fun k e hk => ?_) (by rw [List.length_take]; omega)
    obtain ⟨e3, g1, g2, g3⟩ := hg k e hk
    refine ⟨e3, ?_, g2, g3⟩
    rw [List.getElem?_take_of_lt (List.getElem?_eq_some_iff.mp hk).1]
    exact g1
  have hs : z_sz M3 = z_sz (M3.take M.length) + z_sz (M3.drop M.length) := by
    have h := congrArg z_sz (List.take_append_drop M.length M3).symm
    rw [h]
    unfold z_sz
    rw [List.map_append, List.sum_append]
  rw [hs, ht, hd]
  show z_sz M + (z_cz e1 + (z_cz e2 + 0)) = _
  omega
def zw22 : List Nat := [9, 108, 1102, 1103, 1110]
