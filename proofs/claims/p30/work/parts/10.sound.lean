/-! the mini-VM is right: what it runs to, the machine runs to -/
theorem z_s2_mono {c : Nat} {b : Bool} {i : Instr} {pc pc1 : Nat} {S S1 : zS} {M M1 : zH} (h : z_s2 c b i pc S M = some (pc1, S1, M1)) : M.length ≤ M1.length ∧ z_sz M ≤ z_sz M1 := by
  have same : ∀ {pc2 : Nat} {S2 : zS}, some (pc2, S2, M) = some (pc1, S1, M1) → M.length ≤ M1.length ∧ z_sz M ≤ z_sz M1 := by
    intro pc2 S2 h
    cases h
    exact ⟨Nat.le_refl _, Nat.le_refl _⟩
  have put : ∀ {pc2 : Nat} {S2 : zS} {a : Nat} {e0 e1 : zE}, M[a]? = some e0 → z_cz e1 = z_cz e0 → some (pc2, S2, M.set a e1) = some (pc1, S1, M1) → M.length ≤ M1.length ∧ z_sz M ≤ z_sz M1 := by
    intro pc2 S2 a e0 e1 h0 hz h
    cases h
    exact ⟨Nat.le_of_eq (List.length_set).symm, Nat.le_of_eq (z_sz_set h0 hz).symm⟩
  have more : ∀ {pc2 : Nat} {S2 : zS} {e1 : zE}, some (pc2, S2, M ++ [e1]) = some (pc1, S1, M1) → M.length ≤ M1.length ∧ z_sz M ≤ z_sz M1 := by
    intro pc2 S2 e1 h
    cases h
    exact ⟨by simp, by rw [z_sz_push]; omega⟩
  cases i
  case ldc k => obtain ⟨q, hq, h⟩ := Option.map_eq_some_iff.mp h; exact same (congrArg some h)
  case ldc_w k => obtain ⟨q, hq, h⟩ := Option.map_eq_some_iff.mp h; exact same (congrArg some h)
  case ldc2_w k => obtain ⟨q, hq, h⟩ := Option.map_eq_some_iff.mp h; exact same (congrArg some h)
  case getstatic k => obtain ⟨q, hq, h⟩ := Option.map_eq_some_iff.mp h; exact same (congrArg some h)
  case new k => obtain ⟨q, hq, h⟩ := Option.map_eq_some_iff.mp h; exact more (congrArg some h)
  all_goals dsimp only [z_s2] at h
  all_goals try (cases h; done)
  case getfield k =>
    split at h
    · split at h
      · split at h
        · obtain ⟨v, hv, h⟩ := Option.map_eq_some_iff.mp h
          exact same (congrArg some h)
        · cases h
      · cases h
    · cases h
  case putfield k =>
    split at h
    · split at h
      · rename_i hM hq
        split at h
        · exact put hM (by rfl) h
        · cases h
      · cases h
    · cases h
  case newarray t =>
    split at h
    · split at h
      · cases h
      · split at h
        · exact more h
        · exact more h
        · cases h
    · cases h
  case anewarray k =>
    split at h
    · split at h
      · cases h
      · obtain ⟨q, hq, h⟩ := Option.map_eq_some_iff.mp h
        exact more (congrArg some h)
    · cases h
  case arraylength =>
    split at h
    · split at h
      · exact same h
      · cases h
    · cases h
  case iaload =>
    split at h
    · split at h
      · split at h
        · cases h
        · exact same h
      · cases h
    · cases h
  case laload =>
    split at h
    · split at h
      · split at h
        · cases h
        · exact same h
      · cases h
    · cases h
  case aaload =>
    split at h
    · split at h
      · split at h
        · cases h
        · exact same h
      · cases h
    · cases h
  case iastore =>
    split at h
    · split at h
      · rename_i hM
        split at h
        · cases h
        · exact put hM (by rfl) h
      · cases h
    · cases h
  case lastore =>
    split at h
    · split at h
      · rename_i hM
        split at h
        · cases h
        · exact put hM (by rfl) h
      · cases h
    · cases h
  case aastore =>
    split at h
    · split at h
      · rename_i hM
        split at h
        · cases h
        · exact put hM (by rfl) h
      · cases h
    · split at h
      · rename_i hM hV
        split at h
        · cases h
        · exact put hM (by rfl) h
      · cases h
    · cases h
theorem z_s3_same {c : Nat} {i : Instr} {pc pc1 : Nat} {S S1 : zS} {M M1 : zH} (h : z_s3 c i pc S M = some (pc1, S1, M1)) : M1 = M := by
  cases i
  case invokespecial k =>
    dsimp only [z_s3] at h
    split at h
    · split at h
      · cases h; rfl
      · cases h
    · cases h
  case invokestatic k =>
    dsimp only [z_s3] at h
    split at h
    · split at h
      · split at h
        · cases h; rfl
        · cases h
      · cases h
    · split at h
      · split at h
        · cases h; rfl
        · cases h
      · cases h
    · cases h
  all_goals cases h
theorem z_copy_len {S r : zS} {M M1 : zH} (h : z_copy S M = some (r, M1)) : M1.length = M.length ∧ z_sz M1 = z_sz M := by
  unfold z_copy at h
  split at h
  · split at h
    · rename_i hA hB
      split at h
      · cases h
      · cases h
        exact ⟨List.length_set, z_sz_set hA rfl⟩
    · cases h
  · cases h
theorem z_s4_len {c : Nat} {i : Instr} {pc pc1 : Nat} {S S1 : zS} {M M1 : zH} (h : z_s4 c i pc S M = some (pc1, S1, M1)) : M1.length = M.length ∧ z_sz M1 = z_sz M := by
  cases i
  case invokestatic k =>
    dsimp only [z_s4] at h
    split at h
    · split at h
      · rename_i hc
        split at h
        · cases h
          exact z_copy_len hc
        · cases h
      · cases h
    · cases h
  all_goals cases h
theorem z_st_mono {j : Nat} {i : Instr} {pc pc1 : Nat} {L L1 : zL} {S S1 : zS} {M M1 : zH} (h : z_st j i pc L S M = some (pc1, L1, S1, M1)) : M.length ≤ M1.length ∧ z_sz M ≤ z_sz M1 := by
  unfold z_st at h
  split at h
  · cases h; exact ⟨Nat.le_refl _, Nat.le_refl _⟩
  · split at h
    · rename_i h2
      cases h
      exact z_s2_mono h2
    · split at h
      · rename_i h3
        cases h
        rw [z_s3_same h3]
        exact ⟨Nat.le_refl _, Nat.le_refl _⟩
      · split at h
        · rename_i h4
          cases h
          obtain ⟨a, b⟩ := z_s4_len h4
          exact ⟨Nat.le_of_eq a.symm, Nat.le_of_eq b.symm⟩
        · cases h
theorem z_run_mono : ∀ (n d j pc : Nat) (L : zL) (S : zS) (M M1 : zH) (v : Option Value), z_run n d j pc L S M = some (v, M1) → M.length ≤ M1.length ∧ z_sz M ≤ z_sz M1
  | 0, d, j, pc, L, S, M, M1, v, h => by cases h
  | n + 1, d, j, pc, L, S, M, M1, v, h => by
    unfold z_run at h
    split at h
    · cases h
    · split at h
      · split at h
        · cases h; exact ⟨Nat.le_refl _, Nat.le_refl _⟩
        · split at h
          · rename_i h1
            have a := z_st_mono h1
            have b := z_run_mono n _ _ _ _ _ _ _ _ h
            exact ⟨Nat.le_trans a.1 b.1, Nat.le_trans a.2 b.2⟩
          · split at h
            · split at h
              · split at h
                · rename_i h1
                  have a := z_run_mono n _ _ _ _ _ _ _ _ h1
                  have b := z_run_mono n _ _ _ _ _ _ _ _ h
                  exact ⟨Nat.le_trans a.1 b.1, Nat.le_trans a.2 b.2⟩
                · cases h
              · cases h
            · cases h
      · cases h
theorem z_K.warm {G : zG} {s U : State} (h : z_K G s) (hW : s.WarmedH U.vm) : z_K G U := by
  obtain ⟨h1, h2, h3, h4, h5⟩ := h
  refine ⟨fun ci q hq => u_Kn_moved hW.alike (h1 ci q hq), fun t ht => ⟨arrOfT_moved hW.alike (h2 t ht).1, (h2 t ht).2.moved hW.alike⟩, fun w hw => ?_, va_AO.moved hW.alike h4, va_AO.moved hW.alike h5⟩
  have hz := h3 w hw
  simp only [z_xw, List.mem_cons, List.not_mem_nil, or_false] at hw
  rcases hw with rfl | rfl | rfl | rfl | rfl | rfl | rfl | rfl | rfl | rfl | rfl | rfl | rfl
  all_goals first | exact va_Nw.warmF hW hz | exact va_Nw.warmM hW hz | exact va_Nw.warmC hW hz
theorem z_K.vm {G : zG} {s U : State} (h : z_K G s) (e : s.vm = U.vm) : z_K G U := by
  obtain ⟨h1, h2, h3, h4, h5⟩ := h
  have ha : s.vm.Alike U.vm := by rw [← e]; exact Vm.Alike.refl _
  refine ⟨fun ci q hq => u_Kn_moved ha (h1 ci q hq), fun t ht => ⟨arrOfT_moved ha (h2 t ht).1, (h2 t ht).2.moved ha⟩, fun w hw => ?_, va_AO.moved ha h4, va_AO.moved ha h5⟩
  have hz := h3 w hw
  simp only [z_xw, List.mem_cons, List.not_mem_nil, or_false] at hw
  rcases hw with rfl | rfl | rfl | rfl | rfl | rfl | rfl | rfl | rfl | rfl | rfl | rfl | rfl
  all_goals exact va_Nw.same rfl e hz
theorem z_R.go {r : Nat → Nat} {A : Nat → Prop} {ro : zH} {s U : State} {H H1 : Heap} (h : z_R r A ro s H) (ha : s.vm.Alike U.vm) (hq : ∀ a : Nat, a < H.size → ¬ A a → H1[a]? = H[a]?) : z_R r A ro U H1 := by
  obtain ⟨h1, h2, h3, h4⟩ := h
  refine ⟨(va_Z.moved ha h1).kept hq, (va_Z.moved ha h2).kept hq, (va_Z.moved ha h3).kept hq, fun k e he => ?_⟩
  have h5 := h4 k e he
  match e, h5 with
  | .inl (t, n, .inl f), ⟨g1, g2⟩ => exact ⟨g1, (va_T.moved ha g2).kept hq⟩
  | .inl (t, n, .inr (.inl f)), ⟨g1, g2⟩ => exact ⟨g1, (va_T.moved ha g2).kept hq⟩
  | .inl (t, n, .inr (.inr f)), h => exact h.elim
  | .inr q, h => exact h.elim
def z_wsj (j : Nat) : List Jvm.Cond := .code (z_name j) (z_b j) (z_ml j) (z_rt j) :: z_tb
def z_rm (d mc ms : Nat) : Room := { frames := d + 1, cells := mc, slots := ms, locals := 40 * (d + 1) }
def z_Pc (G : zG) (r : Nat → Nat) (base : Nat) (ro : zH) (vs : List Value) (M : zH) : Array Value → State → Prop := fun av U => av = (vs.map (z_sh (z_ad r base))).toArray ∧ z_K G U ∧ z_R r (z_A base) ro U U.heap ∧ z_Rl G r base ro U.heap M U.heap []
def z_Qc (G : zG) (r : Nat → Nat) (base : Nat) (ro : zH) (v : Option Value) (M : zH) : Array Value → State → Outcome → State → Prop := fun _ st o t => o = .returned (v.map (z_sh (z_ad r base))) ∧ z_Rl G r base ro st.heap M t.heap []
theorem z_blind {G : zG} {r : Nat → Nat} {base : Nat} {ro : zH} {vs : List Value} {M : zH} : FrameBlind (z_Pc G r base ro vs M) := by
  intro a U g mk h
  obtain ⟨h1, h2, h3, h4⟩ := h
  exact ⟨h1, h2.vm rfl, h3.go (Vm.Alike.refl U.vm) (fun _ _ _ => rfl), h4⟩
section ZCL
variable {p : Program} {l : Launch} {e : Env} {R : Room} {s : State} {m : MethodId} {args : Array Value} {below : List Frame} {meth : Method} {c : Code} {H : Heap} {locs : List Loc} {cells slots : Nat} {Q : State → Prop}
variable {G : zG} {r : Nat → Nat} {base : Nat} {ro M M1 : zH} {pc : Nat} {ls : Array Slot} {j : Nat}
/-- what a callee finds at its start -/
theorem z_start (X : z_Cx G p s m args meth c j) (hR : z_R r (z_A base) ro s s.heap) (hRl : z_Rl G r base ro s.heap M H locs) {vs : List Value} : ∀ U : State, U.heap = H → s.WarmedH U.vm → z_Pc G r base ro vs M (vs.map (z_sh (z_ad r base))).toArray U := by
  intro U hU hW
  obtain ⟨-, -, -, -, -, -, hK⟩ := X
  obtain ⟨h1, h2, h3, h4, h5, h6⟩ := hRl
  refine ⟨rfl, hK.warm hW, ?_, ?_⟩
  · rw [hU]
    exact hR.go hW.alike (fun a g1 g2 => h5.2.1 a g1 g2)
  · rw [hU]
    exact ⟨h1, h2, h3, h4, va_S.rf, Nat.le_trans h6 h5.1⟩
/-- behind a call -/
theorem z_back {v : Option Value} {st0 rest : List Value} {a : Array Value} {mc ms : Nat} (hr : va_Run p l e R s m args below meth c H locs cells slots mc ms (F0 m pc ls st0) rest (z_Qc G r base ro v M1 a) (z_A base)) (hRl : z_Rl G r base ro s.heap M H locs)
    (kk : ∀ H1 locs1, z_Rl G r base ro s.heap M1 H1 locs1 → W p l e R s m args below meth c H1 locs1 (cells + mc) (slots + ms) Q (F0 m (pc + 3) ls ((v.map (z_sh (z_ad r base))).toList ++ rest))) : W p l e R s m args below meth c H locs cells slots Q (F0 m pc ls st0) := by
  intro T hT X
  obtain ⟨v', st₀, t, T', L, h0, X', hL, e1, e2, ⟨hv, hl⟩, st⟩ := hr T hT X
  cases hv
  obtain ⟨h1, h2, h3, h4, h5, h6⟩ := hRl
  obtain ⟨g1, g2, g3, g4, g5, g6⟩ := hl
  rw [h0] at g5 g6
  obtain ⟨t2, a1, b1⟩ := kk T'.heap (locs ++ L) (by
    rw [e1]
    refine ⟨g1, g2, g3, g4, ⟨Nat.le_trans h5.1 g5.1, fun q q1 q2 => (g5.2.1 q (Nat.lt_of_lt_of_le q1 h5.1) q2).trans (h5.2.1 q q1 q2), fun q hq => ?_⟩, h6⟩
    rcases List.mem_append.mp hq with h | h
    · exact h5.2.2 q h
    · exact hL q h) T' rfl X'
  exact ⟨t2, st t2 a1, b1⟩
theorem z_okm_use {k : Nat} (h : k < z_nm) : plainName (z_name k).cls = true ∧ z_cn (z_oc k) = (z_name k).cls ∧ z_ml k ≤ 20 ∧ ((z_name k).cls ≠ "java/lang/invoke/MethodHandle" ∧ (z_name k).cls ≠ "java/lang/invoke/VarHandle") := by
  have h1 := z_okm_all k h
  simp only [z_okm, z_fine, Bool.and_eq_true, decide_eq_true_eq] at h1
  exact ⟨h1.1, h1.2.1, h1.2.2.1, h1.2.2.2⟩
theorem z_wsj_good {k : Nat} (h1 : 1 ≤ k) (h2 : k < z_nm) : GoodIn z_tb (z_wsj k) := by
  intro w hw
  rcases List.mem_cons.mp hw with rfl | h
  · exact z_tb_good _ (z_code h1 h2)
  · exact z_tb_good w h
theorem z_stack {n b : Nat} {S : zS} (h : S[n]? = some (.ref b)) (ad : Nat → Nat) : S.map (z_sh ad) = ((S.take n).reverse.map (z_sh ad)).reverse ++ .ref (ad b) :: (S.drop (n + 1)).map (z_sh ad) := by
  have hl : n < S.length := (List.getElem?_eq_some_iff.mp h).1
  have h1 : S = S.take n ++ .ref b :: S.drop (n + 1) := by
    have h2 := List.take_append_drop n S
    rw [List.drop_eq_getElem_cons hl, (List.getElem?_eq_some_iff.mp h).2] at h2
    exact h2.symm
  conv => lhs; rw [h1]
  rw [List.map_append, List.map_cons, List.map_reverse, List.reverse_reverse]
  rfl
theorem z_stackS (n : Nat) (S : zS) (ad : Nat → Nat) : S.map (z_sh ad) = ((S.take n).reverse.map (z_sh ad)).reverse ++ (S.drop n).map (z_sh ad) := by
  rw [List.map_reverse, List.reverse_reverse, ← List.map_append, List.take_append_drop]
end ZCL
