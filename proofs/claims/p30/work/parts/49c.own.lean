/-! a run writes only what it can reach -/
def z_rv (P : Nat → Prop) (v : Value) : Prop := ∀ a, v = .ref a → P a
def z_re (P : Nat → Prop) (e : zE) : Prop := match e with
  | .inl (_, _, .inr (.inr f)) => ∀ i r, f i = some r → P r
  | .inl _ => True
  | .inr (_, fs) => ∀ v, v ∈ fs → z_rv P v
def z_rmm (P : Nat → Prop) (M : zH) : Prop := ∀ c e, M[c]? = some e → P c → z_re P e
def z_ow (P : Nat → Prop) (N : Nat) (M M1 : zH) : Prop := z_rmm P M1 ∧ (∀ c, ¬ P c → M1[c]? = M[c]?) ∧ N ≤ M1.length
def z_qS (P : Nat → Prop) (S : List Value) : Prop := ∀ v, v ∈ S → z_rv P v
def z_pL (P : Nat → Prop) (L : zL) : Prop := ∀ v, some v ∈ L → z_rv P v
theorem z_gs_lt : ∀ x ∈ z_gs, 1 ≤ x.2.1 ∧ x.2.1 < 4 := by decide
section ZOWN
variable {P : Nat → Prop} {N : Nat}
theorem z_rvi {x : Int32} : z_rv P (.int x) := fun a h => by cases h
theorem z_rvl {x : Int64} : z_rv P (.long x) := fun a h => by cases h
theorem z_rvn : z_rv P .null := fun a h => by cases h
theorem z_rvr {a : Nat} (h : P a) : z_rv P (.ref a) := fun b e => by cases e; exact h
theorem z_qc {v : Value} {S : List Value} (h : z_rv P v) (hS : z_qS P S) : z_qS P (v :: S) := fun w hw => by
  rcases List.mem_cons.mp hw with e | e
  · rw [e]
    exact h
  · exact hS w e
theorem z_qt {v : Value} {S : List Value} (hS : z_qS P (v :: S)) : z_qS P S := fun w hw => hS w (List.mem_cons.mpr (Or.inr hw))
theorem z_qh {v : Value} {S : List Value} (hS : z_qS P (v :: S)) : z_rv P v := hS v (List.mem_cons.mpr (Or.inl rfl))
theorem z_qa {a : Nat} {S : List Value} (hS : z_qS P (.ref a :: S)) : P a := z_qh hS a rfl
theorem z_qi {x : Int32} {S : List Value} (hS : z_qS P S) : z_qS P (.int x :: S) := z_qc z_rvi hS
theorem z_ql {x : Int64} {S : List Value} (hS : z_qS P S) : z_qS P (.long x :: S) := z_qc z_rvl hS
theorem z_qn {S : List Value} (hS : z_qS P S) : z_qS P (.null :: S) := z_qc z_rvn hS
theorem z_qg {L : zL} {k : Nat} {v : Value} (hL : z_pL P L) (h : z_get L k = some v) : z_rv P v := by
  unfold z_get at h
  cases e : L[k]? with
  | none => rw [e] at h; cases h
  | some o =>
    rw [e] at h
    have h2 : o = some v := h
    rw [h2] at e
    exact hL v (List.mem_of_getElem? e)
theorem z_qset {L : zL} {i : Nat} {o : Option Value} (hL : z_pL P L) (h : ∀ v, o = some v → z_rv P v) : z_pL P (L.set i o) := fun v hv => by
  rcases List.mem_or_eq_of_mem_set hv with e | e
  · exact hL v e
  · exact h v e.symm
theorem z_qp1 {L : zL} {i : Nat} {v : Value} (hL : z_pL P L) (h : z_rv P v) : z_pL P (z_p1 L i v) := by
  have hv : ∀ w, some v = some w → z_rv P w := fun w e => by cases e; exact h
  unfold z_p1
  split
  · exact z_qset hL hv
  · split
    · exact z_qset (z_qset hL hv) fun w e => by cases e
    · exact z_qset hL hv
theorem z_qp2 {L : zL} {i : Nat} {v : Value} (hL : z_pL P L) (h : z_rv P v) : z_pL P (z_p2 L i v) := by
  unfold z_p2
  exact z_qset (z_qp1 hL h) fun w e => by cases e
theorem z_s1_own {i : Instr} {pc pc1 : Nat} {L L1 : zL} {S S1 : zS} (h : z_s1 i pc L S = some (pc1, L1, S1)) (hL : z_pL P L) (hS : z_qS P S) : z_pL P L1 ∧ z_qS P S1 := by
  revert hS
  cases i
  all_goals dsimp only [z_s1] at h
  all_goals try (cases h; done)
  all_goals repeat' split at h
  all_goals try (cases h; done)
  all_goals cases h
  all_goals intro hS
  all_goals first
    | exact ⟨hL, hS⟩
    | exact ⟨hL, z_qi hS⟩
    | exact ⟨hL, z_ql hS⟩
    | exact ⟨hL, z_qn hS⟩
    | exact ⟨hL, z_qc (z_qg hL (by assumption)) hS⟩
    | exact ⟨z_qp1 hL (z_qh hS), z_qt hS⟩
    | exact ⟨z_qp2 hL (z_qh hS), z_qt hS⟩
    | exact ⟨z_qp1 hL z_rvi, hS⟩
    | exact ⟨hL, z_qi (z_qt (z_qt hS))⟩
    | exact ⟨hL, z_ql (z_qt (z_qt hS))⟩
    | exact ⟨hL, z_qi (z_qt hS)⟩
    | exact ⟨hL, z_ql (z_qt hS)⟩
    | exact ⟨hL, z_qt (z_qt hS)⟩
    | exact ⟨hL, z_qt hS⟩
    | exact ⟨hL, z_qc (z_qh hS) hS⟩
    | exact ⟨hL, z_qc (z_qh hS) (z_qc (z_qh (z_qt hS)) (z_qc (z_qh hS) (z_qt (z_qt hS))))⟩
    | exact ⟨hL, z_qc (z_qh hS) (z_qc (z_qh (z_qt hS)) (z_qc (z_qh (z_qt (z_qt hS))) (z_qc (z_qh hS) (z_qt (z_qt (z_qt hS))))))⟩
    | exact ⟨hL, z_qc (z_qh hS) (z_qc (z_qh (z_qt hS)) hS)⟩
theorem z_ow.same {M : zH} (hN : N ≤ M.length) (hM : z_rmm P M) : z_ow P N M M := ⟨hM, fun _ _ => rfl, hN⟩
theorem z_ow.trans {M M1 M2 : zH} (h : z_ow P N M M1) (h2 : z_ow P N M1 M2) : z_ow P N M M2 := ⟨h2.1, fun c hc => (h2.2.1 c hc).trans (h.2.1 c hc), h2.2.2⟩
theorem z_ow.put {M : zH} {a : Nat} {e : zE} (hN : N ≤ M.length) (hM : z_rmm P M) (ha : P a) (he : z_re P e) : z_ow P N M (M.set a e) := by
  refine ⟨fun c x hx hc => ?_, fun c hc => ?_, by rw [List.length_set]; exact hN⟩
  · rw [List.getElem?_set] at hx
    split at hx
    · split at hx
      · cases hx
        exact he
      · cases hx
    · exact hM c x hx hc
  · by_cases e1 : a = c
    · rw [e1] at ha
      exact absurd ha hc
    · exact List.getElem?_set_ne e1
theorem z_ow.push {M : zH} {e : zE} (hP : ∀ a, N ≤ a → P a) (hN : N ≤ M.length) (hM : z_rmm P M) (he : z_re P e) : z_ow P N M (M ++ [e]) := by
  refine ⟨fun c x hx hc => ?_, fun c hc => ?_, by rw [List.length_append]; omega⟩
  · by_cases h : c < M.length
    · rw [List.getElem?_append_left h] at hx
      exact hM c x hx hc
    · rw [List.getElem?_append_right (by omega)] at hx
      have h2 : x ∈ [e] := List.mem_of_getElem? hx
      rw [List.mem_singleton.mp h2]
      exact he
  · have h : c < M.length := by
      by_cases h : c < M.length
      · exact h
      · exact absurd (hP c (by omega)) hc
    exact List.getElem?_append_left h
theorem z_re_set {ci k : Nat} {fs : List Value} {v : Value} (h : z_re P (.inr (ci, fs))) (hv : z_rv P v) : z_re P (.inr (ci, fs.set k v)) := fun w hw => by
  rcases List.mem_or_eq_of_mem_set hw with e | e
  · exact h w e
  · rw [e]
    exact hv
theorem z_re_blank (ci : Nat) : z_re P (.inr (ci, z_blank ci)) := fun v hv => by
  unfold z_blank at hv
  obtain ⟨k, _, e⟩ := List.mem_map.mp hv
  rw [← e]
  generalize z_fty ci k = t
  cases t <;> first | exact z_rvi | exact z_rvl | exact z_rvn
theorem z_s2_own {c : Nat} {b : Bool} {i : Instr} {pc pc1 : Nat} {S S1 : zS} {M M1 : zH} (h : z_s2 c b i pc S M = some (pc1, S1, M1)) (hP : ∀ a, N ≤ a → P a) (hP4 : ∀ a, 1 ≤ a ∧ a < 4 → P a) (hN : N ≤ M.length) (hM : z_rmm P M) (hS : z_qS P S) : z_qS P S1 ∧ z_ow P N M M1 := by
  have o := z_ow.same hN hM
  have same : ∀ {pc2 : Nat} {S2 : zS}, z_qS P S2 → some (pc2, S2, M) = some (pc1, S1, M1) → z_qS P S1 ∧ z_ow P N M M1 := by
    intro pc2 S2 h1 h
    cases h
    exact ⟨h1, o⟩
  have put : ∀ {pc2 : Nat} {S2 : zS} {a : Nat} {e1 : zE}, P a → z_re P e1 → z_qS P S2 → some (pc2, S2, M.set a e1) = some (pc1, S1, M1) → z_qS P S1 ∧ z_ow P N M M1 := by
    intro pc2 S2 a e1 ha he h1 h
    cases h
    exact ⟨h1, z_ow.put hN hM ha he⟩
  have more : ∀ {pc2 : Nat} {S2 : zS} {e1 : zE}, z_re P e1 → z_qS P S2 → some (pc2, .ref M.length :: S2, M ++ [e1]) = some (pc1, S1, M1) → z_qS P S1 ∧ z_ow P N M M1 := by
    intro pc2 S2 e1 he h1 h
    cases h
    exact ⟨z_qc (z_rvr (hP _ hN)) h1, z_ow.push hP hN hM he⟩
  revert hS
  cases i
  case ldc k => obtain ⟨q, hq, h⟩ := Option.map_eq_some_iff.mp h; exact fun hS => same (z_qi hS) (congrArg some h)
  case ldc_w k => obtain ⟨q, hq, h⟩ := Option.map_eq_some_iff.mp h; exact fun hS => same (z_qi hS) (congrArg some h)
  case ldc2_w k => obtain ⟨q, hq, h⟩ := Option.map_eq_some_iff.mp h; exact fun hS => same (z_ql hS) (congrArg some h)
  case getstatic k => obtain ⟨q, hq, h⟩ := Option.map_eq_some_iff.mp h; exact fun hS => same (z_qc (z_rvr (hP4 _ (z_gs_lt _ (z_find_mem hq)))) hS) (congrArg some h)
  case new k => obtain ⟨q, hq, h⟩ := Option.map_eq_some_iff.mp h; exact fun hS => more (z_re_blank _) hS (congrArg some h)
  all_goals dsimp only [z_s2] at h
  all_goals try (cases h; done)
  case getfield k =>
    split at h
    · split at h
      · rename_i hE hq
        split at h
        · obtain ⟨v, hv, h⟩ := Option.map_eq_some_iff.mp h
          exact fun hS => same (z_qc (hM _ _ hE (z_qa hS) v (List.mem_of_getElem? hv)) (z_qt hS)) (congrArg some h)
        · cases h
      · cases h
    · cases h
  case putfield k =>
    split at h
    · split at h
      · rename_i hE hq
        split at h
        · exact fun hS => put (z_qa (z_qt hS)) (z_re_set (hM _ _ hE (z_qa (z_qt hS))) (z_qh hS)) (z_qt (z_qt hS)) h
        · cases h
      · cases h
    · cases h
  case newarray t =>
    split at h
    · split at h
      · cases h
      · split at h
        · exact fun hS => more (by exact trivial) (z_qt hS) h
        · exact fun hS => more (by exact trivial) (z_qt hS) h
        · cases h
    · cases h
  case anewarray k =>
    split at h
    · split at h
      · cases h
      · obtain ⟨q, hq, h⟩ := Option.map_eq_some_iff.mp h
        exact fun hS => more (by exact fun i r e => by cases e) (z_qt hS) (congrArg some h)
    · cases h
  case arraylength =>
    split at h
    · split at h
      · exact fun hS => same (z_qi (z_qt hS)) h
      · cases h
    · cases h
  case iaload =>
    split at h
    · split at h
      · split at h
        · cases h
        · exact fun hS => same (z_qi (z_qt (z_qt hS))) h
      · cases h
    · cases h
  case laload =>
    split at h
    · split at h
      · split at h
        · cases h
        · exact fun hS => same (z_ql (z_qt (z_qt hS))) h
      · cases h
    · cases h
  case aaload =>
    split at h
    · split at h
      · rename_i hE
        split at h
        · cases h
        · refine fun hS => same (z_qc ?_ (z_qt (z_qt hS))) h
          intro r hr
          have hf := hM _ _ hE (z_qa (z_qt hS))
          have key : ∀ o : Option Nat, va_rf o = .ref r → o = some r := fun o h => by
            unfold va_rf at h
            split at h <;> cases h <;> rfl
          exact hf _ r (key _ hr)
      · cases h
    · cases h
  case iastore =>
    split at h
    · split at h
      · split at h
        · cases h
        · exact fun hS => put (z_qa (z_qt (z_qt hS))) (by exact trivial) (z_qt (z_qt (z_qt hS))) h
      · cases h
    · cases h
  case lastore =>
    split at h
    · split at h
      · split at h
        · cases h
        · exact fun hS => put (z_qa (z_qt (z_qt hS))) (by exact trivial) (z_qt (z_qt (z_qt hS))) h
      · cases h
    · cases h
  case aastore =>
    split at h
    · split at h
      · rename_i hE
        split at h
        · cases h
        · refine fun hS => put (z_qa (z_qt (z_qt hS))) ?_ (z_qt (z_qt (z_qt hS))) h
          have hf := hM _ _ hE (z_qa (z_qt (z_qt hS)))
          intro j r hr
          dsimp only [z_updR] at hr
          split at hr
          · cases hr
          · exact hf j r hr
      · cases h
    · split at h
      · rename_i hE hV
        split at h
        · cases h
        · refine fun hS => put (z_qa (z_qt (z_qt hS))) ?_ (z_qt (z_qt (z_qt hS))) h
          have hf := hM _ _ hE (z_qa (z_qt (z_qt hS)))
          intro j r hr
          dsimp only [z_updR] at hr
          split at hr
          · cases hr
            exact z_qa hS
          · exact hf j r hr
      · cases h
    · cases h
theorem z_s3_own {c : Nat} {i : Instr} {pc pc1 : Nat} {S S1 : zS} {M M1 : zH} (h : z_s3 c i pc S M = some (pc1, S1, M1)) (hS : z_qS P S) : z_qS P S1 := by
  revert hS
  cases i
  case invokespecial k =>
    dsimp only [z_s3] at h
    split at h
    · split at h
      · cases h
        exact fun hS => z_qt hS
      · cases h
    · cases h
  case invokestatic k =>
    dsimp only [z_s3] at h
    split at h
    · split at h
      · split at h
        · cases h
          exact fun hS => z_qi (z_qt (z_qt hS))
        · cases h
      · cases h
    · split at h
      · split at h
        · cases h
          exact fun hS => z_qi (z_qt (z_qt hS))
        · cases h
      · cases h
    · cases h
  all_goals cases h
theorem z_s4_own {c : Nat} {i : Instr} {pc pc1 : Nat} {S S1 : zS} {M M1 : zH} (h : z_s4 c i pc S M = some (pc1, S1, M1)) (hN : N ≤ M.length) (hM : z_rmm P M) (hS : z_qS P S) : z_qS P S1 ∧ z_ow P N M M1 := by
  cases i
  case invokestatic k =>
    dsimp only [z_s4] at h
    split at h
    · split at h
      · rename_i hc
        split at h
        · cases h
          revert hS
          unfold z_copy at hc
          split at hc
          · split at hc
            · split at hc
              · cases hc
              · cases hc
                exact fun hS => ⟨z_qt (z_qt (z_qt (z_qt (z_qt hS)))), z_ow.put hN hM (z_qa (z_qt (z_qt hS))) trivial⟩
            · cases hc
          · cases hc
        · cases h
      · cases h
    · cases h
  all_goals cases h
theorem z_st_own {j : Nat} {i : Instr} {pc pc1 : Nat} {L L1 : zL} {S S1 : zS} {M M1 : zH} (h : z_st j i pc L S M = some (pc1, L1, S1, M1)) (hP : ∀ a, N ≤ a → P a) (hP4 : ∀ a, 1 ≤ a ∧ a < 4 → P a) (hN : N ≤ M.length) (hM : z_rmm P M) (hL : z_pL P L) (hS : z_qS P S) : (z_pL P L1 ∧ z_qS P S1) ∧ z_ow P N M M1 := by
  unfold z_st at h
  split at h
  · rename_i h1
    cases h
    exact ⟨z_s1_own h1 hL hS, z_ow.same hN hM⟩
  · split at h
    · rename_i h2
      cases h
      have h3 := z_s2_own h2 hP hP4 hN hM hS
      exact ⟨⟨hL, h3.1⟩, h3.2⟩
    · split at h
      · rename_i h3
        cases h
        have e := z_s3_same h3
        subst e
        exact ⟨⟨hL, z_s3_own h3 hS⟩, z_ow.same hN hM⟩
      · split at h
        · rename_i h4
          cases h
          have h5 := z_s4_own h4 hN hM hS
          exact ⟨⟨hL, h5.1⟩, h5.2⟩
        · cases h
theorem z_qtake {S : List Value} {n : Nat} (hS : z_qS P S) : z_qS P (S.take n).reverse := fun v hv => hS v (List.mem_of_mem_take (List.mem_reverse.mp hv))
theorem z_qdrop {S : List Value} {n : Nat} (hS : z_qS P S) : z_qS P (S.drop n) := fun v hv => hS v (List.mem_of_mem_drop hv)
theorem z_call_own {c : Nat} {i : Instr} {S r : zS} {M : zH} {kd k : Nat} {vs : List Value} (h : z_call c i S M = some (kd, k, vs, r)) (hS : z_qS P S) : z_qS P vs ∧ z_qS P r := by
  cases i
  case invokestatic k =>
    dsimp only [z_call] at h
    split at h
    · split at h
      · split at h
        · cases h
          exact ⟨z_qtake hS, z_qdrop hS⟩
        · cases h
      · cases h
    · cases h
  case invokevirtual k =>
    dsimp only [z_call] at h
    split at h
    · split at h
      · rename_i hb
        split at h
        · split at h
          · obtain ⟨t, ht, h⟩ := Option.map_eq_some_iff.mp h
            cases h
            exact ⟨z_qc (hS _ (List.mem_of_getElem? hb)) (z_qtake hS), z_qdrop hS⟩
          · cases h
        · cases h
      · cases h
    · cases h
  case invokespecial k =>
    dsimp only [z_call] at h
    split at h
    · split at h
      · split at h
        · split at h
          · cases h
            exact ⟨z_qc (hS _ (List.mem_of_getElem? (by assumption))) (z_qtake hS), z_qdrop hS⟩
          · cases h
        · cases h
      · cases h
    · cases h
  all_goals cases h
theorem z_qent {vs : List Value} {n : Nat} (h : z_qS P vs) : z_pL P (z_ent vs n) := fun v hv => by
  unfold z_ent at hv
  rcases List.mem_append.mp hv with e | e
  · obtain ⟨w, h1, h2⟩ := List.mem_flatMap.mp e
    split at h2
    · rcases List.mem_cons.mp h2 with e1 | e1
      · cases e1
        exact h v h1
      · rcases List.mem_cons.mp e1 with e2 | e2
        · cases e2
        · cases e2
    · rcases List.mem_cons.mp h2 with e1 | e1
      · cases e1
        exact h v h1
      · cases e1
  · exact absurd (List.eq_of_mem_replicate e) (by intro e2; cases e2)
theorem z_qend {j : Nat} {i : Instr} {S : zS} {v : Option Value} (h : z_end j i S = some v) (hS : z_qS P S) : z_qS P v.toList := by
  revert hS
  unfold z_end at h
  split at h
  · cases h
    exact fun _ w hw => by cases hw
  · cases h
    exact fun hS => hS
  · split at h
    · cases h
      exact fun hS => hS
    · cases h
  · cases h
    exact fun hS => hS
  · cases h
    exact fun hS => hS
  · cases h
    exact fun hS => hS
  · cases h
theorem z_qapp {S S2 : List Value} (h : z_qS P S) (h2 : z_qS P S2) : z_qS P (S ++ S2) := fun v hv => (List.mem_append.mp hv).elim (h v) (h2 v)
theorem z_run_own (hP : ∀ a, N ≤ a → P a) (hP4 : ∀ a, 1 ≤ a ∧ a < 4 → P a) : ∀ (n d j pc : Nat) (L : zL) (S : zS) (M M1 : zH) (v : Option Value), z_run n d j pc L S M = some (v, M1) → N ≤ M.length → z_rmm P M → z_pL P L → z_qS P S → z_qS P v.toList ∧ z_ow P N M M1
  | 0, d, j, pc, L, S, M, M1, v, h, hN, hM, hL, hS => by cases h
  | n + 1, d, j, pc, L, S, M, M1, v, h, hN, hM, hL, hS => by
    unfold z_run at h
    split at h
    · cases h
    · split at h
      · split at h
        · rename_i he
          cases h
          exact ⟨z_qend he hS, z_ow.same hN hM⟩
        · split at h
          · rename_i h1
            have g := z_st_own h1 hP hP4 hN hM hL hS
            have g2 := z_run_own hP hP4 n _ _ _ _ _ _ _ _ h g.2.2.2 g.2.1 g.1.1 g.1.2
            exact ⟨g2.1, g.2.trans g2.2⟩
          · split at h
            · rename_i hc
              split at h
              · split at h
                · rename_i h1
                  have c := z_call_own hc hS
                  have g := z_run_own hP hP4 n _ _ _ _ _ _ _ _ h1 hN hM (z_qent c.1) (fun w hw => by cases hw)
                  have g2 := z_run_own hP hP4 n _ _ _ _ _ _ _ _ h g.2.2.2 g.2.1 hL (z_qapp g.1 c.2)
                  exact ⟨g2.1, g.2.trans g2.2⟩
                · cases h
              · cases h
            · cases h
      · cases h
end ZOWN
/-- a call writes only what it can reach: P holds of what is reached and of all new cells -/
theorem z_ev.own {d j pc : Nat} {L : zL} {S : zS} {M : zH} {K : Option Value → zH → Prop} (P : Nat → Prop) (hP : ∀ a, M.length ≤ a → P a) (hP4 : ∀ a, 1 ≤ a ∧ a < 4 → P a) (hM : z_rmm P M) (hL : z_pL P L) (hS : z_qS P S) (h : z_ev d j pc L S M fun v M1 => (∀ c, ¬ P c → M1[c]? = M[c]?) → K v M1) : z_ev d j pc L S M K := by
  obtain ⟨n, v, M1, h1, h2⟩ := h
  exact ⟨n, v, M1, h1, h2 (z_run_own hP hP4 _ _ _ _ _ _ _ _ _ h1 (Nat.le_refl _) hM hL hS).2.2.1⟩
/-! methods of the tape and of the agenda make no bench -/
def z_inC (c : Nat) : Bool := c == 1 || c == 2 || c == 14 || c == 15 || c == 16
theorem z_inS : ∀ x ∈ z_cS, z_inC x.1.1 = true → ∀ t ∈ x.2.1.2.2, z_inC (z_oc t.2) = true := by decide +kernel
theorem z_inV : ∀ x ∈ z_cV, z_inC x.1.1 = true → ∀ t ∈ x.2.1.2.2, z_inC (z_oc t.2) = true := by decide +kernel
theorem z_inI : ∀ x ∈ z_cI, z_inC x.1.1 = true → ∀ t ∈ x.2.1.2.2, z_inC (z_oc t.2) = true := by decide +kernel
theorem z_inN : ∀ x ∈ z_nw, z_inC x.1.1 = true → x.2.1 ≠ 3 := by decide +kernel
/-- every bench was there before -/
def z_nob (M M1 : zH) : Prop := ∀ (b : Nat) (fs : List Value), M1[b]? = some (.inr (3, fs)) → ∃ fs0, M[b]? = some (.inr (3, fs0))
theorem z_nob.refl (M : zH) : z_nob M M := fun _ fs h => ⟨fs, h⟩
theorem z_nob.trans {M M1 M2 : zH} (h : z_nob M M1) (h2 : z_nob M1 M2) : z_nob M M2 := fun b fs h3 => by
  obtain ⟨fs1, h4⟩ := h2 b fs h3
  exact h b fs1 h4
theorem z_nob.set {M : zH} {a : Nat} {e : zE} (h : ∀ fs, e = .inr (3, fs) → ∃ fs0, M[a]? = some (.inr (3, fs0))) : z_nob M (M.set a e) := fun b fs h2 => by
  rw [List.getElem?_set] at h2
  split at h2
  · rename_i hb
    split at h2
    · cases h2
      rw [← hb]
      exact h fs rfl
    · cases h2
  · exact ⟨fs, h2⟩
theorem z_nob.push {M : zH} {e : zE} (h : ∀ fs, e ≠ .inr (3, fs)) : z_nob M (M ++ [e]) := fun b fs h2 => by
  by_cases c : b < M.length
  · rw [List.getElem?_append_left c] at h2
    exact ⟨fs, h2⟩
  · rw [List.getElem?_append_right (by omega)] at h2
    have h3 : (.inr (3, fs) : zE) ∈ [e] := List.mem_of_getElem? h2
    exact absurd (List.mem_singleton.mp h3).symm (h fs)
theorem z_s2_nob {c : Nat} {b : Bool} {i : Instr} {pc pc1 : Nat} {S S1 : zS} {M M1 : zH} (h : z_s2 c b i pc S M = some (pc1, S1, M1)) (hc : z_inC c = true) : z_nob M M1 := by
  have same : ∀ {pc2 : Nat} {S2 : zS}, some (pc2, S2, M) = some (pc1, S1, M1) → z_nob M M1 := by
    intro pc2 S2 h
    cases h
    exact .refl M
  have put : ∀ {pc2 : Nat} {S2 : zS} {a : Nat} {e1 : zE}, (∀ fs, e1 = .inr (3, fs) → ∃ fs0, M[a]? = some (.inr (3, fs0))) → some (pc2, S2, M.set a e1) = some (pc1, S1, M1) → z_nob M M1 := by
    intro pc2 S2 a e1 h1 h
    cases h
    exact .set h1
  have more : ∀ {pc2 : Nat} {S2 : zS} {e1 : zE}, (∀ fs, e1 ≠ .inr (3, fs)) → some (pc2, S2, M ++ [e1]) = some (pc1, S1, M1) → z_nob M M1 := by
    intro pc2 S2 e1 h1 h
    cases h
    exact .push h1
  cases i
  case ldc k => obtain ⟨q, hq, h⟩ := Option.map_eq_some_iff.mp h; exact same (congrArg some h)
  case ldc_w k => obtain ⟨q, hq, h⟩ := Option.map_eq_some_iff.mp h; exact same (congrArg some h)
  case ldc2_w k => obtain ⟨q, hq, h⟩ := Option.map_eq_some_iff.mp h; exact same (congrArg some h)
  case getstatic k => obtain ⟨q, hq, h⟩ := Option.map_eq_some_iff.mp h; exact same (congrArg some h)
  case new k => obtain ⟨q, hq, h⟩ := Option.map_eq_some_iff.mp h; exact more (fun fs e => z_inN _ (z_find_mem hq) hc (Prod.mk.inj (Sum.inr.inj e)).1) (congrArg some h)
  all_goals dsimp only [z_s2] at h
  all_goals try (cases h; done)
  case getfield k =>
    split at h
    · split at h
      · split at h
        · obtain ⟨v, hv, h⟩ := Option.map_eq_some_iff.mp h
          exact same (congrArg some h)
        · cases h
      · cases h
    · cases h
  case putfield k =>
    split at h
    · split at h
      · rename_i hM hq
        split at h
        · exact put (fun fs e => by cases e; exact ⟨_, hM⟩) h
        · cases h
      · cases h
    · cases h
  case newarray t =>
    split at h
    · split at h
      · cases h
      · split at h
        · exact more (fun fs e => by cases e) h
        · exact more (fun fs e => by cases e) h
        · cases h
    · cases h
  case anewarray k =>
    split at h
    · split at h
      · cases h
      · obtain ⟨q, hq, h⟩ := Option.map_eq_some_iff.mp h
        exact more (fun fs e => by cases e) (congrArg some h)
    · cases h
  case arraylength =>
    split at h
    · split at h
      · exact same h
      · cases h
    · cases h
  case iaload =>
    split at h
    · split at h
      · split at h
        · cases h
        · exact same h
      · cases h
    · cases h
  case laload =>
    split at h
    · split at h
      · split at h
        · cases h
        · exact same h
      · cases h
    · cases h
  case aaload =>
    split at h
    · split at h
      · split at h
        · cases h
        · exact same h
      · cases h
    · cases h
  case iastore =>
    split at h
    · split at h
      · split at h
        · cases h
        · exact put (fun fs e => by cases e) h
      · cases h
    · cases h
  case lastore =>
    split at h
    · split at h
      · split at h
        · cases h
        · exact put (fun fs e => by cases e) h
      · cases h
    · cases h
  case aastore =>
    split at h
    · split at h
      · split at h
        · cases h
        · exact put (fun fs e => by cases e) h
      · cases h
    · split at h
      · split at h
        · cases h
        · exact put (fun fs e => by cases e) h
      · cases h
    · cases h
theorem z_s4_nob {c : Nat} {i : Instr} {pc pc1 : Nat} {S S1 : zS} {M M1 : zH} (h : z_s4 c i pc S M = some (pc1, S1, M1)) : z_nob M M1 := by
  cases i
  case invokestatic k =>
    dsimp only [z_s4] at h
    split at h
    · split at h
      · rename_i hc
        split at h
        · cases h
          unfold z_copy at hc
          split at hc
          · split at hc
            · split at hc
              · cases hc
              · cases hc
                exact .set (fun fs e => by cases e)
            · cases hc
          · cases hc
        · cases h
      · cases h
    · cases h
  all_goals cases h
theorem z_st_nob {j : Nat} {i : Instr} {pc pc1 : Nat} {L L1 : zL} {S S1 : zS} {M M1 : zH} (h : z_st j i pc L S M = some (pc1, L1, S1, M1)) (hc : z_inC (z_oc j) = true) : z_nob M M1 := by
  unfold z_st at h
  split at h
  · cases h; exact .refl M
  · split at h
    · rename_i h2
      cases h
      exact z_s2_nob h2 hc
    · split at h
      · rename_i h3
        cases h
        rw [z_s3_same h3]
        exact .refl _
      · split at h
        · rename_i h4
          cases h
          exact z_s4_nob h4
        · cases h
theorem z_call_in {c : Nat} {i : Instr} {S r : zS} {M : zH} {kd k : Nat} {vs : List Value} (h : z_call c i S M = some (kd, k, vs, r)) (hc : z_inC c = true) : z_inC (z_oc k) = true := by
  cases i
  case invokestatic k =>
    dsimp only [z_call] at h
    split at h
    · rename_i hq
      have h1 := z_inS _ (z_find_mem hq) hc
      split at h
      · split at h
        · cases h
          exact h1 _ (List.mem_singleton.mpr rfl)
        · cases h
      · cases h
    · cases h
  case invokevirtual k =>
    dsimp only [z_call] at h
    split at h
    · rename_i hq
      have h1 := z_inV _ (z_find_mem hq) hc
      split at h
      · split at h
        · split at h
          · obtain ⟨t, ht, h⟩ := Option.map_eq_some_iff.mp h
            cases h
            exact h1 t (List.mem_of_find?_eq_some ht)
          · cases h
        · cases h
      · cases h
    · cases h
  case invokespecial k =>
    dsimp only [z_call] at h
    split at h
    · rename_i hq
      have h1 := z_inI _ (z_find_mem hq) hc
      split at h
      · split at h
        · split at h
          · cases h
            exact h1 _ (List.mem_singleton.mpr rfl)
          · cases h
        · cases h
      · cases h
    · cases h
  all_goals cases h
theorem z_run_nob : ∀ (n d j pc : Nat) (L : zL) (S : zS) (M M1 : zH) (v : Option Value), z_run n d j pc L S M = some (v, M1) → z_inC (z_oc j) = true → z_nob M M1
  | 0, d, j, pc, L, S, M, M1, v, h, hc => by cases h
  | n + 1, d, j, pc, L, S, M, M1, v, h, hc => by
    unfold z_run at h
    split at h
    · cases h
    · split at h
      · split at h
        · cases h; exact .refl M
        · split at h
          · rename_i h1
            exact (z_st_nob h1 hc).trans (z_run_nob n _ _ _ _ _ _ _ _ h hc)
          · split at h
            · rename_i hk
              split at h
              · split at h
                · rename_i h1
                  exact (z_run_nob n _ _ _ _ _ _ _ _ h1 (z_call_in hk hc)).trans (z_run_nob n _ _ _ _ _ _ _ _ h hc)
                · cases h
              · cases h
            · cases h
      · cases h
theorem z_ev.nob {d j pc : Nat} {L : zL} {S : zS} {M : zH} {K : Option Value → zH → Prop} (hc : z_inC (z_oc j) = true) (h : z_ev d j pc L S M fun v M1 => z_nob M M1 → K v M1) : z_ev d j pc L S M K := by
  obtain ⟨n, v, M1, h1, h2⟩ := h
  exact ⟨n, v, M1, h1, h2 (z_run_nob _ _ _ _ _ _ _ _ _ h1 hc)⟩
