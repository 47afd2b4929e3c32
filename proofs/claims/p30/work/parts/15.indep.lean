/-! a run that never looks at cell 0 doesn't depend on it -/
def z_hole : zE := .inr (99, [])
theorem z_h0 {M : zH} {a : Nat} {e : zE} {o : Option zE} (ha : a ≠ 0) (h : M[a]? = o) : (M.set 0 e)[a]? = o := by rw [List.getElem?_set_ne (Ne.symm ha)]; exact h
theorem z_hs {M : zH} {a : Nat} {e x : zE} (ha : a ≠ 0) : (M.set 0 e).set a x = (M.set a x).set 0 e := List.set_comm _ _ (Ne.symm ha)
theorem z_hl {M : zH} {a t n : Nat} {f} (h0 : M[0]? = some z_hole) (h : M[a]? = some (.inl (t, n, f))) : a ≠ 0 := by
  rintro rfl
  rw [h0] at h
  cases h
theorem z_hp {M : zH} {e x : zE} (h0 : M[0]? = some z_hole) : M.set 0 e ++ [x] = (M ++ [x]).set 0 e := by
  have hl : 0 < M.length := (List.getElem?_eq_some_iff.mp h0).1
  rw [List.set_append_left _ _ hl]
theorem z_hp0 {M : zH} {x : zE} (h0 : M[0]? = some z_hole) : (M ++ [x])[0]? = some z_hole := by
  rw [List.getElem?_append_left (List.getElem?_eq_some_iff.mp h0).1]
  exact h0
theorem z_s2_ind {c : Nat} {b : Bool} {i : Instr} {pc pc1 : Nat} {S S1 : zS} {M M1 : zH} {e : zE} (h0 : M[0]? = some z_hole) (h : z_s2 c b i pc S M = some (pc1, S1, M1)) : z_s2 c b i pc S (M.set 0 e) = some (pc1, S1, M1.set 0 e) ∧ M1[0]? = some z_hole := by
  have more : ∀ {q : Nat} {x : zE}, M.length = q → (M.set 0 e).length = q := fun hq => by rw [List.length_set]; exact hq
  cases i
  case ldc k => obtain ⟨q, hq, h⟩ := Option.map_eq_some_iff.mp h; cases h; exact ⟨by simp only [z_s2, hq]; rfl, h0⟩
  case ldc_w k => obtain ⟨q, hq, h⟩ := Option.map_eq_some_iff.mp h; cases h; exact ⟨by simp only [z_s2, hq]; rfl, h0⟩
  case ldc2_w k => obtain ⟨q, hq, h⟩ := Option.map_eq_some_iff.mp h; cases h; exact ⟨by simp only [z_s2, hq]; rfl, h0⟩
  case getstatic k => obtain ⟨q, hq, h⟩ := Option.map_eq_some_iff.mp h; cases h; exact ⟨by simp only [z_s2, hq]; rfl, h0⟩
  case new k => obtain ⟨q, hq, h⟩ := Option.map_eq_some_iff.mp h; cases h; exact ⟨by simp only [z_s2, hq, List.length_set, z_hp h0]; rfl, z_hp0 h0⟩
  all_goals dsimp only [z_s2] at h
  all_goals try (cases h; done)
  case getfield k =>
    split at h
    · split at h
      · rename_i hM hq
        split at h
        · rename_i hc
          obtain ⟨v, hv, h⟩ := Option.map_eq_some_iff.mp h
          cases h
          have ha : ∀ {a : Nat}, 4 ≤ a → a ≠ 0 := fun h => by omega
          refine ⟨?_, h0⟩
          simp only [z_s2, z_h0 (ha hc.2) hM, hq]
          rw [if_pos hc, hv]
          rfl
        · cases h
      · cases h
    · cases h
  case putfield k =>
    split at h
    · split at h
      · rename_i hM hq
        split at h
        · rename_i hc
          cases h
          have ha : ∀ {a : Nat}, 4 ≤ a → a ≠ 0 := fun h => by omega
          refine ⟨?_, by rw [List.getElem?_set_ne (ha hc.2.1)]; exact h0⟩
          simp only [z_s2, z_h0 (ha hc.2.1) hM, hq]
          rw [if_pos hc, z_hs (ha hc.2.1)]
        · cases h
      · cases h
    · cases h
  case newarray t =>
    split at h
    · split at h
      · cases h
      · rename_i hn
        split at h
        · cases h
          refine ⟨?_, z_hp0 h0⟩
          simp only [z_s2]
          rw [if_neg hn, List.length_set, z_hp h0]
        · cases h
          refine ⟨?_, z_hp0 h0⟩
          simp only [z_s2]
          rw [if_neg hn, List.length_set, z_hp h0]
        · cases h
    · cases h
  case anewarray k =>
    split at h
    · split at h
      · cases h
      · rename_i hn
        obtain ⟨q, hq, h⟩ := Option.map_eq_some_iff.mp h
        cases h
        refine ⟨?_, z_hp0 h0⟩
        simp only [z_s2]
        rw [if_neg hn, hq]
        simp only [Option.map_some, List.length_set, z_hp h0]
    · cases h
  case arraylength =>
    split at h
    · split at h
      · rename_i hM
        cases h
        exact ⟨by simp only [z_s2, z_h0 (z_hl h0 hM) hM], h0⟩
      · cases h
    · cases h
  case iaload =>
    split at h
    · split at h
      · rename_i hM
        split at h
        · cases h
        · rename_i hi
          cases h
          refine ⟨?_, h0⟩
          simp only [z_s2, z_h0 (z_hl h0 hM) hM]
          rw [if_neg hi]
      · cases h
    · cases h
  case laload =>
    split at h
    · split at h
      · rename_i hM
        split at h
        · cases h
        · rename_i hi
          cases h
          refine ⟨?_, h0⟩
          simp only [z_s2, z_h0 (z_hl h0 hM) hM]
          rw [if_neg hi]
      · cases h
    · cases h
  case aaload =>
    split at h
    · split at h
      · rename_i hM
        split at h
        · cases h
        · rename_i hi
          cases h
          refine ⟨?_, h0⟩
          simp only [z_s2, z_h0 (z_hl h0 hM) hM]
          rw [if_neg hi]
      · cases h
    · cases h
  case iastore =>
    split at h
    · split at h
      · rename_i hM
        split at h
        · cases h
        · rename_i hi
          cases h
          refine ⟨?_, by rw [List.getElem?_set_ne (z_hl h0 hM)]; exact h0⟩
          simp only [z_s2, z_h0 (z_hl h0 hM) hM]
          rw [if_neg hi, z_hs (z_hl h0 hM)]
      · cases h
    · cases h
  case lastore =>
    split at h
    · split at h
      · rename_i hM
        split at h
        · cases h
        · rename_i hi
          cases h
          refine ⟨?_, by rw [List.getElem?_set_ne (z_hl h0 hM)]; exact h0⟩
          simp only [z_s2, z_h0 (z_hl h0 hM) hM]
          rw [if_neg hi, z_hs (z_hl h0 hM)]
      · cases h
    · cases h
  case aastore =>
    split at h
    · split at h
      · rename_i hM
        split at h
        · cases h
        · rename_i hi
          cases h
          refine ⟨?_, by rw [List.getElem?_set_ne (z_hl h0 hM)]; exact h0⟩
          simp only [z_s2, z_h0 (z_hl h0 hM) hM]
          rw [if_neg hi, z_hs (z_hl h0 hM)]
      · cases h
    · split at h
      · rename_i hM hV
        split at h
        · cases h
        · rename_i hi
          cases h
          have hv : ∀ {v : Nat}, ¬ v < 4 → v ≠ 0 := fun h => by omega
          have hv4 := fun q => hi (Or.inr (Or.inr (Or.inr (Or.inl q))))
          refine ⟨?_, by rw [List.getElem?_set_ne (z_hl h0 hM)]; exact h0⟩
          simp only [z_s2, z_h0 (z_hl h0 hM) hM, z_h0 (hv hv4) hV]
          rw [if_neg hi, z_hs (z_hl h0 hM)]
      · cases h
    · cases h
theorem z_s3_ind {c : Nat} {i : Instr} {pc : Nat} {S : zS} {M M' : zH} : (z_s3 c i pc S M).map (fun q => (q.1, q.2.1)) = (z_s3 c i pc S M').map (fun q => (q.1, q.2.1)) := by
  cases i <;> try rfl
  case invokespecial k =>
    dsimp only [z_s3]
    split
    · split <;> rfl
    · rfl
  case invokestatic k =>
    dsimp only [z_s3]
    split
    · split
      · split <;> rfl
      · rfl
    · split
      · split <;> rfl
      · rfl
    · rfl
theorem z_s4_ind {c : Nat} {i : Instr} {pc pc1 : Nat} {S S1 : zS} {M M1 : zH} {e : zE} (h0 : M[0]? = some z_hole) (h : z_s4 c i pc S M = some (pc1, S1, M1)) : z_s4 c i pc S (M.set 0 e) = some (pc1, S1, M1.set 0 e) ∧ M1[0]? = some z_hole := by
  cases i
  case invokestatic k =>
    dsimp only [z_s4] at h ⊢
    split at h
    · split at h
      · rename_i hc
        split at h
        · rename_i hw
          cases h
          unfold z_copy at hc ⊢
          split at hc
          · split at hc
            · rename_i hA hB
              split at hc
              · cases hc
              · rename_i hg
                cases hc
                refine ⟨?_, by rw [List.getElem?_set_ne (z_hl h0 hA)]; exact h0⟩
                simp only [z_h0 (z_hl h0 hA) hA, z_h0 (z_hl h0 hB) hB]
                rw [if_neg hg]
                simp only [if_pos hw, z_hs (z_hl h0 hA)]
            · cases hc
          · cases hc
        · cases h
      · cases h
    · cases h
  all_goals cases h
theorem z_s4_not {c k pc : Nat} {S S1 : zS} {M : zH} {x y : Nat} {vs : List Value} (h : z_call c (.invokestatic k) S M = some (x, y, vs, S1)) (M2 : zH) : z_s4 c (.invokestatic k) pc S M2 = none := by
  dsimp only [z_call, z_s4] at h ⊢
  split
  · rename_i hq
    rw [hq] at h
    have h1 := z_cS_ok _ (z_find_mem hq)
    dsimp only [z_okS] at h1
    dsimp only at h
    split at h
    · split at h1
      all_goals first | (exact absurd h1 (by decide)) | (rename_i h2 h3; exact absurd h2 (by decide)) | (rename_i h2 h3; cases h3)
    · cases h
  · rfl
theorem z_st_ind {j : Nat} {i : Instr} {pc pc1 : Nat} {L L1 : zL} {S S1 : zS} {M M1 : zH} {e : zE} (h0 : M[0]? = some z_hole) (h : z_st j i pc L S M = some (pc1, L1, S1, M1)) : z_st j i pc L S (M.set 0 e) = some (pc1, L1, S1, M1.set 0 e) ∧ M1[0]? = some z_hole := by
  unfold z_st at h ⊢
  split at h
  · rename_i h1
    cases h
    exact ⟨rfl, h0⟩
  · rename_i h1
    split at h
    · rename_i h2
      cases h
      obtain ⟨g1, g2⟩ := z_s2_ind (e := e) h0 h2
      rw [g1]
      exact ⟨rfl, g2⟩
    · rename_i h2
      split at h
      · rename_i h3
        cases h
        have h4 := z_s3_same h3
        subst h4
        have h5 := z_s3_ind (c := z_oc j) (i := i) (pc := pc) (S := S) (M := M1) (M' := M1.set 0 e)
        rw [h3] at h5
        have h6 : z_s2 (z_oc j) ((z_name j).name == "<init>") i pc S (M1.set 0 e) = none := by
          cases i <;> first | rfl | (simp [z_s3] at h3; done)
        rw [h6]
        cases h7 : z_s3 (z_oc j) i pc S (M1.set 0 e) with
        | none => rw [h7] at h5; cases h5
        | some q =>
          obtain ⟨q1, q2, q3⟩ := q
          rw [h7] at h5
          cases h5
          have h8 := z_s3_same h7
          subst h8
          exact ⟨rfl, h0⟩
      · rename_i h3
        split at h
        · rename_i h4
          cases h
          obtain ⟨g1, g2⟩ := z_s4_ind (e := e) h0 h4
          have h6 : z_s2 (z_oc j) ((z_name j).name == "<init>") i pc S (M.set 0 e) = none := by
            cases i <;> first | rfl | (simp [z_s4] at h4; done)
          have h5 := z_s3_ind (c := z_oc j) (i := i) (pc := pc) (S := S) (M := M) (M' := M.set 0 e)
          rw [h6]
          cases h7 : z_s3 (z_oc j) i pc S (M.set 0 e) with
          | some q => rw [h3, h7] at h5; cases h5
          | none =>
            simp only [g1]
            exact ⟨trivial, g2⟩
        · cases h
theorem z_call_ind {c : Nat} {i : Instr} {S r : zS} {M : zH} {e : zE} {kd k : Nat} {vs : List Value} (h : z_call c i S M = some (kd, k, vs, r)) : z_call c i S (M.set 0 e) = some (kd, k, vs, r) ∧ ∀ j pc L, z_st j i pc L S M = none → z_oc j = c → z_st j i pc L S (M.set 0 e) = none := by
  have hn : ∀ j pc L, (z_s1 i pc L S = none) → (∀ M2, z_s2 (z_oc j) ((z_name j).name == "<init>") i pc S M2 = none) → (∀ M2, z_s4 (z_oc j) i pc S M2 = none) → z_st j i pc L S M = none → z_oc j = c → z_st j i pc L S (M.set 0 e) = none := by
    intro j pc L h1 h2 h8 h3 h4
    unfold z_st at h3 ⊢
    rw [h1] at h3 ⊢
    simp only [h2, h8] at h3 ⊢
    have h5 := z_s3_ind (c := z_oc j) (i := i) (pc := pc) (S := S) (M := M) (M' := M.set 0 e)
    cases h7 : z_s3 (z_oc j) i pc S (M.set 0 e) with
    | none => rfl
    | some q =>
      cases h9 : z_s3 (z_oc j) i pc S M with
      | none => rw [h7, h9] at h5; cases h5
      | some q2 => rw [h9] at h3; cases h3
  cases i
  case invokestatic k =>
    refine ⟨?_, fun j pc L h3 h4 => hn j pc L rfl (fun _ => rfl) (fun M2 => by subst h4; exact z_s4_not h M2) h3 h4⟩
    exact h
  case invokevirtual k =>
    refine ⟨?_, fun j pc L => hn j pc L rfl (fun _ => rfl) (fun _ => rfl)⟩
    dsimp only [z_call] at h ⊢
    split at h
    · rename_i hq
      split at h
      · rename_i hS
        split at h
        · rename_i hM
          split at h
          · rename_i hb
            have ha : ∀ {a : Nat}, 4 ≤ a → a ≠ 0 := fun h => by omega
            simp only [z_h0 (ha hb) hM]
            rw [if_pos hb]
            exact h
          · cases h
        · cases h
      · cases h
    · cases h
  case invokespecial k =>
    refine ⟨?_, fun j pc L => hn j pc L rfl (fun _ => rfl) (fun _ => rfl)⟩
    dsimp only [z_call] at h ⊢
    split at h
    · rename_i hq
      split at h
      · rename_i hS
        split at h
        · rename_i hM
          split at h
          · rename_i hb
            have ha : ∀ {a : Nat}, 4 ≤ a → a ≠ 0 := fun h => by omega
            simp only [z_h0 (ha hb) hM]
            rw [if_pos hb]
            exact h
          · cases h
        · cases h
      · cases h
    · cases h
  all_goals cases h
theorem z_indep (e : zE) : ∀ (n d j pc : Nat) (L : zL) (S : zS) (M M1 : zH) (v : Option Value), M[0]? = some z_hole → z_run n d j pc L S M = some (v, M1) → z_run n d j pc L S (M.set 0 e) = some (v, M1.set 0 e) ∧ M1[0]? = some z_hole
  | 0, d, j, pc, L, S, M, M1, v, h0, h => by cases h
  | n + 1, d, j, pc, L, S, M, M1, v, h0, h => by
    rw [z_run] at h ⊢
    split at h
    · cases h
    · split at h
      · rename_i hlen
        rw [if_pos hlen]
        split at h
        · rename_i he
          cases h
          exact ⟨rfl, h0⟩
        · split at h
          · rename_i hst
            obtain ⟨g1, g2⟩ := z_st_ind (e := e) h0 hst
            rw [g1]
            exact z_indep e n _ _ _ _ _ _ _ _ g2 h
          · rename_i hst
            split at h
            · rename_i hcall
              split at h
              · rename_i hg
                split at h
                · rename_i h1
                  obtain ⟨g1, g2⟩ := z_call_ind (e := e) hcall
                  obtain ⟨g3, g4⟩ := z_indep e n _ _ _ _ _ _ _ _ h0 h1
                  obtain ⟨g5, g6⟩ := z_indep e n _ _ _ _ _ _ _ _ g4 h
                  rw [g2 _ _ _ hst rfl]
                  simp only [g1]
                  rw [if_pos hg, g3]
                  exact ⟨g5, g6⟩
                · cases h
              · cases h
            · cases h
      · cases h
