/-! the fresh objects: what the two constructors leave -/
abbrev zQ : Type := (Nat × Nat × Int32) ⊕ (Nat × List Value)
def z_q : zE → zQ → Bool
  | .inr (c, fs), .inr (c1, fs1) => decide (c = c1 ∧ fs = fs1)
  | .inl (t, n, .inl f), .inl (t1, n1, v) => decide (t = 0 ∧ t1 = 0 ∧ n = n1) && (List.range n).all fun i => decide (f i = v)
  | .inl (t, n, .inr (.inl f)), .inl (t1, n1, _) => decide (t = 1 ∧ t1 = 1 ∧ n = n1) && (List.range n).all fun i => decide (f i = 0)
  | .inl (t, n, .inr (.inr f)), .inl (t1, n1, _) => decide (t = t1 ∧ 2 ≤ t1 ∧ n = n1) && (List.range n).all fun i => decide (f i = none)
  | _, _ => false
def z_spec : List zQ := [
  .inr (0, [.ref 5, .ref 10, .ref 11, .int 0, .ref 12, .int 0, .ref 13, .ref 14, .ref 15, .ref 16, .ref 17, .ref 18, .null]),
  .inr (1, [.ref 6, .int 0, .int 0, .int 0, .int 0, .int 0, .int 0, .int 0, .ref 7, .ref 8, .int 0, .ref 9]),
  .inl (0, 160, 0),
  .inl (0, 10, 0),
  .inl (0, 8, 0),
  .inl (1, 70, 0),
  .inl (2, 8, 0),
  .inl (2, 8, 0),
  .inl (3, 20, 0),
  .inl (0, 25, 0),
  .inl (0, 6, (-1)),
  .inl (0, 6, 0),
  .inl (1, 360, 0),
  .inl (3, 6, 0),
  .inl (0, 216, 0),
  .inr (12, [.ref 20, .int 0, .ref 21, .ref 22, .ref 23, .ref 24, .ref 25, .ref 26, .ref 27, .ref 28, .ref 29, .ref 30, .ref 31, .int 0, .ref 32, .ref 33, .ref 34, .ref 35, .ref 36, .ref 37, .ref 38, .int 0, .int 0, .int 0, .int 0, .int 0, .int 0, .int 0, .int 0, .int 0, .int 0, .ref 39, .ref 40, .ref 41, .int 0, .int 0, .ref 42, .ref 43, .ref 44, .ref 45, .ref 46, .int 0, .ref 47, .int 0, .int 0, .int 0, .ref 48, .int 0, .int 0, .ref 49, .ref 50, .ref 51, .ref 52]),
  .inl (0, 160, 0),
  .inl (0, 1280, 0),
  .inl (0, 8, 0),
  .inl (0, 80, 0),
  .inl (0, 8, 0),
  .inl (0, 8, 0),
  .inl (0, 64, 0),
  .inl (0, 8, 0),
  .inl (0, 8, 0),
  .inl (0, 8192, 0),
  .inl (0, 8192, 0),
  .inl (0, 8, 0),
  .inl (0, 72, 0),
  .inl (0, 72, 0),
  .inl (0, 72, 0),
  .inl (0, 8, 0),
  .inl (0, 20, 0),
  .inl (0, 20, 0),
  .inl (0, 20, 0),
  .inl (0, 9, 0),
  .inl (0, 9, 0),
  .inl (0, 9, 0),
  .inl (0, 10, 0),
  .inl (0, 9, 0),
  .inl (0, 216, 0),
  .inl (0, 216, 0),
  .inl (0, 648, 0),
  .inl (0, 12, 0),
  .inl (0, 24, 0),
  .inl (0, 6, (-1)),
  .inl (0, 6, 0),
  .inl (1, 360, 0),
  .inl (1, 60, 0)]
def z_qo (o : Option zE) (q : Option zQ) : Bool := match o, q with
  | some e, some s => z_q e s
  | _, _ => false
def z_fr (M : zH) (lo hi : Nat) : Prop := ∀ k, lo ≤ k → k < hi → z_qo (M[k]?) (z_spec[k - 4]?) = true
theorem z_qO {o : Option zE} {c : Nat} {fs : List Value} (h : z_qo o (some (.inr (c, fs))) = true) : o = some (.inr (c, fs)) := by
  match o, h with
  | some (.inr (c1, fs1)), h => obtain ⟨rfl, rfl⟩ := of_decide_eq_true h; rfl
theorem z_qI {o : Option zE} {n : Nat} {v : Int32} (h : z_qo o (some (.inl (0, n, v))) = true) : ∃ f, o = some (.inl (0, n, .inl f)) ∧ ∀ i, i < n → f i = v := by
  match o, h with
  | some (.inl (t, n1, .inl f)), h =>
    obtain ⟨h1, h2⟩ := Bool.and_eq_true_iff.mp h
    obtain ⟨rfl, h3, rfl⟩ := of_decide_eq_true h1
    exact ⟨f, rfl, fun i hi => of_decide_eq_true (List.all_eq_true.mp h2 i (List.mem_range.mpr hi))⟩
  | some (.inl (t, n1, .inr (.inl f))), h =>
    obtain ⟨h1, h2⟩ := Bool.and_eq_true_iff.mp h
    exact absurd (of_decide_eq_true h1).2.1 (by omega)
  | some (.inl (t, n1, .inr (.inr f))), h =>
    obtain ⟨h1, h2⟩ := Bool.and_eq_true_iff.mp h
    exact absurd (of_decide_eq_true h1).2.1 (by omega)
theorem z_qR {o : Option zE} {t n : Nat} {v : Int32} (ht : 2 ≤ t) (h : z_qo o (some (.inl (t, n, v))) = true) : ∃ f, o = some (.inl (t, n, .inr (.inr f))) ∧ ∀ i, i < n → f i = none := by
  match o, h with
  | some (.inl (t1, n1, .inr (.inr f))), h =>
    obtain ⟨h1, h2⟩ := Bool.and_eq_true_iff.mp h
    obtain ⟨rfl, h3, rfl⟩ := of_decide_eq_true h1
    exact ⟨f, rfl, fun i hi => of_decide_eq_true (List.all_eq_true.mp h2 i (List.mem_range.mpr hi))⟩
  | some (.inl (t1, n1, .inl f)), h =>
    obtain ⟨h1, h2⟩ := Bool.and_eq_true_iff.mp h
    exact absurd (of_decide_eq_true h1).2.1 (by omega)
  | some (.inl (t1, n1, .inr (.inl f))), h =>
    obtain ⟨h1, h2⟩ := Bool.and_eq_true_iff.mp h
    exact absurd (of_decide_eq_true h1).2.1 (by omega)
/-- the heap before: a hole in the script's place -/
def z_Mh : zH := (z_M0 0 fun _ => 0).set 0 z_hole
def z_iA : Option (Option Value × zH) := z_run 20000 2046 1 0 (z_ent [.ref 4] (z_ml 1)) [] (z_Mh ++ [.inr (0, z_blank 0)])
def z_iB (A : zH) : Option (Option Value × zH) := z_run 20000 2046 187 0 (z_ent [.ref 19] (z_ml 187)) [] (A ++ [.inr (12, z_blank 12)])
def z_kt3 (o : Option zE) : Bool := match o with
  | some (.inl (0, n, .inl f)) => decide (n = 8) && (List.range 8).all fun i => decide (f i = z_tk3.getD i 0)
  | _ => false
def z_cB (B : zH) : Bool := z_kt3 (B[3]?) && decide (B.length = 53 ∧ z_sz B ≤ 49000) && (List.range 49).all fun k => z_qo (B[k + 4]?) (z_spec[k]?)
theorem z_iAB : (match z_iA with
  | some (none, A) => decide (A.length = 19) && (match z_iB A with | some (none, B) => z_cB B | _ => false)
  | _ => false) = true := by decide +kernel
theorem z_fresh : ∃ A B, z_iA = some (none, A) ∧ A.length = 19 ∧ z_iB A = some (none, B) ∧ B.length = 53 ∧ z_sz B ≤ 49000 ∧ z_fr B 4 53 ∧ z_kt3 (B[3]?) = true := by
  have h := z_iAB
  split at h
  · rename_i A hA
    obtain ⟨h1, h2⟩ := Bool.and_eq_true_iff.mp h
    split at h2
    · rename_i B hB
      obtain ⟨h34, h4⟩ := Bool.and_eq_true_iff.mp h2
      obtain ⟨h0, h3⟩ := Bool.and_eq_true_iff.mp h34
      obtain ⟨h5, h6⟩ := of_decide_eq_true h3
      refine ⟨A, B, hA, of_decide_eq_true h1, hB, h5, h6, fun k h7 h8 => ?_, h0⟩
      have h9 := List.all_eq_true.mp h4 (k - 4) (List.mem_range.mpr (by omega))
      rw [Nat.sub_add_cancel h7] at h9
      exact h9
    · cases h2
  · cases h
