/-! what bodies note, on both sides -/
def z_nt (f : Nat → Int32) (v : Int32) : Nat → Int32 := if (f 0).toInt + 1 < 25 then upd (upd f 0 (f 0 + 1)) ((f 0).toInt + 1).toNat v else upd f 0 (f 0 + 1)
def z_nr (g : Nat → Int32) (n : Nat) (v : Int32) : Nat → Int32 := if n < 24 then upd g n v else g
def z_nts (l : List Int32) (f : Nat → Int32) : Nat → Int32 := l.foldl z_nt f
def z_nrs : Nat → List Int32 → (Nat → Int32) → (Nat → Int32)
  | _, [], g => g
  | n, v :: l, g => z_nrs (n + 1) l (z_nr g n v)
theorem z_ntN {f f1 : Nat → Int32} {v x p : Int32} (h0 : f (0 : Int32).toNatClampNeg = v) (hx : x = v + 1) (h1 : f1 = upd f (0 : Int32).toNatClampNeg x) (hn : ¬ v.toInt + 1 < 25) : f1 = z_nt f p := by
  have g0 : f 0 = v := h0
  have g1 : f1 = upd f 0 x := h1
  unfold z_nt
  rw [g0, if_neg hn, g1, hx]
theorem z_ntY {f f1 f2 : Nat → Int32} {v x p : Int32} {k : Nat} (h0 : f (0 : Int32).toNatClampNeg = v) (hx : x = v + 1) (h1 : f1 = upd f (0 : Int32).toNatClampNeg x) (h2 : f2 = upd f1 k p) (hk : k = (v.toInt + 1).toNat) (hn : v.toInt + 1 < 25) : f2 = z_nt f p := by
  have g0 : f 0 = v := h0
  have g1 : f1 = upd f 0 x := h1
  unfold z_nt
  rw [g0, if_pos hn, h2, g1, hx, hk]
theorem z_nrN {g g1 : Nat → Int32} {n : Nat} {v : Int32} (h : g1 = g) (hn : ¬ n < 24) : g1 = z_nr g n v := by
  unfold z_nr
  rw [if_neg hn, h]
theorem z_nrY {g g1 : Nat → Int32} {k n : Nat} {v : Int32} (h : g1 = upd g k v) (hk : k = n) (hn : n < 24) : g1 = z_nr g n v := by
  unfold z_nr
  rw [if_pos hn, h, hk]
theorem z_ran0 (f g : Nat → Int32) : z_ran (upd f 0 0) g 0 := ⟨rfl, by omega, fun i _ h => absurd h (by omega)⟩
theorem z_ran.note {f g : Nat → Int32} {n : Int} {v : Int32} (h : z_ran f g n) (hn : n < 1000) : z_ran (z_nt f v) (z_nr g n.toNat v) (n + 1) := by
  obtain ⟨h0, h1, h2⟩ := h
  have e1 : (f 0 + 1).toInt = n + 1 := z_pAdd h0 (show (1 : Int32).toInt = 1 from rfl) (by omega) (by omega)
  unfold z_nt z_nr
  rw [h0]
  by_cases hq : n + 1 < 25
  · have hq2 : n.toNat < 24 := by omega
    have en : (n + 1).toNat = n.toNat + 1 := by omega
    rw [if_pos hq, if_pos hq2, en]
    refine ⟨?_, by omega, ?_⟩
    · have a0 : upd (upd f 0 (f 0 + 1)) (n.toNat + 1) v 0 = f 0 + 1 := by
        show (if 0 = n.toNat + 1 then v else (if 0 = 0 then f 0 + 1 else f 0)) = f 0 + 1
        rw [if_neg (by omega : ¬ 0 = n.toNat + 1), if_pos rfl]
      rw [a0]
      exact e1
    · intro i hi hlt
      by_cases hi2 : i = n.toNat
      · have a1 : upd (upd f 0 (f 0 + 1)) (n.toNat + 1) v (i + 1) = v := by
          show (if i + 1 = n.toNat + 1 then v else _) = v
          rw [if_pos (by omega : i + 1 = n.toNat + 1)]
        have a2 : upd g n.toNat v i = v := by
          show (if i = n.toNat then v else g i) = v
          rw [if_pos hi2]
        rw [a1, a2]
      · have a1 : upd (upd f 0 (f 0 + 1)) (n.toNat + 1) v (i + 1) = f (i + 1) := by
          show (if i + 1 = n.toNat + 1 then v else (if i + 1 = 0 then f 0 + 1 else f (i + 1))) = f (i + 1)
          rw [if_neg (by omega : ¬ i + 1 = n.toNat + 1), if_neg (by omega : ¬ i + 1 = 0)]
        have a2 : upd g n.toNat v i = g i := by
          show (if i = n.toNat then v else g i) = g i
          rw [if_neg hi2]
        rw [a1, a2]
        exact h2 i hi (by omega)
  · have hq2 : ¬ n.toNat < 24 := by omega
    rw [if_neg hq, if_neg hq2]
    refine ⟨e1, by omega, fun i hi hlt => ?_⟩
    have a1 : upd f 0 (f 0 + 1) (i + 1) = f (i + 1) := by
      show (if i + 1 = 0 then f 0 + 1 else f (i + 1)) = f (i + 1)
      rw [if_neg (by omega : ¬ i + 1 = 0)]
    rw [a1]
    exact h2 i hi (by omega)
theorem z_rans (l : List Int32) : ∀ {f g : Nat → Int32} {n : Nat}, z_ran f g (n : Int) → n + l.length < 1000 → z_ran (z_nts l f) (z_nrs n l g) ((n + l.length : Nat) : Int) := by
  induction l with
  | nil => intro f g n h _; exact h
  | cons v l ih =>
    intro f g n h hl
    have hl2 : n + (l.length + 1) < 1000 := hl
    have h1 := h.note (v := v) (by omega)
    rw [Int.toNat_natCast] at h1
    have e : (n : Int) + 1 = ((n + 1 : Nat) : Int) := by omega
    rw [e] at h1
    have h2 := ih h1 (by omega)
    have e2 : n + (v :: l).length = n + 1 + l.length := by rw [List.length_cons]; omega
    rw [e2]
    exact h2
theorem z_ntsS {f0 f f1 : Nat → Int32} (l : List Int32) {v : Int32} (h : f = z_nts l f0) (h1 : f1 = z_nt f v) : f1 = z_nts (l ++ [v]) f0 := by
  rw [h1, h]
  unfold z_nts
  rw [List.foldl_append]
  rfl
