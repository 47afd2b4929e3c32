/-! what the blocks' words say of the lawful sets -/
/-- one tie's word of one block -/
def z_tkv (bb : Nat → Int) (nn : Nat) (nu : Int → Int) (p : Nat) (w : Int64) (B : Nat) (v : Int64) : Prop := ∀ i, i < 64 → (v.toBitVec.getLsbD i = true ↔ (z_tv bb nn nu p (64 * B + i) = 1 ∧ w.toBitVec.getLsbD i = true))
/-- the words that stand so far: all of the blocks below b, of block b those of the first x ties -/
def z_kw (bb : Nat → Int) (nn : Nat) (nu : Int → Int) (ts : Nat → Nat) (w : Int64) (bl t : Nat) (g : Nat → Int64) (b x : Nat) : Prop := ∀ t' b', t' < t → b' < bl → (b' < b ∨ (b' = b ∧ t' < x)) → z_tkv bb nn nu (ts t') w b' (g (t' * bl + b'))
section ZL
variable {bb : Nat → Int} {nn : Nat} {nu : Int → Int} {ts : Nat → Nat} {w : Int64} {bl t : Nat} {g g2 : Nat → Int64} {b x : Nat}
theorem z_kw0 : z_kw bb nn nu ts w bl t g 0 0 := fun t' b' _ _ h => by
  rcases h with h | ⟨_, h⟩
  · exact absurd h (Nat.not_lt_zero _)
  · exact absurd h (Nat.not_lt_zero _)
theorem z_mix {t1 b1 t2 b2 : Nat} (h1 : b1 < bl) (h2 : b2 < bl) (h : t1 * bl + b1 = t2 * bl + b2) : t1 = t2 ∧ b1 = b2 := by
  have hp : 0 < bl := by omega
  have e1 : (t1 * bl + b1) / bl = t1 := by rw [Nat.add_comm, Nat.add_mul_div_right _ _ hp, Nat.div_eq_of_lt h1, Nat.zero_add]
  have e2 : (t2 * bl + b2) / bl = t2 := by rw [Nat.add_comm, Nat.add_mul_div_right _ _ hp, Nat.div_eq_of_lt h2, Nat.zero_add]
  have e : t1 = t2 := by rw [← e1, h, e2]
  subst e
  exact ⟨rfl, by omega⟩
theorem z_kwS {v : Int64} (h : z_kw bb nn nu ts w bl t g b x) (hb : b < bl) (hg : g2 = z_updL g (x * bl + b) v) (hv : z_tkv bb nn nu (ts x) w b v) : z_kw bb nn nu ts w bl t g2 b (x + 1) := fun t' b' ht hb' hd => by
  rw [hg]
  show z_tkv bb nn nu (ts t') w b' (if t' * bl + b' = x * bl + b then v else g (t' * bl + b'))
  by_cases c : t' * bl + b' = x * bl + b
  · obtain ⟨e1, e2⟩ := z_mix hb' hb c
    rw [if_pos c, e1, e2]
    exact hv
  · rw [if_neg c]
    refine h t' b' ht hb' ?_
    rcases hd with hd | ⟨h1, h2⟩
    · exact Or.inl hd
    · refine Or.inr ⟨h1, ?_⟩
      by_cases e : t' = x
      · rw [e, h1] at c
        exact absurd rfl c
      · omega
theorem z_kwN (h : z_kw bb nn nu ts w bl t g b x) (hx : t ≤ x) : z_kw bb nn nu ts w bl t g (b + 1) 0 := fun t' b' ht hb' hd => by
  refine h t' b' ht hb' ?_
  rcases hd with hd | ⟨_, h2⟩
  · by_cases e : b' = b
    · exact Or.inr ⟨e, by omega⟩
    · exact Or.inl (by omega)
  · exact absurd h2 (Nat.not_lt_zero _)
theorem z_bitsE {v : Int64} : v = 0 ↔ ∀ i, i < 64 → v.toBitVec.getLsbD i = false := by
  refine ⟨fun h i hi => by rw [h]; exact z_nobit i hi, fun h => ?_⟩
  have h2 : v.toBitVec = (0 : Int64).toBitVec := by
    apply BitVec.eq_of_getLsbD_eq
    intro i hi
    rw [h i hi, z_nobit i hi]
  exact Int64.toInt_inj.mp (congrArg BitVec.toInt h2)
theorem z_tkvA {y v w : Int64} {p B : Nat} {f : Nat → Nat} {q : Nat} (h : z_ti bb nn (z_one bb nn nu 6) p = some (q, f)) (hy : z_bv y f B) (hv : v = y &&& w) : z_tkv bb nn nu p w B v := fun i hi => by
  have e : z_tv bb nn nu p (64 * B + i) = f (64 * B + i) := by
    unfold z_tv
    rw [h]
  rw [hv, Int64.toBitVec_and, BitVec.getLsbD_and, Bool.and_eq_true, (hy i hi).2, e]
  exact ⟨fun a => ⟨of_decide_eq_true a.1, a.2⟩, fun a => ⟨decide_eq_true a.1, a.2⟩⟩
/-- no bit in any block: no lawful set -/
theorem z_lawbits {q : Nat} {wv : Int64} {l : Nat → Int64} (q0 : 1 ≤ q) (hw : z_whb q w) (hwv : z_whb q wv) (hk : z_kw bb nn nu ts w (z_bl q) t g (z_bl q) 0) (hl : z_lbk wv g (z_bl q) t l (z_bl q)) : z_sm l (z_bl q) = 0 ↔ ¬ z_lawful bb nn nu q t ts := by
  rw [z_sm0]
  have hq64 : 6 < q → 64 * z_bl q = 2 ^ q ∧ 64 ≤ 2 ^ q := fun h => by
    rw [z_blgt h]
    have e : 2 ^ q = 2 ^ 6 * 2 ^ (q - 6) := by rw [← Nat.pow_add]; congr 1; omega
    have hp : 0 < 2 ^ (q - 6) := Nat.pow_pos (by decide)
    have e6 : (2 : Nat) ^ 6 = 64 := rfl
    rw [e, e6]
    exact ⟨rfl, by omega⟩
  have hq6 : q ≤ 6 → z_bl q = 1 ∧ 2 ^ q ≤ 64 := fun h => ⟨z_blle h, Nat.pow_le_pow_right (by decide) h⟩
  refine ⟨fun h ⟨s, hs, hall⟩ => ?_, fun h b hb => z_bitsE.mpr (fun i hi => ?_)⟩
  · have hb : s / 64 < z_bl q := by
      by_cases c : q ≤ 6
      · have := hq6 c; omega
      · have := hq64 (by omega); omega
    have hi : s % 64 < 64 := Nat.mod_lt _ (by decide)
    have hi2 : s % 64 < 2 ^ q := by
      by_cases c : q ≤ 6
      · have := hq6 c; omega
      · have := hq64 (by omega); omega
    have h1 := hl (s / 64) hb (s % 64) hi
    have h0 := z_bitsE.mp (h (s / 64) hb) (s % 64) hi
    have h2 := h1.mpr ⟨(hwv _ hi).mpr hi2, fun t' ht => (hk t' (s / 64) ht hb (Or.inl hb) (s % 64) hi).mpr ⟨by
      rw [show 64 * (s / 64) + s % 64 = s from by omega]
      exact hall t' ht, (hw _ hi).mpr hi2⟩⟩
    rw [h0] at h2
    cases h2
  · cases c : (l b).toBitVec.getLsbD i with
    | false => rfl
    | true =>
      have h1 := (hl b hb i hi).mp c
      have hi2 := (hwv i hi).mp h1.1
      refine absurd ⟨64 * b + i, ?_, fun t' ht => ((hk t' b ht hb (Or.inl hb) i hi).mp (h1.2 t' ht)).1⟩ h
      by_cases c6 : q ≤ 6
      · have := hq6 c6; omega
      · have := hq64 (by omega); omega
end ZL
