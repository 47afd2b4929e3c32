/-! the reference reads the whole tape: how its parts go together -/
section ZY2
variable {bb : Nat → Int} {nn : Nat} {nu : Int → Int} {S : Nat} {M M0 M1 M2 M3 M4 M5 M6 : zH} {pr en t : Nat} {ts : Nat → Nat}
/-- letters: m so far, mo whether it goes on -/
def y_SI (bb : Nat → Int) (nn : Nat) (nu : Int → Int) (M0 M : zH) (m mo : Int) : Prop := (¬ y_ok M0 → ¬ y_ok M) ∧ (y_op M = y_op M0) ∧ (y_ok M0 → y_at M0 ≤ nn → if mo = 0 then ((y_ok M ∧ z_qe (z_sqw bb nn nu (y_at M0) 0) = some (y_at M, m.toNat) ∧ 0 ≤ m ∧ m < 1024 ∧ y_at M0 ≤ y_at M ∧ y_at M ≤ nn) ∨ (¬ y_ok M ∧ (z_qe (z_sqw bb nn nu (y_at M0) 0) = none ∨ ∃ q k, z_qe (z_sqw bb nn nu (y_at M0) 0) = some (q, k) ∧ q < nn ∧ bb q ≠ 59))) else (y_ok M ∧ y_at M0 ≤ y_at M ∧ y_at M ≤ nn ∧ 0 ≤ m ∧ m < 1024 ∧ z_qe (z_sqw bb nn nu (y_at M0) 0) = z_qe (z_sqw bb nn nu (y_at M) m.toNat)))
def y_SQ (bb : Nat → Int) (nn : Nat) (nu : Int → Int) (M0 M1 : zH) (x : Int) : Prop := (¬ y_ok M0 → ¬ y_ok M1) ∧ (y_op M1 = y_op M0) ∧ (y_ok M0 → y_at M0 ≤ nn → (y_ok M1 ∧ z_qe (z_sqw bb nn nu (y_at M0) 0) = some (y_at M1, x.toNat) ∧ 0 ≤ x ∧ x < 1024 ∧ y_at M0 ≤ y_at M1 ∧ y_at M1 ≤ nn) ∨ (¬ y_ok M1 ∧ (z_qe (z_sqw bb nn nu (y_at M0) 0) = none ∨ ∃ q k, z_qe (z_sqw bb nn nu (y_at M0) 0) = some (q, k) ∧ q < nn ∧ bb q ≠ 59)))
theorem y_SI0 : y_SI bb nn nu M0 M0 0 1 := by
  refine ⟨fun a => a, rfl, fun h h2 => ?_⟩
  rw [if_neg (by decide)]
  exact ⟨h, Nat.le_refl _, h2, by decide, by decide, rfl⟩
theorem y_SIq {m mo : Int} (h : y_SI bb nn nu M0 M m mo) (hm : mo = 0) : y_SQ bb nn nu M0 M m := by
  refine ⟨h.1, h.2.1, fun k0 k1 => ?_⟩
  have h2 := h.2.2 k0 k1
  rw [if_pos hm] at h2
  exact h2
/-- a question comes to the bits -/
theorem y_SIs {m m2 q c r w a a2 : Int32} {x mo : Int} {f : Int32} (hI : y_SI bb nn nu M0 M m.toInt mo) (hmo : mo ≠ 0) (hf : z_F M 19 26 = some (.int f)) (hf0 : f.toInt < 0) (hb : x = y_by bb nn M) (hx : x ≠ 0) (hq : nu x = q.toInt) (hq0 : 0 ≤ q.toInt ∧ q.toInt < 10) (hr : r = m >>> (q &&& 31)) (hw : w = r &&& 1) (hw0 : w.toInt = 0) (hc : c = (1 : Int32) <<< (q &&& 31)) (hm : m2 = m ||| c) (ha : z_F M 19 24 = some (.int a)) (hn : z_F M1 19 24 = some (.int a2)) (ha2 : a2.toInt = a.toInt + 1 ∧ 0 ≤ a.toInt) (hf1 : z_F M1 19 26 = z_F M 19 26) (ho : z_F M1 19 27 = z_F M 19 27) {mo2 : Int} (hmo2 : mo2 ≠ 0) : y_SI bb nn nu M0 M1 m2.toInt mo2 := by
  obtain ⟨h5, h6⟩ := y_byp hb hx
  have k := y_okY hf hf0
  refine ⟨fun c => absurd k (hI.1 c), (y_opK ho).trans hI.2.1, fun k0 k1 => ?_⟩
  have h2 := hI.2.2 k0 k1
  rw [if_neg hmo] at h2
  rw [if_neg hmo2]
  obtain ⟨a1, a7, a2', a3, a4, a6⟩ := h2
  have e1 := z_sbit hr hw a3 ⟨hq0.1, by omega⟩
  have hb2 : m.toInt.toNat / 2 ^ q.toInt.toNat % 2 = 0 := by omega
  obtain ⟨e5, e3, e4⟩ := z_orbit hc hm ⟨a3, a4⟩ hq0 hb2
  have hat : y_at M1 = y_at M + 1 := by rw [y_atF ha, y_atF hn]; omega
  refine ⟨(y_okK hf1).mpr k, by omega, by omega, e3.1, e3.2, ?_⟩
  rw [a6, z_sqw_y (p := y_at M) ⟨h5, by rw [h6, hq]; exact hq0.1, by rw [h6, hq]; exact hb2⟩, h6, hq, hat]
  rw [e5]
/-- no question here -/
theorem y_SIn {m mo mo2 : Int} (hI : y_SI bb nn nu M0 M m mo) (hmo : mo ≠ 0) (hn : y_ok M → ¬ (y_at M < nn ∧ 0 ≤ nu (bb (y_at M)))) (hm : m ≠ 0) (hmo2 : mo2 = 0) : y_SI bb nn nu M0 M m mo2 := by
  refine ⟨hI.1, hI.2.1, fun k0 k1 => ?_⟩
  have h2 := hI.2.2 k0 k1
  rw [if_neg hmo] at h2
  rw [if_pos hmo2]
  obtain ⟨a1, a7, a2, a3, a4, a6⟩ := h2
  rw [z_sqw_n (p := y_at M) (m := m.toNat) (fun a => hn a1 ⟨a.1, a.2.1⟩)] at a6
  have h0 : ¬ (m.toNat = 0) := by omega
  have a6 : z_qe (z_sqw bb nn nu (y_at M0) 0) = (if m.toNat = 0 then none else some (y_at M, m.toNat)) := a6
  rw [if_neg h0] at a6
  exact Or.inl ⟨a1, a6, a3, a4, a7, a2⟩
theorem y_SIf {m mo mo2 : Int} (hI : y_SI bb nn nu M0 M m mo) (hmo : mo ≠ 0) (hn : y_ok M → ¬ (y_at M < nn ∧ 0 ≤ nu (bb (y_at M)))) (hm : m = 0) (hF : ¬ y_ok M1) (ho : z_F M1 19 27 = z_F M 19 27) (hmo2 : mo2 = 0) : y_SI bb nn nu M0 M1 m mo2 := by
  refine ⟨fun _ => hF, (y_opK ho).trans hI.2.1, fun k0 k1 => ?_⟩
  have h2 := hI.2.2 k0 k1
  rw [if_neg hmo] at h2
  rw [if_pos hmo2]
  obtain ⟨a1, a7, a2, a3, a4, a6⟩ := h2
  rw [z_sqw_n (p := y_at M) (m := m.toNat) (fun a => hn a1 ⟨a.1, a.2.1⟩)] at a6
  have h0 : m.toNat = 0 := by omega
  have a6 : z_qe (z_sqw bb nn nu (y_at M0) 0) = (if m.toNat = 0 then none else some (y_at M, m.toNat)) := a6
  rw [if_pos h0] at a6
  exact Or.inr ⟨hF, Or.inl a6⟩
/-- a question that stands already -/
theorem y_SIr {m q r w : Int32} {x mo mo2 : Int} (hT : y_TR M bb nn nu S) (hI : y_SI bb nn nu M0 M m.toInt mo) (hmo : mo ≠ 0) (hb : x = y_by bb nn M) (hx : x ≠ 0) (hq : nu x = q.toInt) (hq0 : 0 ≤ q.toInt ∧ q.toInt < 10) (hr : r = m >>> (q &&& 31)) (hw : w = r &&& 1) (hw0 : w.toInt ≠ 0) (hF : ¬ y_ok M1) (ho : z_F M1 19 27 = z_F M 19 27) (hmo2 : mo2 = 0) : y_SI bb nn nu M0 M1 m.toInt mo2 := by
  obtain ⟨h5, h6⟩ := y_byp hb hx
  refine ⟨fun _ => hF, (y_opK ho).trans hI.2.1, fun k0 k1 => ?_⟩
  have h2 := hI.2.2 k0 k1
  rw [if_neg hmo] at h2
  rw [if_pos hmo2]
  obtain ⟨a1, a7, a2, a3, a4, a6⟩ := h2
  have e1 := z_sbit hr hw a3 ⟨hq0.1, by omega⟩
  rw [z_sqw_n (p := y_at M) (m := m.toInt.toNat) (fun a => by have a3 := a.2.2; rw [h6, hq] at a3; omega)] at a6
  have hne : bb (y_at M) ≠ 59 := fun e => by
    have := hT.2.2.2.2.2.1 59 (Or.inl (by decide))
    rw [h6] at e
    rw [e] at hq
    omega
  have a6 : z_qe (z_sqw bb nn nu (y_at M0) 0) = (if m.toInt.toNat = 0 then none else some (y_at M, m.toInt.toNat)) := a6
  by_cases h0 : m.toInt.toNat = 0
  · rw [if_pos h0] at a6
    exact Or.inr ⟨hF, Or.inl a6⟩
  · rw [if_neg h0] at a6
    exact Or.inr ⟨hF, Or.inr ⟨_, _, a6, h5, hne⟩⟩
/-- it was wrong before -/
theorem y_SIw {m mo mo2 : Int} {f : Int32} (hI : y_SI bb nn nu M0 M m mo) (hmo : mo ≠ 0) (hf : z_F M 19 26 = some (.int f)) (hf0 : 0 ≤ f.toInt) (hk : ¬ y_ok M1) (ho : z_F M1 19 27 = z_F M 19 27) : y_SI bb nn nu M0 M1 m mo2 := by
  refine ⟨fun _ => hk, (y_opK ho).trans hI.2.1, fun k0 k1 => ?_⟩
  have h2 := hI.2.2 k0 k1
  rw [if_neg hmo] at h2
  exact absurd h2.1 (y_okN hf hf0)
theorem y_nqA {x : Int} (hb : x = y_by bb nn M) (hq : nu x < 0) : y_ok M → ¬ (y_at M < nn ∧ 0 ≤ nu (bb (y_at M))) := fun _ a => by
  unfold y_by at hb
  rw [if_pos a.1] at hb
  rw [hb] at hq
  omega
/-- premises, ends, ties so far -/
def y_st (M : zH) (pr en t : Nat) (ts : Nat → Nat) : Prop := (z_Ar M 27 (y_rd M)).toInt = (pr : Int) ∧ (z_Ar M 28 (y_rd M)).toInt = (en : Int) ∧ (z_Ar M 25 (y_rd M)).toInt = (t : Int) ∧ t ≤ 8 ∧ pr < 1024 ∧ en < 1024 ∧ ∀ i : Nat, i < t → (z_Ar M 26 (8 * y_rd M + i)).toInt = (ts i : Int)
def y_AP (bb : Nat → Int) (nn : Nat) (nu : Int → Int) (M0 M1 : zH) (p pr en t : Nat) (ts : Nat → Nat) : Prop := (¬ y_ok M0 → ¬ y_ok M1) ∧ (y_ok M0 → y_at M0 = p + 1 → p < nn → bb p = 59 → y_op M0 = 0 → (z_ptw bb nn nu p pr en t ts = none ∧ ¬ y_ok M1) ∨ ∃ pr2 en2 t2 ts2, y_ok M1 ∧ p < y_at M1 ∧ y_at M1 ≤ nn ∧ y_op M1 = 0 ∧ y_st M1 pr2 en2 t2 ts2 ∧ z_ptw bb nn nu p pr en t ts = z_ptw bb nn nu (y_at M1) pr2 en2 t2 ts2)
end ZY2
