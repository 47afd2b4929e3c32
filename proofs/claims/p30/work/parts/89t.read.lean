/-! answers read from a row, on both sides -/
theorem z_1sT : ∀ x, x < 20 → ∀ i, i < 32 → ((1 : Int32) <<< ((Int32.ofNat x) &&& 31)).toBitVec.getLsbD i = decide (i = x) := by decide +kernel
theorem z_1sL : ∀ x, x < 20 → ((1 : Int32) <<< ((Int32.ofNat x) &&& 31)).toBitVec.toNat < 1048576 := by decide +kernel
theorem z_orW2 {v c e x6 : Int32} {x : Nat} (hv : 0 ≤ v.toInt ∧ v.toInt < 1048576) (h6 : x6.toInt = (x : Int)) (hx : x < 20) (hc : c = (1 : Int32) <<< (x6 &&& 31)) (he : e = v ||| c) : (0 ≤ e.toInt ∧ e.toInt < 1048576) ∧ ∀ i, i < 20 → (e.toInt.toNat / 2 ^ i % 2 = 1 ↔ v.toInt.toNat / 2 ^ i % 2 = 1 ∨ i = x) := by
  have h1 := z_nn hv.1
  have h2 : c.toBitVec.toNat < 1048576 := by rw [hc, z_of32 h6 (by omega)]; exact z_1sL x hx
  have h3 : e.toBitVec.toNat < 2 ^ 20 := by
    rw [he, Int32.toBitVec_or, BitVec.toNat_or]
    exact Nat.or_lt_two_pow (by omega) (by omega)
  have h4 : e.toInt = (e.toBitVec.toNat : Int) := BitVec.toInt_eq_toNat_of_lt (by omega)
  have h0 : 0 ≤ e.toInt ∧ e.toInt < 1048576 := ⟨by omega, by omega⟩
  refine ⟨h0, fun i hi => ?_⟩
  rw [← z_bt32 h0.1, ← z_bt32 hv.1, he, Int32.toBitVec_or, BitVec.getLsbD_or, Bool.or_eq_true, hc, z_of32 h6 (by omega), z_1sT x hx i (by omega), decide_eq_true_eq]
  all_goals exact Iff.rfl
/-- what a row tells: f its elements, size its places -/
def z_rdS (f : Nat → Int64) (size i : Int) (qs : Nat) (w : Int) : Prop := (0 ≤ w ∧ w < 1048576) ∧ ∀ k : Nat, k < 10 → ((w.toNat / 2 ^ k % 2 = 1 ↔ k < qs ∧ 0 ≤ i ∧ i + (k : Int) < size ∧ f (i.toNat + k) ≠ 0) ∧ (w.toNat / 2 ^ (k + 10) % 2 = 1 ↔ k < qs ∧ 0 ≤ i ∧ i + (k : Int) < size ∧ f (i.toNat + k) = 0))
def z_rdw (f : Nat → Int64) (size i : Int) (x : Nat) (w : Int) : Prop := z_rdS f size i x w ∧ 0 ≤ i ∧ (x = 0 ∨ i + (x : Int) ≤ size)
section ZRD
variable {f : Nat → Int64} {size i : Int} {x qs : Nat}
theorem z_rd0 {w : Int} {x0 : Int32} (hx : x0.toInt = 0) (hw : w = 0) (i0 : 0 ≤ i) : z_rdw f size i x0.toInt.toNat w := by
  rw [hx, hw]
  refine ⟨⟨⟨by decide, by decide⟩, fun k hk => ⟨⟨fun h => ?_, fun h => absurd h.1 (Nat.not_lt_zero k)⟩, ⟨fun h => ?_, fun h => absurd h.1 (Nat.not_lt_zero k)⟩⟩⟩, i0, Or.inl rfl⟩
  · rw [show ((0 : Int).toNat) = 0 from rfl, Nat.zero_div] at h
    exact absurd h (by decide)
  · rw [show ((0 : Int).toNat) = 0 from rfl, Nat.zero_div] at h
    exact absurd h (by decide)
/-- no place there: nothing is told -/
theorem z_rdN {w : Int} (hw : w = 0) (h : i < 0 ∨ size ≤ i) : z_rdS f size i qs w := by
  rw [hw]
  refine ⟨⟨by decide, by decide⟩, fun k hk => ⟨⟨fun h => ?_, fun h => ?_⟩, ⟨fun h => ?_, fun h => ?_⟩⟩⟩
  · rw [show ((0 : Int).toNat) = 0 from rfl, Nat.zero_div] at h
    exact absurd h (by decide)
  · exfalso; omega
  · rw [show ((0 : Int).toNat) = 0 from rfl, Nat.zero_div] at h
    exact absurd h (by decide)
  · exfalso; omega
theorem z_rdY {v c e x6 : Int32} (h : z_rdw f size i x v.toInt) (hx : x < 10) (hs : i + (x : Int) < size) (hf : f (i.toNat + x) ≠ 0) (h6 : x6.toInt = (x : Int)) (hc : c = (1 : Int32) <<< (x6 &&& 31)) (he : e = v ||| c) : z_rdw f size i (x + 1) e.toInt := by
  obtain ⟨⟨h1, h2⟩, h3, h4⟩ := h
  have h5 := z_orW2 h1 h6 (by omega) hc he
  refine ⟨⟨h5.1, fun k hk => ⟨?_, ?_⟩⟩, h3, Or.inr (by omega)⟩
  · rw [h5.2 k (by omega), (h2 k hk).1]
    refine ⟨fun a => ?_, fun ⟨a1, a2⟩ => ?_⟩
    · rcases a with a | a
      · exact ⟨by omega, a.2⟩
      · rw [a]
        exact ⟨by omega, h3, hs, hf⟩
    · by_cases d : k = x
      · exact Or.inr d
      · exact Or.inl ⟨by omega, a2⟩
  · rw [h5.2 (k + 10) (by omega), (h2 k hk).2]
    refine ⟨fun a => ?_, fun ⟨a1, a2⟩ => ?_⟩
    · rcases a with a | a
      · exact ⟨by omega, a.2⟩
      · exfalso; omega
    · by_cases d : k = x
      · rw [d] at a2
        exact absurd a2.2.2 hf
      · exact Or.inl ⟨by omega, a2⟩
theorem z_rdZ {v c e x6 : Int32} (h : z_rdw f size i x v.toInt) (hx : x < 10) (hs : i + (x : Int) < size) (hf : f (i.toNat + x) = 0) (h6 : x6.toInt = (x : Int) + 10) (hc : c = (1 : Int32) <<< (x6 &&& 31)) (he : e = v ||| c) : z_rdw f size i (x + 1) e.toInt := by
  obtain ⟨⟨h1, h2⟩, h3, h4⟩ := h
  have h5 := z_orW2 (x := x + 10) h1 (by omega) (by omega) hc he
  refine ⟨⟨h5.1, fun k hk => ⟨?_, ?_⟩⟩, h3, Or.inr (by omega)⟩
  · rw [h5.2 k (by omega), (h2 k hk).1]
    refine ⟨fun a => ?_, fun ⟨a1, a2⟩ => ?_⟩
    · rcases a with a | a
      · exact ⟨by omega, a.2⟩
      · exfalso; omega
    · by_cases d : k = x
      · rw [d] at a2
        exact absurd hf a2.2.2
      · exact Or.inl ⟨by omega, a2⟩
  · rw [h5.2 (k + 10) (by omega), (h2 k hk).2]
    refine ⟨fun a => ?_, fun ⟨a1, a2⟩ => ?_⟩
    · rcases a with a | a
      · exact ⟨by omega, a.2⟩
      · have e2 : k = x := by omega
        rw [e2]
        exact ⟨by omega, h3, hs, hf⟩
    · by_cases d : k = x
      · exact Or.inr (by omega)
      · exact Or.inl ⟨by omega, a2⟩
theorem z_rdE {w : Int} (h : z_rdw f size i x w) (hx : x ≤ qs) (he : x = qs ∨ size ≤ i + (x : Int)) : z_rdS f size i qs w := by
  obtain ⟨⟨h1, h2⟩, h3, h4⟩ := h
  refine ⟨h1, fun k hk => ⟨?_, ?_⟩⟩
  · rw [(h2 k hk).1]
    exact ⟨fun a => ⟨by omega, a.2⟩, fun a => ⟨by omega, a.2⟩⟩
  · rw [(h2 k hk).2]
    exact ⟨fun a => ⟨by omega, a.2⟩, fun a => ⟨by omega, a.2⟩⟩
end ZRD
/-- the reference's: yes ones and no ones apart -/
def y_rdS (f : Nat → Int64) (size i : Int) (x : Nat) (y n : Int) : Prop := (0 ≤ y ∧ y < 1024) ∧ (0 ≤ n ∧ n < 1024) ∧ ∀ k : Nat, k < 10 → ((y.toNat / 2 ^ k % 2 = 1 ↔ k < x ∧ 0 ≤ i ∧ i + (k : Int) < size ∧ f (i.toNat + k) ≠ 0) ∧ (n.toNat / 2 ^ k % 2 = 1 ↔ k < x ∧ 0 ≤ i ∧ i + (k : Int) < size ∧ f (i.toNat + k) = 0))
theorem z_rdT {f f2 : Nat → Int64} {size i : Int} {qs : Nat} {w y n : Int} (h : z_rdS f size i qs w) (h2 : y_rdS f2 size i qs y n) (hf : ∀ k : Nat, 0 ≤ i → i + (k : Int) < size → f (i.toNat + k) = f2 (i.toNat + k)) : w = y + 1024 * n := by
  obtain ⟨⟨a1, a2⟩, a3⟩ := h
  obtain ⟨⟨b1, b2⟩, ⟨c1, c2⟩, b3⟩ := h2
  have e : w.toNat = y.toNat + 1024 * n.toNat := by
    refine z_beq (t := 20) (by omega) (by omega) fun k hk => ?_
    by_cases c : k < 10
    · rw [z_dbl c, (a3 k c).1, (b3 k c).1]
      exact ⟨fun ⟨g1, g2, g3, g4⟩ => ⟨g1, g2, g3, by rw [← hf k g2 g3]; exact g4⟩, fun ⟨g1, g2, g3, g4⟩ => ⟨g1, g2, g3, by rw [hf k g2 g3]; exact g4⟩⟩
    · obtain ⟨j, rfl⟩ : ∃ j, k = j + 10 := ⟨k - 10, by omega⟩
      rw [z_dbh (by omega), (a3 j (by omega)).2, (b3 j (by omega)).2]
      exact ⟨fun ⟨g1, g2, g3, g4⟩ => ⟨g1, g2, g3, by rw [← hf j g2 g3]; exact g4⟩, fun ⟨g1, g2, g3, g4⟩ => ⟨g1, g2, g3, by rw [hf j g2 g3]; exact g4⟩⟩
  omega
/-- told answers of the agenda's questions alone -/
theorem z_ltq {x q : Nat} (hx : x < 1024) (h : ∀ k, k < 10 → x / 2 ^ k % 2 = 1 → k < q) : x < 2 ^ q := by
  have h1 : z_pof x (2 ^ q - 1) := fun k a => by
    have hk := h k (z_hi9 hx a) a
    have h2 : (2 ^ q - 1).testBit k = decide (k < q) := Nat.testBit_two_pow_sub_one q k
    rw [Nat.testBit_eq_decide_div_mod_eq, decide_eq_true hk] at h2
    exact of_decide_eq_true h2
  have h2 := h1.le
  have h3 : 0 < 2 ^ q := Nat.two_pow_pos q
  omega
theorem z_rdS.bits {f : Nat → Int64} {size i w : Int} {qs : Nat} (h : z_rdS f size i qs w) : (∀ k, k < 10 → (w.toNat % 1024) / 2 ^ k % 2 = 1 → k < qs) ∧ (∀ k, k < 10 → (w.toNat / 1024) / 2 ^ k % 2 = 1 → k < qs) ∧ ∀ k, k < 10 → (w.toNat % 1024) / 2 ^ k % 2 = 1 → (w.toNat / 1024) / 2 ^ k % 2 = 0 := by
  obtain ⟨⟨a1, a2⟩, a3⟩ := h
  have e : w.toNat = w.toNat % 1024 + 1024 * (w.toNat / 1024) := by omega
  have g1 : ∀ k, k < 10 → w.toNat / 2 ^ k % 2 = (w.toNat % 1024) / 2 ^ k % 2 := fun k hk => by
    have h1 := z_dbl (y := w.toNat % 1024) (n := w.toNat / 1024) hk
    rw [← e] at h1
    exact h1
  have g2 : ∀ k, k < 10 → w.toNat / 2 ^ (k + 10) % 2 = (w.toNat / 1024) / 2 ^ k % 2 := fun k hk => by
    have h1 := z_dbh (y := w.toNat % 1024) (n := w.toNat / 1024) (k := k) (Nat.mod_lt _ (by decide))
    rw [← e] at h1
    exact h1
  refine ⟨fun k hk b => ?_, fun k hk b => ?_, fun k hk b => z_m2n fun c => ?_⟩
  · rw [← g1 k hk] at b
    exact ((a3 k hk).1.mp b).1
  · rw [← g2 k hk] at b
    exact ((a3 k hk).2.mp b).1
  · rw [← g1 k hk] at b
    rw [← g2 k hk] at c
    exact ((a3 k hk).1.mp b).2.2.2 ((a3 k hk).2.mp c).2.2.2
theorem z_rdS.lt {f : Nat → Int64} {size i : Int} {w : Int32} {q : Nat} (h : z_rdS f size i q w.toInt) (_ : q ≤ 10) : w.toInt.toNat % 1024 < 2 ^ q ∧ w.toInt.toNat / 1024 < 2 ^ q := by
  have hb := h.bits
  have h1 := h.1
  exact ⟨z_ltq (Nat.mod_lt _ (by decide)) hb.1, z_ltq (by omega) hb.2.1⟩
theorem z_alt.post {T : List zK} {M0 M M1 : zH} {rs : List Nat} {b q t m J : Nat} {j Y N : Int32} (hbk : z_blk T M0) (hW : z_W M0 T) (kb : T[b]? = some (.inl (3, q, t, m, J))) (h : z_alt M0 M b j Y N) (ke : z_ke T rs M M1) (hr : (([202, 203] : List Nat).all fun x => !rs.elem x) = true := by decide) : z_alt M0 M1 b j Y N := by
  have nn := z_nin hr
  unfold z_alt at *
  rw [ke.a (hbk.k2 hW kb) (nn _ rfl), ke.a (hbk.k3 hW kb) (nn _ rfl)]
  exact h
def y_rdw (f : Nat → Int64) (size i : Int) (x : Nat) (y n ok : Int) : Prop := y_rdS f size i x y n ∧ ((ok = 1 ∧ (x = 0 ∨ (0 ≤ i ∧ i + (x : Int) ≤ size))) ∨ (ok = 0 ∧ ∃ k : Nat, k < x ∧ ¬ (0 ≤ i ∧ i + (k : Int) < size)))
section YRD
variable {f : Nat → Int64} {size i : Int} {x qs : Nat}
theorem y_rd0 {y n ok : Int} {x0 : Int32} (hx : x0.toInt = 0) (hy : y = 0) (hn : n = 0) (ho : ok = 1) : y_rdw f size i x0.toInt.toNat y n ok := by
  rw [hx, hy, hn]
  refine ⟨⟨⟨by decide, by decide⟩, ⟨by decide, by decide⟩, fun k hk => ⟨⟨fun h => ?_, fun h => absurd h.1 (Nat.not_lt_zero k)⟩, ⟨fun h => ?_, fun h => absurd h.1 (Nat.not_lt_zero k)⟩⟩⟩, Or.inl ⟨ho, Or.inl rfl⟩⟩
  · rw [show ((0 : Int).toNat) = 0 from rfl, Nat.zero_div] at h
    exact absurd h (by decide)
  · rw [show ((0 : Int).toNat) = 0 from rfl, Nat.zero_div] at h
    exact absurd h (by decide)
/-- there, and true -/
theorem y_rdA {v c e x6 n1 n2 : Int32} {ok : Int} (h : y_rdw f size i x v.toInt n1.toInt ok) (hx : x < 10) (hin : 0 ≤ i ∧ i + (x : Int) < size) (hf : f (i.toNat + x) ≠ 0) (h6 : x6.toInt = (x : Int)) (hc : c = (1 : Int32) <<< (x6 &&& 31)) (he : e = v ||| c) (hn : n2.toInt = n1.toInt) : y_rdw f size i (x + 1) e.toInt n2.toInt 1 := by
  obtain ⟨⟨h1, h0, h2⟩, _⟩ := h
  have h5 := z_orw h1 h6 hx hc he
  refine ⟨⟨h5.1, by rw [hn]; exact h0, fun k hk => ⟨?_, ?_⟩⟩, Or.inl ⟨rfl, Or.inr ⟨hin.1, by omega⟩⟩⟩
  · rw [h5.2 k hk, (h2 k hk).1]
    refine ⟨fun a => ?_, fun ⟨a1, a2⟩ => ?_⟩
    · rcases a with a | a
      · exact ⟨by omega, a.2⟩
      · rw [a]
        exact ⟨by omega, hin.1, hin.2, hf⟩
    · by_cases d : k = x
      · exact Or.inr d
      · exact Or.inl ⟨by omega, a2⟩
  · rw [hn, (h2 k hk).2]
    refine ⟨fun a => ⟨by omega, a.2⟩, fun ⟨a1, a2⟩ => ⟨?_, a2⟩⟩
    by_cases d : k = x
    · rw [d] at a2
      exact absurd a2.2.2 hf
    · omega
/-- there, and false -/
theorem y_rdB {v c e x6 y1 y2 : Int32} {ok : Int} (h : y_rdw f size i x y1.toInt v.toInt ok) (hx : x < 10) (hin : 0 ≤ i ∧ i + (x : Int) < size) (hf : f (i.toNat + x) = 0) (h6 : x6.toInt = (x : Int)) (hc : c = (1 : Int32) <<< (x6 &&& 31)) (he : e = v ||| c) (hy : y2.toInt = y1.toInt) : y_rdw f size i (x + 1) y2.toInt e.toInt 1 := by
  obtain ⟨⟨h0, h1, h2⟩, _⟩ := h
  have h5 := z_orw h1 h6 hx hc he
  refine ⟨⟨by rw [hy]; exact h0, h5.1, fun k hk => ⟨?_, ?_⟩⟩, Or.inl ⟨rfl, Or.inr ⟨hin.1, by omega⟩⟩⟩
  · rw [hy, (h2 k hk).1]
    refine ⟨fun a => ⟨by omega, a.2⟩, fun ⟨a1, a2⟩ => ⟨?_, a2⟩⟩
    by_cases d : k = x
    · rw [d] at a2
      exact absurd hf a2.2.2
    · omega
  · rw [h5.2 k hk, (h2 k hk).2]
    refine ⟨fun a => ?_, fun ⟨a1, a2⟩ => ?_⟩
    · rcases a with a | a
      · exact ⟨by omega, a.2⟩
      · rw [a]
        exact ⟨by omega, hin.1, hin.2, hf⟩
    · by_cases d : k = x
      · exact Or.inr d
      · exact Or.inl ⟨by omega, a2⟩
/-- not there -/
theorem y_rdC {y1 y2 n1 n2 : Int32} {ok : Int} (h : y_rdw f size i x y1.toInt n1.toInt ok) (hin : ok = 0 ∨ ¬ (0 ≤ i ∧ i + (x : Int) < size)) (hy : y2.toInt = y1.toInt) (hn : n2.toInt = n1.toInt) : y_rdw f size i (x + 1) y2.toInt n2.toInt 0 := by
  obtain ⟨⟨h0, h1, h2⟩, h3⟩ := h
  have hx : ∃ k : Nat, k < x + 1 ∧ ¬ (0 ≤ i ∧ i + (k : Int) < size) := by
    rcases hin with hin | hin
    · rcases h3 with h3 | ⟨_, k, h3, h4⟩
      · exact absurd (h3.1.symm.trans hin) (by decide)
      · exact ⟨k, by omega, h4⟩
    · exact ⟨x, Nat.lt_succ_self x, hin⟩
  obtain ⟨k0, hk0, hk1⟩ := hx
  have hno : ¬ (0 ≤ i ∧ i + (x : Int) < size) := fun a => hk1 ⟨a.1, by omega⟩
  refine ⟨⟨by rw [hy]; exact h0, by rw [hn]; exact h1, fun k hk => ⟨?_, ?_⟩⟩, Or.inr ⟨rfl, k0, hk0, hk1⟩⟩
  · rw [hy, (h2 k hk).1]
    refine ⟨fun a => ⟨by omega, a.2⟩, fun ⟨a1, a2⟩ => ⟨?_, a2⟩⟩
    by_cases d : k = x
    · rw [d] at a2
      exact absurd ⟨a2.1, a2.2.1⟩ hno
    · omega
  · rw [hn, (h2 k hk).2]
    refine ⟨fun a => ⟨by omega, a.2⟩, fun ⟨a1, a2⟩ => ⟨?_, a2⟩⟩
    by_cases d : k = x
    · rw [d] at a2
      exact absurd ⟨a2.1, a2.2.1⟩ hno
    · omega
end YRD
