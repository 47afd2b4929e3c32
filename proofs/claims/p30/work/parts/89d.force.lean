/-! what told answers force -/
theorem z_1shc : ∀ x, x < 10 → ∀ i, i < 32 → ((1 : Int32) <<< ((Int32.ofNat x) &&& 31)).toBitVec.getLsbD i = decide (i = x) := by decide +kernel
theorem z_1shl : ∀ x, x < 10 → ((1 : Int32) <<< ((Int32.ofNat x) &&& 31)).toBitVec.toNat < 1024 := by decide +kernel
theorem z_orw {v c e x6 : Int32} {x : Nat} (hv : 0 ≤ v.toInt ∧ v.toInt < 1024) (h6 : x6.toInt = (x : Int)) (hx : x < 10) (hc : c = (1 : Int32) <<< (x6 &&& 31)) (he : e = v ||| c) : (0 ≤ e.toInt ∧ e.toInt < 1024) ∧ ∀ i, i < 10 → (e.toInt.toNat / 2 ^ i % 2 = 1 ↔ v.toInt.toNat / 2 ^ i % 2 = 1 ∨ i = x) := by
  have h1 := z_nn hv.1
  have h2 : c.toBitVec.toNat < 1024 := by rw [hc, z_of32 h6 (by omega)]; exact z_1shl x hx
  have h3 : e.toBitVec.toNat < 2 ^ 10 := by
    rw [he, Int32.toBitVec_or, BitVec.toNat_or]
    exact Nat.or_lt_two_pow (by omega) (by omega)
  have h4 : e.toInt = (e.toBitVec.toNat : Int) := BitVec.toInt_eq_toNat_of_lt (by omega)
  have h0 : 0 ≤ e.toInt ∧ e.toInt < 1024 := ⟨by omega, by omega⟩
  refine ⟨h0, fun i hi => ?_⟩
  rw [← z_bt32 h0.1, ← z_bt32 hv.1, he, Int32.toBitVec_or, BitVec.getLsbD_or, Bool.or_eq_true, hc, z_of32 h6 (by omega), z_1shc x hx i (by omega), decide_eq_true_eq]
  all_goals exact Iff.rfl
/-- one of the lawful sets with told answers, of those numbered from lo on and below hi, answers a question so -/
def z_imf (B : Nat → Nat) (q y n lo hi k c : Nat) : Prop := ∃ s, s < 2 ^ q ∧ B s = 0 ∧ z_has s y n ∧ (lo ≤ z_lc B s ∧ z_lc B s < hi) ∧ s / 2 ^ k % 2 = c
/-- the questions that one answers so: by the first spans, and by the next of the questions below i -/
def z_iw (B : Nat → Nat) (q y n b i c : Nat) (w : Int) : Prop := (0 ≤ w ∧ w < 1024) ∧ ∀ k, k < 10 → (w.toNat / 2 ^ k % 2 = 1 ↔ k < q ∧ (z_imf B q y n 0 (64 * b) k c ∨ (k < i ∧ z_imf B q y n (64 * b) (64 * (b + 1)) k c)))
/-- one of all of them -/
def z_ef (B : Nat → Nat) (q y n k c : Nat) : Prop := ∃ s, s < 2 ^ q ∧ B s = 0 ∧ z_has s y n ∧ s / 2 ^ k % 2 = c
section ZIM
variable {B : Nat → Nat} {q y n b i c k sp m : Nat} {w : Int} {u l l2 r : Int64} {Y : Nat → Int64}
theorem z_imS : z_imf B q y n 0 (64 * (b + 1)) k c ↔ z_imf B q y n 0 (64 * b) k c ∨ z_imf B q y n (64 * b) (64 * (b + 1)) k c := by
  refine ⟨fun ⟨s, h1, h2, h3, h4, h5⟩ => ?_, fun h => ?_⟩
  · by_cases d : z_lc B s < 64 * b
    · exact Or.inl ⟨s, h1, h2, h3, ⟨h4.1, d⟩, h5⟩
    · exact Or.inr ⟨s, h1, h2, h3, ⟨by omega, h4.2⟩, h5⟩
  · rcases h with ⟨s, h1, h2, h3, h4, h5⟩ | ⟨s, h1, h2, h3, h4, h5⟩
    · exact ⟨s, h1, h2, h3, ⟨h4.1, by omega⟩, h5⟩
    · exact ⟨s, h1, h2, h3, ⟨Nat.zero_le _, h4.2⟩, h5⟩
theorem z_iw0 {x0 : Int32} (h0 : x0.toInt = 0) (hw : w = 0) : z_iw B q y n x0.toInt.toNat 0 c w := by
  rw [h0, hw]
  refine ⟨⟨by decide, by decide⟩, fun k hk => ⟨fun h => ?_, fun ⟨_, h⟩ => ?_⟩⟩
  · rw [show ((0 : Int).toNat) = 0 from rfl, Nat.zero_div] at h
    exact absurd h (by decide)
  · rcases h with ⟨s, _, _, _, h4, _⟩ | ⟨h, _⟩
    · exact absurd h4.2 (by show ¬ (z_lc B s < 64 * 0); omega)
    · exact absurd h (Nat.not_lt_zero k)
theorem z_iwN (h : z_iw B q y n b i c w) (hi : q ≤ i) : z_iw B q y n (b + 1) 0 c w := ⟨h.1, fun k hk => by
  rw [h.2 k hk, z_imS]
  refine ⟨fun ⟨h1, h2⟩ => ⟨h1, Or.inl (h2.imp id fun h => h.2)⟩, fun ⟨h1, h2⟩ => ⟨h1, ?_⟩⟩
  rcases h2 with h2 | ⟨h2, _⟩
  · exact h2.imp id fun h => ⟨by omega, h⟩
  · exact absurd h2 (Nat.not_lt_zero k)⟩
theorem z_iwZ (h : z_iw B q y n b i c w) (hz : ∀ k, ¬ z_imf B q y n (64 * b) (64 * (b + 1)) k c) : z_iw B q y n (b + 1) 0 c w := ⟨h.1, fun k hk => by
  rw [h.2 k hk, z_imS]
  refine ⟨fun ⟨h1, h2⟩ => ⟨h1, Or.inl (h2.imp id fun h => h.2)⟩, fun ⟨h1, h2⟩ => ⟨h1, ?_⟩⟩
  rcases h2 with h2 | ⟨h2, _⟩
  · exact h2.imp id fun h => absurd h (hz k)
  · exact absurd h2 (Nat.not_lt_zero k)⟩
theorem z_iwA (h : z_iw B q y n b i c w) (hz : ¬ z_imf B q y n (64 * b) (64 * (b + 1)) i c) : z_iw B q y n b (i + 1) c w := ⟨h.1, fun k hk => by
  rw [h.2 k hk]
  refine ⟨fun ⟨h1, h2⟩ => ⟨h1, h2.imp id fun h => ⟨by omega, h.2⟩⟩, fun ⟨h1, h2⟩ => ⟨h1, h2.imp id fun ⟨h3, h4⟩ => ⟨?_, h4⟩⟩⟩
  by_cases d : k = i
  · rw [d] at h4
    exact absurd h4 hz
  · omega⟩
theorem z_iwC {v e c2 x6 : Int32} (h : z_iw B q y n b i c v.toInt) (hz : z_imf B q y n (64 * b) (64 * (b + 1)) i c) (hq : i < q) (q10 : q ≤ 10) (h6 : x6.toInt = (i : Int)) (hc : c2 = (1 : Int32) <<< (x6 &&& 31)) (he : e = v ||| c2) : z_iw B q y n b (i + 1) c e.toInt := by
  have h1 := z_orw h.1 h6 (by omega) hc he
  refine ⟨h1.1, fun k hk => ?_⟩
  rw [h1.2 k hk, h.2 k hk]
  refine ⟨fun a => ?_, fun ⟨g1, g2⟩ => ?_⟩
  · rcases a with ⟨g1, g2⟩ | a
    · exact ⟨g1, g2.imp id fun g => ⟨by omega, g.2⟩⟩
    · rw [a]
      exact ⟨hq, Or.inr ⟨Nat.lt_succ_self i, hz⟩⟩
  · by_cases d : k = i
    · exact Or.inr d
    · exact Or.inl ⟨g1, g2.imp id fun ⟨g3, g4⟩ => ⟨by omega, g4⟩⟩
theorem z_imz (hL : ∀ i, i < 64 → (u.toBitVec.getLsbD i = true ↔ ∃ a, a < 2 ^ q ∧ B a = 0 ∧ z_lc B a = 64 * b + i ∧ z_has a y n)) (hu : u.toInt = 0) : ∀ k, ¬ z_imf B q y n (64 * b) (64 * (b + 1)) k c := fun k ⟨s, h1, h2, h3, h4, h5⟩ => by
  have e : u = 0 := Int64.toInt_inj.mp (hu.trans rfl)
  have h6 := (hL (z_lc B s - 64 * b) (by omega)).mpr ⟨s, h1, h2, by omega, h3⟩
  rw [e, z_nobit _ (by omega)] at h6
  cases h6
theorem z_imE {s : Nat} (hY : z_YO B (2 ^ q) 0 q sp Y) (hk : ∀ j, j < 64 → (l.toBitVec.getLsbD j = true ↔ z_yb Y sp i (64 * b + j))) (hi : i < q) (hb : b < sp) (h2 : B s = 0) (h1 : s < 2 ^ q) (h4 : 64 * b ≤ z_lc B s ∧ z_lc B s < 64 * (b + 1)) : l.toBitVec.getLsbD (z_lc B s - 64 * b) = true ↔ s / 2 ^ i % 2 = 1 := by
  rw [hk _ (by omega), show 64 * b + (z_lc B s - 64 * b) = z_lc B s by omega]
  unfold z_yb
  rw [hY i hi (z_lc B s) (by omega)]
  refine ⟨fun ⟨a2, _, g2, g3, g4⟩ => ?_, fun g => ⟨s, Or.inl h1, h2, rfl, g⟩⟩
  have e := z_lc_inj g2 h2 g3
  rw [e] at g4
  exact g4
theorem z_imY (hL : ∀ i, i < 64 → (u.toBitVec.getLsbD i = true ↔ ∃ a, a < 2 ^ q ∧ B a = 0 ∧ z_lc B a = 64 * b + i ∧ z_has a y n)) (hY : z_YO B (2 ^ q) 0 q sp Y) (hk : ∀ j, j < 64 → (l.toBitVec.getLsbD j = true ↔ z_yb Y sp i (64 * b + j))) (hi : i < q) (hb : b < sp) (hr : r = u &&& l) : r.toInt = 0 ↔ ¬ z_imf B q y n (64 * b) (64 * (b + 1)) i 1 := by
  rw [z_andz hr]
  refine ⟨fun h ⟨s, h1, h2, h3, h4, h5⟩ => ?_, fun h j hj ⟨g1, g2⟩ => ?_⟩
  · exact h (z_lc B s - 64 * b) (by omega) ⟨(hL _ (by omega)).mpr ⟨s, h1, h2, by omega, h3⟩, (z_imE hY hk hi hb h2 h1 h4).mpr h5⟩
  · obtain ⟨s, h1, h2, h3, h4⟩ := (hL j hj).mp g1
    refine h ⟨s, h1, h2, h4, ⟨by omega, by omega⟩, (z_imE hY hk hi hb h2 h1 ⟨by omega, by omega⟩).mp ?_⟩
    rw [show z_lc B s - 64 * b = j by omega]
    exact g2
theorem z_imN (hL : ∀ i, i < 64 → (u.toBitVec.getLsbD i = true ↔ ∃ a, a < 2 ^ q ∧ B a = 0 ∧ z_lc B a = 64 * b + i ∧ z_has a y n)) (hY : z_YO B (2 ^ q) 0 q sp Y) (hk : ∀ j, j < 64 → (l.toBitVec.getLsbD j = true ↔ z_yb Y sp i (64 * b + j))) (hi : i < q) (hb : b < sp) (hl : l2 = l ^^^ (-1)) (hr : r = u &&& l2) : r.toInt = 0 ↔ ¬ z_imf B q y n (64 * b) (64 * (b + 1)) i 0 := by
  have hb2 : ∀ j, j < 64 → (l2.toBitVec.getLsbD j = true ↔ ¬ l.toBitVec.getLsbD j = true) := fun j hj => by
    rw [hl, Int64.toBitVec_xor, BitVec.getLsbD_xor, z_allbit j hj, Bool.xor_true]
    cases l.toBitVec.getLsbD j with
    | false => exact ⟨fun _ a => (by cases a), fun _ => rfl⟩
    | true => exact ⟨fun a => (by cases a), fun a => absurd rfl a⟩
  rw [z_andz hr]
  refine ⟨fun h ⟨s, h1, h2, h3, h4, h5⟩ => ?_, fun h j hj ⟨g1, g2⟩ => ?_⟩
  · refine h (z_lc B s - 64 * b) (by omega) ⟨(hL _ (by omega)).mpr ⟨s, h1, h2, by omega, h3⟩, (hb2 _ (by omega)).mpr fun a => ?_⟩
    have a2 := (z_imE hY hk hi hb h2 h1 h4).mp a
    rw [h5] at a2
    cases a2
  · obtain ⟨s, h1, h2, h3, h4⟩ := (hL j hj).mp g1
    refine h ⟨s, h1, h2, h4, ⟨by omega, by omega⟩, z_m2n fun a => (hb2 j hj).mp g2 ?_⟩
    have h6 := (z_imE hY hk hi hb h2 h1 ⟨by omega, by omega⟩).mpr a
    rw [show z_lc B s - 64 * b = j by omega] at h6
    exact h6
theorem z_iwE (h : z_iw B q y n b 0 c w) (hm : m = z_lc B (2 ^ q)) (hb : z_sp m ≤ b) : ∀ k, k < 10 → (w.toNat / 2 ^ k % 2 = 1 ↔ k < q ∧ z_ef B q y n k c) := fun k hk => by
  rw [h.2 k hk]
  refine ⟨fun ⟨h1, h2⟩ => ⟨h1, ?_⟩, fun ⟨h1, s, g1, g2, g3, g4⟩ => ⟨h1, Or.inl ⟨s, g1, g2, g3, ⟨Nat.zero_le _, ?_⟩, g4⟩⟩⟩
  · rcases h2 with ⟨s, g1, g2, g3, _, g4⟩ | ⟨h2, _⟩
    · exact ⟨s, g1, g2, g3, g4⟩
    · exact absurd h2 (Nat.not_lt_zero k)
  · have h5 := z_lc_lt B g1 g2
    unfold z_sp at hb
    omega
/-- all that told answers force: -1 if they can't stand -/
def z_imp (B : Nat → Nat) (q y n : Nat) (x : Int) : Prop := (x = -1 ∧ ¬ z_cs B q y n) ∨ (z_cs B q y n ∧ (0 ≤ x ∧ x < 1048576) ∧ ∀ k, k < 10 → (x.toNat / 2 ^ k % 2 = 1 ↔ k < q ∧ z_ef B q y n k 1 ∧ ¬ z_ef B q y n k 0) ∧ (x.toNat / 2 ^ (k + 10) % 2 = 1 ↔ k < q ∧ z_ef B q y n k 0 ∧ ¬ z_ef B q y n k 1))
theorem z_cs_ef (k : Nat) : z_cs B q y n ↔ z_ef B q y n k 1 ∨ z_ef B q y n k 0 := by
  refine ⟨fun ⟨s, h1, h2, h3⟩ => ?_, fun h => ?_⟩
  · rcases z_m2c (s / 2 ^ k) with h | h
    · exact Or.inr ⟨s, h1, h2, h3, h⟩
    · exact Or.inl ⟨s, h1, h2, h3, h⟩
  · rcases h with ⟨s, h1, h2, h3, _⟩ | ⟨s, h1, h2, h3, _⟩
    · exact ⟨s, h1, h2, h3⟩
    · exact ⟨s, h1, h2, h3⟩
theorem z_imp0 {a d o : Int32} {x : Int} (ha : z_iw B q y n b 0 1 a.toInt) (hd : z_iw B q y n b 0 0 d.toInt) (hm : m = z_lc B (2 ^ q)) (hb : z_sp m ≤ b) (q1 : 1 ≤ q) (ho : o = a ||| d) (h0 : o.toInt = 0) (hx : x = -1) : z_imp B q y n x := by
  refine Or.inl ⟨hx, fun hc => ?_⟩
  have h2 := z_z32.mp h0 0 (by decide)
  rw [ho, Int32.toBitVec_or, BitVec.getLsbD_or] at h2
  rcases (z_cs_ef 0).mp hc with h | h
  · rw [(z_bt32 ha.1.1 0).mpr ((z_iwE ha hm hb 0 (by decide)).mpr ⟨by omega, h⟩), Bool.true_or] at h2
    cases h2
  · rw [(z_bt32 hd.1.1 0).mpr ((z_iwE hd hm hb 0 (by decide)).mpr ⟨by omega, h⟩), Bool.or_true] at h2
    cases h2
theorem z_bandn (x z : Bool) : (x && !z) = true ↔ x = true ∧ ¬ z = true := by
  cases x <;> cases z <;> decide
theorem z_imp1 {a d o na nd e1 e2 e3 e : Int32} (ha : z_iw B q y n b 0 1 a.toInt) (hd : z_iw B q y n b 0 0 d.toInt) (hm : m = z_lc B (2 ^ q)) (hb : z_sp m ≤ b) (ho : o = a ||| d) (h0 : o.toInt ≠ 0) (h1 : nd = d ^^^ (-1)) (h2 : e1 = a &&& nd) (h3 : na = a ^^^ (-1)) (h4 : e2 = d &&& na) (h5 : e3 = e2 <<< ((10 : Int32) &&& 31)) (h6 : e = e1 ||| e3) : z_imp B q y n e.toInt := by
  have hE1 := z_iwE ha hm hb
  have hE0 := z_iwE hd hm hb
  have a1 := ha.1
  have d1 := hd.1
  have hcs : z_cs B q y n := by
    refine Classical.byContradiction fun hn => h0 (z_z32.mpr fun i hi => ?_)
    have hn1 : ∀ k c, ¬ z_ef B q y n k c := fun k c ⟨s, g1, g2, g3, _⟩ => hn ⟨s, g1, g2, g3⟩
    rw [ho, Int32.toBitVec_or, BitVec.getLsbD_or]
    cases ca : a.toBitVec.getLsbD i with
    | true =>
      have g := (z_bt32 a1.1 i).mp ca
      exact absurd ((hE1 i (z_hi9 (by omega) g)).mp g).2 (hn1 _ _)
    | false =>
      cases cd : d.toBitVec.getLsbD i with
      | true =>
        have g := (z_bt32 d1.1 i).mp cd
        exact absurd ((hE0 i (z_hi9 (by omega) g)).mp g).2 (hn1 _ _)
      | false => rfl
  have b1 : 0 ≤ e1.toInt ∧ e1.toInt ≤ a.toInt := by rw [h2]; exact z_pAndL rfl a1.1
  have b2 : 0 ≤ e2.toInt ∧ e2.toInt ≤ d.toInt := by rw [h4]; exact z_pAndL rfl d1.1
  have ht := z_told (y := e1) (n := e2) ⟨by omega, by omega⟩ ⟨by omega, by omega⟩ h5 h6
  have ex : e.toInt.toNat = e1.toInt.toNat + 1024 * e2.toInt.toNat := by omega
  refine Or.inr ⟨hcs, ⟨by omega, by omega⟩, fun k hk => ?_⟩
  have g1 : e1.toBitVec.getLsbD k = (a.toBitVec.getLsbD k && !d.toBitVec.getLsbD k) := by rw [h2, Int32.toBitVec_and, BitVec.getLsbD_and, h1, Int32.toBitVec_xor, BitVec.getLsbD_xor, z_m1b k (by omega), Bool.xor_true]
  have g2 : e2.toBitVec.getLsbD k = (d.toBitVec.getLsbD k && !a.toBitVec.getLsbD k) := by rw [h4, Int32.toBitVec_and, BitVec.getLsbD_and, h3, Int32.toBitVec_xor, BitVec.getLsbD_xor, z_m1b k (by omega), Bool.xor_true]
  have A := hE1 k hk
  have D := hE0 k hk
  rw [← z_bt32 a1.1] at A
  rw [← z_bt32 d1.1] at D
  rw [ex, z_dbl hk, z_dbh ht.2.1, ← z_bt32 b1.1, ← z_bt32 b2.1, g1, g2, z_bandn, z_bandn, A, D]
  exact ⟨⟨fun ⟨⟨g, h⟩, i⟩ => ⟨g, h, fun j => i ⟨g, j⟩⟩, fun ⟨g, h, i⟩ => ⟨⟨g, h⟩, fun j => i j.2⟩⟩, ⟨fun ⟨⟨g, h⟩, i⟩ => ⟨g, h, fun j => i ⟨g, j⟩⟩, fun ⟨g, h, i⟩ => ⟨⟨g, h⟩, fun j => i j.2⟩⟩⟩
end ZIM
/-- the reference: one of the first sets has them and answers a question so -/
def y_fs (S : Nat → Int32) (y n : Int32) (k c i : Nat) : Prop := ∃ j, j < i ∧ y_ht (S j) y n ∧ (S j).toInt.toNat / 2 ^ k % 2 = c
def y_fb (S : Nat → Int32) (y n : Int32) (k c i : Nat) (x : Int) : Prop := (x = 1 ∧ y_fs S y n k c i) ∨ (x = 0 ∧ ¬ y_fs S y n k c i)
section ZFB
variable {S : Nat → Int32} {y n s : Int32} {k c i : Nat} {x x2 : Int}
theorem y_fb0 {x0 : Int32} (h0 : x0.toInt = 0) (hx : x = 0) : y_fb S y n k c x0.toInt.toNat x := Or.inr ⟨hx, fun ⟨j, hj, _⟩ => by
  rw [h0] at hj
  exact absurd hj (Nat.not_lt_zero j)⟩
theorem y_fbK (h : y_fb S y n k c i x) (hx : x ≠ 0) (h2 : x2 = 1) : y_fb S y n k c (i + 1) x2 := by
  rcases h with ⟨_, j, h3, h4⟩ | ⟨h3, _⟩
  · exact Or.inl ⟨h2, j, by omega, h4⟩
  · exact absurd h3 hx
theorem y_fbY (_ : y_fb S y n k c i x) (h2 : x2 = 1) (hs : S i = s) (ht : y_ht s y n) (hc : s.toInt.toNat / 2 ^ k % 2 = c) : y_fb S y n k c (i + 1) x2 := Or.inl ⟨h2, i, Nat.lt_succ_self i, by rw [hs]; exact ⟨ht, hc⟩⟩
theorem y_fbN (h : y_fb S y n k c i x) (h2 : x2 = x) (hs : S i = s) (ht : ¬ (y_ht s y n ∧ s.toInt.toNat / 2 ^ k % 2 = c)) : y_fb S y n k c (i + 1) x2 := by
  rcases h with ⟨h3, j, h4, h5⟩ | ⟨h3, h4⟩
  · exact Or.inl ⟨by omega, j, by omega, h5⟩
  · refine Or.inr ⟨by omega, fun ⟨j, h5, h6⟩ => ?_⟩
    by_cases d : j = i
    · rw [d, hs] at h6
      exact ht h6
    · exact h4 ⟨j, by omega, h6⟩
theorem y_fb1 (h : y_fb S y n k c i x) (hx : x ≠ 0) : y_fs S y n k c i := by
  rcases h with h | h
  · exact h.2
  · exact absurd h.1 hx
theorem y_fbn (h : y_fb S y n k c i x) (hx : x = 0) : ¬ y_fs S y n k c i := by
  rcases h with h | h
  · exact absurd (h.1.symm.trans hx) (by decide)
  · exact h.2
end ZFB
def y_fo (S : Nat → Int32) (y n : Int32) (k m : Nat) (x : Int) : Prop := (x = -3 ∧ ¬ y_fs S y n k 1 m ∧ ¬ y_fs S y n k 0 m) ∨ (x = 1 ∧ y_fs S y n k 1 m ∧ ¬ y_fs S y n k 0 m) ∨ (x = 0 ∧ ¬ y_fs S y n k 1 m ∧ y_fs S y n k 0 m) ∨ (x = -2 ∧ y_fs S y n k 1 m ∧ y_fs S y n k 0 m)
theorem y_fsE {B : Nat → Nat} {q m k c : Nat} {S : Nat → Int32} {y n : Int32} (hS : z_LS B (2 ^ q) S) (hm : m = z_lc B (2 ^ q)) (q10 : q ≤ 10) (hy : 0 ≤ y.toInt ∧ y.toInt < 1024) (hn : 0 ≤ n.toInt ∧ n.toInt < 1024) : y_fs S y n k c m ↔ z_ef B q y.toInt.toNat n.toInt.toNat k c := by
  have hP : 2 ^ q ≤ 1024 := Nat.pow_le_pow_right (n := 2) (by decide) q10
  have hk : ∀ s, s < 2 ^ q → B s = 0 → ((y_ht (S (z_lc B s)) y n ↔ z_has s y.toInt.toNat n.toInt.toNat) ∧ (S (z_lc B s)).toInt.toNat = s) := fun s h1 h2 => by
    have h3 := hS s h1 h2
    have h4 := z_htb (s := S (z_lc B s)) ⟨by omega, by omega⟩ hy hn
    have h5 : (S (z_lc B s)).toInt.toNat = s := by omega
    rw [h5] at h4
    exact ⟨h4, h5⟩
  refine ⟨fun ⟨j, h1, h2, h3⟩ => ?_, fun ⟨s, h1, h2, h3, h4⟩ => ⟨z_lc B s, ?_, (hk s h1 h2).1.mpr h3, by rw [(hk s h1 h2).2]; exact h4⟩⟩
  · obtain ⟨s, g1, g2, g3⟩ := z_lc_ex (B := B) (2 ^ q) j (by rw [← hm]; exact h1)
    rw [← g3] at h2 h3
    rw [(hk s g1 g2).2] at h3
    exact ⟨s, g1, g2, (hk s g1 g2).1.mp h2, h3⟩
  · rw [hm]
    exact z_lc_lt B h1 h2
