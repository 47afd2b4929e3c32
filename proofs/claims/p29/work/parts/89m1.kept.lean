/-! mend: the sets that keep all but the dropped ties -/
def z_kpd (w : Int64) (kb : Nat → Int64) (bl b d t : Nat) (x : Int64) : Prop := ∀ i, i < 64 → (x.toBitVec.getLsbD i = true ↔ (w.toBitVec.getLsbD i = true ∧ ∀ t', t' < t → d / 2 ^ t' % 2 = 0 → (kb (t' * bl + b)).toBitVec.getLsbD i = true))
section ZKD
variable {w x y z : Int64} {kb : Nat → Int64} {bl b d t t2 : Nat}
theorem z_kpd0 : z_kpd w kb bl b d 0 w := fun i _ => ⟨fun h => ⟨h, fun t' h' => absurd h' (Nat.not_lt_zero t')⟩, fun h => h.1⟩
theorem z_kpdS (h : z_kpd w kb bl b d t x) (hy : kb (t * bl + b) = y) (e : z = x &&& y) (hd : d / 2 ^ t % 2 = 0) : z_kpd w kb bl b d (t + 1) z := fun i hi => by
  have h1 := h i hi
  rw [e, Int64.toBitVec_and, BitVec.getLsbD_and, Bool.and_eq_true, h1, ← hy]
  refine ⟨fun a => ⟨a.1.1, fun t' ht hd' => ?_⟩, fun a => ⟨⟨a.1, fun t' ht => a.2 t' (by omega)⟩, a.2 t (Nat.lt_succ_self t) hd⟩⟩
  by_cases c : t' = t
  · rw [c]; exact a.2
  · exact a.1.2 t' (by omega) hd'
theorem z_kpdN (h : z_kpd w kb bl b d t x) (hd : d / 2 ^ t % 2 ≠ 0) : z_kpd w kb bl b d (t + 1) x := fun i hi => by
  have h1 := h i hi
  rw [h1]
  refine ⟨fun a => ⟨a.1, fun t' ht hd' => ?_⟩, fun a => ⟨a.1, fun t' ht => a.2 t' (by omega)⟩⟩
  by_cases c : t' = t
  · rw [c] at hd'
    exact absurd hd' hd
  · exact a.2 t' (by omega) hd'
theorem z_kpdE (h : z_kpd w kb bl b d t x) (hx : x.toInt = 0) (ht : t ≤ t2) : z_kpd w kb bl b d t2 x := fun i hi => by
  have x0 : x = 0 := Int64.toInt_inj.mp (hx.trans rfl)
  refine ⟨fun a => ?_, fun a => (h i hi).mpr ⟨a.1, fun t' h' => a.2 t' (by omega)⟩⟩
  rw [x0, z_nobit i hi] at a
  cases a
/-- what a set still breaks when d is dropped: 0, nothing -/
def z_dB (B : Nat → Nat) (t q d s : Nat) : Nat := if s < 2 ^ q ∧ ∀ i, i < t → d / 2 ^ i % 2 = 0 → B s / 2 ^ i % 2 = 0 then 0 else 1
theorem z_dB0 {B : Nat → Nat} {q s : Nat} : z_dB B t q d s = 0 ↔ s < 2 ^ q ∧ ∀ i, i < t → d / 2 ^ i % 2 = 0 → B s / 2 ^ i % 2 = 0 := by
  unfold z_dB
  by_cases c : s < 2 ^ q ∧ ∀ i, i < t → d / 2 ^ i % 2 = 0 → B s / 2 ^ i % 2 = 0
  · rw [if_pos c]
    exact ⟨fun _ => c, fun _ => rfl⟩
  · rw [if_neg c]
    exact ⟨fun h => absurd h (by decide), fun h => absurd h c⟩
/-- all blocks' words: the sets kept -/
theorem z_lwbd {B : Nat → Nat} {q : Nat} {g l : Nat → Int64} (hw : z_whb q w) (hk : z_tbt B t q (z_bl q) g) (hl : ∀ b, b < z_bl q → z_kpd w g (z_bl q) b d t (l b)) : z_lwb (z_dB B t q d) q (z_bl q) l := fun s hs => by
  have hb : s / 64 < z_bl q := by omega
  have hi : s % 64 < 64 := Nat.mod_lt _ (by decide)
  rw [hl (s / 64) hb (s % 64) hi, hw (s % 64) hi, z_hi2 hs, z_dB0]
  refine ⟨fun a => ⟨a.1, a.1, fun i h1 h2 => ((hk i h1 s hs).mp (a.2 i h1 h2)).2⟩, fun a => ⟨a.1, fun i h1 h2 => (hk i h1 s hs).mpr ⟨a.1, a.2.2 i h1 h2⟩⟩⟩
end ZKD
theorem z_b01z {x : Int32} {v : Nat} (h : x.toInt = ((v % 2 : Nat) : Int)) : (x.toInt = 0 → v % 2 = 0) ∧ (x.toInt ≠ 0 → v % 2 ≠ 0) := ⟨fun a => by omega, fun a => by omega⟩
theorem z_rfM {o : Option Value} {a b : Nat} (h : o = some (.ref a)) (h2 : o = some (.ref b)) : a = b := by
  rw [h] at h2
  cases h2
  rfl
theorem z_rle {o : Option Value} {a b : Int64} (h : o = some (.long a)) (h2 : o = some (.long b)) : a = b := by
  rw [h] at h2
  cases h2
  rfl
theorem z_kix {g : Nat → Int64} {x y p z s : Int32} {B : Nat} {v : Int64} (hz : p.toInt = x.toInt * y.toInt) (hy : y.toInt = (B : Int)) (x0 : 0 ≤ x.toInt) (hs : z.toInt = p.toInt + s.toInt) (s0 : 0 ≤ s.toInt) (h : g z.toNatClampNeg = v) : g (x.toInt.toNat * B + s.toInt.toNat) = v := by
  rw [← z_ixm hz hy x0 hs s0]
  exact h
