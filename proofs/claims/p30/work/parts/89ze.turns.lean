/-! by turns: what a question's turn answers -/
theorem z_or1i {x : Int32} (h : 0 ≤ x.toInt ∧ x.toInt ≤ 1) : (x ||| 1).toInt = 1 := by
  have e : x = 0 ∨ x = 1 := by
    by_cases c : x.toInt = 0
    · exact Or.inl (Int32.toInt_inj.mp c)
    · exact Or.inr (Int32.toInt_inj.mp (show x.toInt = 1 by omega))
  rcases e with e | e <;> rw [e] <;> decide
theorem z_blk.k10 {T : List zK} {M : zH} {b q t m J : Nat} (h : z_blk T M) (hW : z_W M T) (hb : T[b]? = some (.inl (3, q, t, m, J))) : T[b + 10]? = some (z_al 209 (z_sp m)) := z_obf hW hb (h b q t m J hb).2.2.2.2.2.2.2.2.2
/-- the spans left: the lawful sets that have the answers so far -/
def z_lft (B : Nat → Nat) (q y n sp : Nat) (W : Nat → Int64) : Prop := ∀ b, b < sp → ∀ i, i < 64 → ((W b).toBitVec.getLsbD i = true ↔ ∃ a, a < 2 ^ q ∧ B a = 0 ∧ z_lc B a = 64 * b + i ∧ z_has a y n)
/-- whether the question's turn answers yes -/
def z_tuY (B : Nat → Nat) (q : Nat) (lk : Int) (op : Prop) (y n k : Nat) : Prop := (z_ef B q y n k 1 ∧ ¬ z_ef B q y n k 0) ∨ ((z_ef B q y n k 1 ↔ z_ef B q y n k 0) ∧ (0 < lk ∨ (lk = 0 ∧ op)))
def z_cf (B : Nat → Nat) (q y n k c b : Nat) (x : Int) : Prop := (x = 1 ∧ z_imf B q y n 0 (64 * b) k c) ∨ (x = 0 ∧ ¬ z_imf B q y n 0 (64 * b) k c)
section ZTU
variable {B : Nat → Nat} {q y n k c b m : Nat} {x x2 z r lk : Int} {op : Prop}
theorem z_cf0 {x0 : Int32} (h0 : x0.toInt = 0) (hx : x = 0) : z_cf B q y n k c x0.toInt.toNat x := Or.inr ⟨hx, fun ⟨s, _, _, _, h4, _⟩ => by
  rw [h0] at h4
  omega⟩
theorem z_cfY (h : z_cf B q y n k c b x) (hi : z_imf B q y n (64 * b) (64 * (b + 1)) k c) (hx : x2 = 1) : z_cf B q y n k c (b + 1) x2 := Or.inl ⟨hx, z_imS.mpr (Or.inr hi)⟩
theorem z_cfN (h : z_cf B q y n k c b x) (hi : ¬ z_imf B q y n (64 * b) (64 * (b + 1)) k c) (hx : x2 = x) : z_cf B q y n k c (b + 1) x2 := by
  rcases h with ⟨h1, h2⟩ | ⟨h1, h2⟩
  · exact Or.inl ⟨hx.trans h1, z_imS.mpr (Or.inl h2)⟩
  · exact Or.inr ⟨hx.trans h1, fun a => (z_imS.mp a).elim h2 hi⟩
theorem z_cfE (h : z_cf B q y n k c b x) (hm : m = z_lc B (2 ^ q)) (hb : z_sp m ≤ b ∨ x = 1) : (x = 1 ∧ z_ef B q y n k c) ∨ (x = 0 ∧ ¬ z_ef B q y n k c) := by
  rcases h with ⟨h1, s, g1, g2, g3, _, g5⟩ | ⟨h1, h2⟩
  · exact Or.inl ⟨h1, s, g1, g2, g3, g5⟩
  · refine Or.inr ⟨h1, fun ⟨s, g1, g2, g3, g5⟩ => h2 ⟨s, g1, g2, g3, ⟨Nat.zero_le _, ?_⟩, g5⟩⟩
    have h5 := z_lc_lt B g1 g2
    have h6 : z_sp m ≤ b := hb.resolve_right (by omega)
    unfold z_sp at h6
    omega
theorem z_tuA (h1 : (x = 1 ∧ z_ef B q y n k 1) ∨ (x = 0 ∧ ¬ z_ef B q y n k 1)) (h0 : (z = 1 ∧ z_ef B q y n k 0) ∨ (z = 0 ∧ ¬ z_ef B q y n k 0)) (hne : x ≠ z) (hr : r = x) : (r = 1 ∧ z_tuY B q lk op y n k) ∨ (r = 0 ∧ ¬ z_tuY B q lk op y n k) := by
  rcases h1 with ⟨a1, a2⟩ | ⟨a1, a2⟩
  · rcases h0 with ⟨b1, b2⟩ | ⟨b1, b2⟩
    · omega
    · exact Or.inl ⟨hr.trans a1, Or.inl ⟨a2, b2⟩⟩
  · rcases h0 with ⟨b1, b2⟩ | ⟨b1, b2⟩
    · exact Or.inr ⟨hr.trans a1, fun h => h.elim (fun u => a2 u.1) fun u => a2 (u.1.mpr b2)⟩
    · omega
theorem z_tuB (h1 : (x = 1 ∧ z_ef B q y n k 1) ∨ (x = 0 ∧ ¬ z_ef B q y n k 1)) (h0 : (z = 1 ∧ z_ef B q y n k 0) ∨ (z = 0 ∧ ¬ z_ef B q y n k 0)) (heq : x = z) (hr : (r = 1 ∧ (0 < lk ∨ (lk = 0 ∧ op))) ∨ (r = 0 ∧ ¬ (0 < lk ∨ (lk = 0 ∧ op)))) : (r = 1 ∧ z_tuY B q lk op y n k) ∨ (r = 0 ∧ ¬ z_tuY B q lk op y n k) := by
  have hi : z_ef B q y n k 1 ↔ z_ef B q y n k 0 := by
    rcases h1 with ⟨a1, a2⟩ | ⟨a1, a2⟩
    · rcases h0 with ⟨b1, b2⟩ | ⟨b1, b2⟩
      · exact ⟨fun _ => b2, fun _ => a2⟩
      · omega
    · rcases h0 with ⟨b1, b2⟩ | ⟨b1, b2⟩
      · omega
      · exact ⟨fun a => absurd a a2, fun b => absurd b b2⟩
  rcases hr with ⟨r1, r2⟩ | ⟨r1, r2⟩
  · exact Or.inl ⟨r1, Or.inr ⟨hi, r2⟩⟩
  · refine Or.inr ⟨r1, fun h => ?_⟩
    rcases h with ⟨u1, u2⟩ | ⟨_, u2⟩
    · exact u2 (hi.mp u1)
    · exact r2 u2
end ZTU
/-- the answers by turns, the first i of the order -/
def z_tuR (B : Nat → Nat) (q : Nat) (L : Nat → Int) (op : Nat → Prop) (o : Nat → Nat) : Nat → Nat → Nat → Prop
  | 0, y, n => y = 0 ∧ n = 0
  | i + 1, y, n => ∃ y0 n0, z_tuR B q L op o i y0 n0 ∧ ((z_tuY B q (L (o i)) (op (o i)) y0 n0 (o i) ∧ y = y0 ||| 2 ^ o i ∧ n = n0) ∨ (¬ z_tuY B q (L (o i)) (op (o i)) y0 n0 (o i) ∧ y = y0 ∧ n = n0 ||| 2 ^ o i))
theorem z_tuU {B : Nat → Nat} {q : Nat} {L L2 : Nat → Int} {op op2 : Nat → Prop} {o o2 : Nat → Nat} : ∀ i y n y2 n2, (∀ k, k < i → o k = o2 k) → (∀ k, k < i → (0 < L (o k) ↔ 0 < L2 (o k)) ∧ (L (o k) = 0 ↔ L2 (o k) = 0) ∧ (op (o k) ↔ op2 (o k))) → z_tuR B q L op o i y n → z_tuR B q L2 op2 o2 i y2 n2 → y = y2 ∧ n = n2
  | 0, y, n, y2, n2, _, _, h1, h2 => ⟨h1.1.trans h2.1.symm, h1.2.trans h2.2.symm⟩
  | i + 1, y, n, y2, n2, ho, hL, h1, h2 => by
    obtain ⟨y0, n0, h1, h3⟩ := h1
    obtain ⟨y02, n02, h2, h4⟩ := h2
    obtain ⟨rfl, rfl⟩ := z_tuU i y0 n0 y02 n02 (fun k hk => ho k (by omega)) (fun k hk => hL k (by omega)) h1 h2
    rw [← ho i (Nat.lt_succ_self i)] at h4
    obtain ⟨l1, l2, l3⟩ := hL i (Nat.lt_succ_self i)
    have e : z_tuY B q (L (o i)) (op (o i)) y0 n0 (o i) ↔ z_tuY B q (L2 (o i)) (op2 (o i)) y0 n0 (o i) := by
      unfold z_tuY
      rw [l1, l2, l3]
    rcases h3 with ⟨a1, a2, a3⟩ | ⟨a1, a2, a3⟩
    · rcases h4 with ⟨b1, b2, b3⟩ | ⟨b1, b2, b3⟩
      · exact ⟨a2.trans b2.symm, a3.trans b3.symm⟩
      · exact absurd (e.mp a1) b1
    · rcases h4 with ⟨b1, b2, b3⟩ | ⟨b1, b2, b3⟩
      · exact absurd (e.mpr b1) a1
      · exact ⟨a2.trans b2.symm, a3.trans b3.symm⟩
