/-! what a way decides: the words of yes and of no -/
theorem z_q2b {s q k : Nat} (hs : s < 2 ^ q) (h : s / 2 ^ k % 2 = 1) : k < q := by
  by_cases c : k < q
  · exact c
  · have h3 : 2 ^ q ≤ 2 ^ k := Nat.pow_le_pow_right (n := 2) (by decide) (by omega)
    rw [Nat.div_eq_of_lt (by omega)] at h
    cases h
def z_wbo (q : Nat) (P Q : Nat → Prop) (y n : Nat) : Prop := (y < 1024 ∧ n < 1024) ∧ ∀ k, k < 10 → (y / 2 ^ k % 2 = 1 ↔ k < q ∧ P k) ∧ (n / 2 ^ k % 2 = 1 ↔ k < q ∧ Q k)
theorem z_boU {q y n y2 n2 : Nat} {P Q P2 Q2 : Nat → Prop} (h : z_wbo q P Q y n) (h2 : z_wbo q P2 Q2 y2 n2) (e : ∀ k, k < q → (P k ↔ P2 k) ∧ (Q k ↔ Q2 k)) : y = y2 ∧ n = n2 := by
  obtain ⟨⟨a1, a2⟩, a3⟩ := h
  obtain ⟨⟨b1, b2⟩, b3⟩ := h2
  refine ⟨z_beq (t := 10) a1 b1 fun k hk => ?_, z_beq (t := 10) a2 b2 fun k hk => ?_⟩
  · rw [(a3 k hk).1, (b3 k hk).1]
    exact ⟨fun ⟨c1, c2⟩ => ⟨c1, (e k c1).1.mp c2⟩, fun ⟨c1, c2⟩ => ⟨c1, (e k c1).1.mpr c2⟩⟩
  · rw [(a3 k hk).2, (b3 k hk).2]
    exact ⟨fun ⟨c1, c2⟩ => ⟨c1, (e k c1).2.mp c2⟩, fun ⟨c1, c2⟩ => ⟨c1, (e k c1).2.mpr c2⟩⟩
theorem z_boC {q y n : Nat} {P Q P2 Q2 : Nat → Prop} (h : z_wbo q P Q y n) (e : ∀ k, k < q → (P k ↔ P2 k) ∧ (Q k ↔ Q2 k)) : z_wbo q P2 Q2 y n := ⟨h.1, fun k hk => by
  obtain ⟨h1, h2⟩ := h.2 k hk
  rw [h1, h2]
  exact ⟨⟨fun ⟨c1, c2⟩ => ⟨c1, (e k c1).1.mp c2⟩, fun ⟨c1, c2⟩ => ⟨c1, (e k c1).1.mpr c2⟩⟩, ⟨fun ⟨c1, c2⟩ => ⟨c1, (e k c1).2.mp c2⟩, fun ⟨c1, c2⟩ => ⟨c1, (e k c1).2.mpr c2⟩⟩⟩⟩
def z_F1 (B : Nat → Nat) (q y n k : Nat) : Prop := z_ef B q y n k 1 ∧ ¬ z_ef B q y n k 0
def z_F0 (B : Nat → Nat) (q y n k : Nat) : Prop := z_ef B q y n k 0 ∧ ¬ z_ef B q y n k 1
/-- the nearest: of those that have the told answers the first that leans most -/
def z_nrst (B : Nat → Nat) (q : Nat) (g : Nat → Int) (y n s : Nat) : Prop := s < 2 ^ q ∧ B s = 0 ∧ z_has s y n ∧ ∀ s2, s2 < 2 ^ q → B s2 = 0 → z_has s2 y n → g s2 ≤ g s ∧ (s2 < s → g s2 < g s)
theorem z_nrstU {B : Nat → Nat} {q y n s s2 : Nat} {g g2 : Nat → Int} (h : z_nrst B q g y n s) (h2 : z_nrst B q g2 y n s2) (e : ∀ a, a < 2 ^ q → g a = g2 a) : s = s2 := by
  obtain ⟨a1, a2, a3, a4⟩ := h
  obtain ⟨b1, b2, b3, b4⟩ := h2
  have c1 := a4 s2 b1 b2 b3
  have c2 := b4 s a1 a2 a3
  have e1 := e s a1
  have e2 := e s2 b1
  by_cases d : s < s2
  · have := c2.2 d
    omega
  · by_cases d2 : s2 < s
    · have := c1.2 d2
      omega
    · omega
/-- the list's nearest is the nearest -/
theorem z_nofN {B : Nat → Nat} {q y n m : Nat} {g : Nat → Int} {F : Int32 → Int} {S : Nat → Int32} {H : Int32 → Prop} {x C : Int} (hm : m = z_lc B (2 ^ q)) (hS : ∀ s, s < 2 ^ q → B s = 0 → (S (z_lc B s)).toInt = (s : Int)) (hF : ∀ (s : Nat) (v : Int32), s < 2 ^ q → B s = 0 → v.toInt = (s : Int) → F v = C - g s) (hH : ∀ (s : Nat) (v : Int32), s < 2 ^ q → B s = 0 → v.toInt = (s : Int) → (H v ↔ z_has s y n)) (h : z_nofD F S H m x) : (x = -1 ∧ ∀ s, s < 2 ^ q → B s = 0 → ¬ z_has s y n) ∨ (0 ≤ x ∧ z_nrst B q g y n x.toNat) := by
  have hlt : ∀ s, s < 2 ^ q → B s = 0 → z_lc B s < m := fun s h1 h2 => by rw [hm]; exact z_lc_lt B h1 h2
  rcases h with ⟨h1, h2⟩ | ⟨k, h1, h2, h3, h4, h5, h6⟩
  · exact Or.inl ⟨h1, fun s a1 a2 a3 => h2 _ (hlt s a1 a2) ((hH s _ a1 a2 (hS s a1 a2)).mpr a3)⟩
  · obtain ⟨s, s1, s2, s3⟩ := z_lc_ex (B := B) (2 ^ q) k (by omega)
    have e := hS s s1 s2
    rw [s3] at e
    have ex : x.toNat = s := by omega
    rw [ex]
    refine Or.inr ⟨h3, s1, s2, (hH s _ s1 s2 e).mp h4, fun a a1 a2 a3 => ?_⟩
    have ea := hS a a1 a2
    have ha := (hH a _ a1 a2 ea).mpr a3
    have f1 := hF s _ s1 s2 e
    have f2 := hF a _ a1 a2 ea
    have g1 := h5 _ (hlt a a1 a2) ha
    refine ⟨by omega, fun hc => ?_⟩
    have g2 := h6 (z_lc B a) (by rw [← s3]; exact z_lc_lt B hc a2) ha
    omega
/-! the ways -/
def z_oP (B : Nat → Nat) (q pr : Nat) (L : Nat → Int) (y n : Nat) : Prop := ∃ y1 n1, z_wbo q (fun k => pr / 2 ^ k % 2 = 1 ∧ 0 < L k) (fun k => pr / 2 ^ k % 2 = 1 ∧ L k < 0) y1 n1 ∧ z_wbo q (fun k => (pr / 2 ^ k % 2 = 1 ∧ 0 < L k) ∨ (¬ pr / 2 ^ k % 2 = 1 ∧ z_F1 B q y1 n1 k)) (fun k => (pr / 2 ^ k % 2 = 1 ∧ L k < 0) ∨ (¬ pr / 2 ^ k % 2 = 1 ∧ z_F0 B q y1 n1 k)) y n
def z_oE (B : Nat → Nat) (q en : Nat) (L : Nat → Int) (y n : Nat) : Prop := ∃ y1 n1, z_wbo q (fun k => en / 2 ^ k % 2 = 1 ∧ 0 < L k) (fun k => en / 2 ^ k % 2 = 1 ∧ L k < 0) y1 n1 ∧ (((∀ s, s < 2 ^ q → B s = 0 → ¬ z_has s y1 n1) ∧ y = y1 ∧ n = n1) ∨ ∃ s, z_nrst B q (fun s => z_sbi L s 10) y1 n1 s ∧ z_wbo q (fun k => (en / 2 ^ k % 2 = 1 ∧ 0 < L k) ∨ (¬ en / 2 ^ k % 2 = 1 ∧ s / 2 ^ k % 2 = 1)) (fun k => (en / 2 ^ k % 2 = 1 ∧ L k < 0) ∨ (¬ en / 2 ^ k % 2 = 1 ∧ ¬ s / 2 ^ k % 2 = 1)) y n)
def z_oN (B : Nat → Nat) (q : Nat) (L : Nat → Int) (y n : Nat) : Prop := ∃ s, z_nrst B q (fun s => z_sbi L s 10) 0 0 s ∧ z_wbo q (fun k => s / 2 ^ k % 2 = 1) (fun k => ¬ s / 2 ^ k % 2 = 1) y n
def z_oL (B : Nat → Nat) (q J ch : Nat) (Y N : Nat → Nat) (y n : Nat) : Prop := (ch < J ∧ z_wbo q (fun k => Y ch / 2 ^ k % 2 = 1 ∨ (¬ Y ch / 2 ^ k % 2 = 1 ∧ ¬ N ch / 2 ^ k % 2 = 1 ∧ z_F1 B q (Y ch) (N ch) k)) (fun k => N ch / 2 ^ k % 2 = 1 ∨ (¬ Y ch / 2 ^ k % 2 = 1 ∧ ¬ N ch / 2 ^ k % 2 = 1 ∧ z_F0 B q (Y ch) (N ch) k)) y n) ∨ (¬ ch < J ∧ y = 0 ∧ n = 0)
def z_oT (B : Nat → Nat) (q : Nat) (L : Nat → Int) (op : Nat → Prop) (sh y n : Nat) : Prop := z_tuR B q L op (fun i => (sh + i) % q) q y n
/-- by the way's class: Way 4, Heads 5, Premises 6, Ends 7, Near 8, Turns 9, Chair 10, Leader 11 -/
def z_wout (c : Nat) (B : Nat → Nat) (q pr en : Nat) (L : Nat → Int) (sh J ch : Nat) (Y N : Nat → Nat) (y n : Nat) : Prop :=
  (c = 4 ∧ y = 0 ∧ n = 0) ∨ (c = 5 ∧ z_wbo q (fun k => 0 < L k) (fun k => L k < 0) y n) ∨ (c = 6 ∧ z_oP B q pr L y n) ∨ (c = 7 ∧ z_oE B q en L y n) ∨ (c = 8 ∧ z_oN B q L y n) ∨ (c = 9 ∧ z_oT B q L (fun _ => False) sh y n) ∨ (c = 10 ∧ z_oT B q L (fun k => ch < J ∧ Y ch / 2 ^ k % 2 = 1) sh y n) ∨ (c = 11 ∧ z_oL B q J ch Y N y n)
section ZOUT
variable {B : Nat → Nat} {q pr en sh J ch y n y2 n2 : Nat} {L L2 : Nat → Int} {Y N Y2 N2 : Nat → Nat} {op op2 : Nat → Prop}
theorem z_sbiQ (hL : ∀ k, k < q → L k = L2 k) : ∀ a, a < 2 ^ q → z_sbi L a 10 = z_sbi L2 a 10 := fun a ha => z_sbiC 10 fun k _ hb => hL k (z_q2b ha hb)
theorem z_oPU (h : z_oP B q pr L y n) (h2 : z_oP B q pr L2 y2 n2) (hL : ∀ k, k < q → L k = L2 k) : y = y2 ∧ n = n2 := by
  obtain ⟨y1, n1, a1, a2⟩ := h
  obtain ⟨y3, n3, b1, b2⟩ := h2
  obtain ⟨rfl, rfl⟩ := z_boU a1 b1 fun k hk => by rw [hL k hk]; exact ⟨Iff.rfl, Iff.rfl⟩
  exact z_boU a2 b2 fun k hk => by rw [hL k hk]; exact ⟨Iff.rfl, Iff.rfl⟩
theorem z_oEU (h : z_oE B q en L y n) (h2 : z_oE B q en L2 y2 n2) (hL : ∀ k, k < q → L k = L2 k) : y = y2 ∧ n = n2 := by
  obtain ⟨y1, n1, a1, a2⟩ := h
  obtain ⟨y3, n3, b1, b2⟩ := h2
  obtain ⟨rfl, rfl⟩ := z_boU a1 b1 fun k hk => by rw [hL k hk]; exact ⟨Iff.rfl, Iff.rfl⟩
  rcases a2 with ⟨a2, a3, a4⟩ | ⟨s, a2, a3⟩
  · rcases b2 with ⟨b2, b3, b4⟩ | ⟨s2, b2, b3⟩
    · exact ⟨a3.trans b3.symm, a4.trans b4.symm⟩
    · exact absurd b2.2.2.1 (a2 s2 b2.1 b2.2.1)
  · rcases b2 with ⟨b2, b3, b4⟩ | ⟨s2, b2, b3⟩
    · exact absurd a2.2.2.1 (b2 s a2.1 a2.2.1)
    · obtain rfl := z_nrstU a2 b2 (z_sbiQ hL)
      exact z_boU a3 b3 fun k hk => by rw [hL k hk]; exact ⟨Iff.rfl, Iff.rfl⟩
theorem z_oNU (h : z_oN B q L y n) (h2 : z_oN B q L2 y2 n2) (hL : ∀ k, k < q → L k = L2 k) : y = y2 ∧ n = n2 := by
  obtain ⟨s, a2, a3⟩ := h
  obtain ⟨s2, b2, b3⟩ := h2
  obtain rfl := z_nrstU a2 b2 (z_sbiQ hL)
  exact z_boU a3 b3 fun _ _ => ⟨Iff.rfl, Iff.rfl⟩
theorem z_oTU (h : z_oT B q L op sh y n) (h2 : z_oT B q L2 op2 sh y2 n2) (q1 : 1 ≤ q) (hL : ∀ k, k < q → L k = L2 k) (ho : ∀ k, k < q → (op k ↔ op2 k)) : y = y2 ∧ n = n2 :=
  z_tuU q y n y2 n2 (fun _ _ => rfl) (fun i _ => by
    have hk : (sh + i) % q < q := Nat.mod_lt _ q1
    rw [hL _ hk, ho _ hk]
    exact ⟨Iff.rfl, Iff.rfl, Iff.rfl⟩) h h2
theorem z_oLU (h : z_oL B q J ch Y N y n) (h2 : z_oL B q J ch Y2 N2 y2 n2) (hY : ∀ j, j < J → Y j = Y2 j ∧ N j = N2 j) : y = y2 ∧ n = n2 := by
  rcases h with ⟨a1, a2⟩ | ⟨a1, a2, a3⟩
  · rcases h2 with ⟨b1, b2⟩ | ⟨b1, b2, b3⟩
    · refine z_boU a2 b2 fun k _ => ?_
      rw [(hY ch a1).1, (hY ch a1).2]
      exact ⟨Iff.rfl, Iff.rfl⟩
    · exact absurd a1 b1
  · rcases h2 with ⟨b1, b2⟩ | ⟨b1, b2, b3⟩
    · exact absurd b1 a1
    · exact ⟨a2.trans b2.symm, a3.trans b3.symm⟩
/-- a bench and a way have one outcome -/
theorem z_outU {c : Nat} (h : z_wout c B q pr en L sh J ch Y N y n) (h2 : z_wout c B q pr en L2 sh J ch Y2 N2 y2 n2) (q1 : 1 ≤ q) (hL : ∀ k, k < q → L k = L2 k) (hY : ∀ j, j < J → Y j = Y2 j ∧ N j = N2 j) : y = y2 ∧ n = n2 := by
  rcases h with ⟨e, a1, a2⟩ | ⟨e, a⟩ | ⟨e, a⟩ | ⟨e, a⟩ | ⟨e, a⟩ | ⟨e, a⟩ | ⟨e, a⟩ | ⟨e, a⟩
  · rcases h2 with ⟨e2, b1, b2⟩ | ⟨e2, _⟩ | ⟨e2, _⟩ | ⟨e2, _⟩ | ⟨e2, _⟩ | ⟨e2, _⟩ | ⟨e2, _⟩ | ⟨e2, _⟩
    · exact ⟨a1.trans b1.symm, a2.trans b2.symm⟩
    all_goals (exfalso; omega)
  · rcases h2 with ⟨e2, _⟩ | ⟨e2, b⟩ | ⟨e2, _⟩ | ⟨e2, _⟩ | ⟨e2, _⟩ | ⟨e2, _⟩ | ⟨e2, _⟩ | ⟨e2, _⟩
    all_goals first | (exfalso; omega) | exact z_boU a b fun k hk => by rw [hL k hk]; exact ⟨Iff.rfl, Iff.rfl⟩
  · rcases h2 with ⟨e2, _⟩ | ⟨e2, _⟩ | ⟨e2, b⟩ | ⟨e2, _⟩ | ⟨e2, _⟩ | ⟨e2, _⟩ | ⟨e2, _⟩ | ⟨e2, _⟩
    all_goals first | (exfalso; omega) | exact z_oPU a b hL
  · rcases h2 with ⟨e2, _⟩ | ⟨e2, _⟩ | ⟨e2, _⟩ | ⟨e2, b⟩ | ⟨e2, _⟩ | ⟨e2, _⟩ | ⟨e2, _⟩ | ⟨e2, _⟩
    all_goals first | (exfalso; omega) | exact z_oEU a b hL
  · rcases h2 with ⟨e2, _⟩ | ⟨e2, _⟩ | ⟨e2, _⟩ | ⟨e2, _⟩ | ⟨e2, b⟩ | ⟨e2, _⟩ | ⟨e2, _⟩ | ⟨e2, _⟩
    all_goals first | (exfalso; omega) | exact z_oNU a b hL
  · rcases h2 with ⟨e2, _⟩ | ⟨e2, _⟩ | ⟨e2, _⟩ | ⟨e2, _⟩ | ⟨e2, _⟩ | ⟨e2, b⟩ | ⟨e2, _⟩ | ⟨e2, _⟩
    all_goals first | (exfalso; omega) | exact z_oTU a b q1 hL fun _ _ => Iff.rfl
  · rcases h2 with ⟨e2, _⟩ | ⟨e2, _⟩ | ⟨e2, _⟩ | ⟨e2, _⟩ | ⟨e2, _⟩ | ⟨e2, _⟩ | ⟨e2, b⟩ | ⟨e2, _⟩
    all_goals first | (exfalso; omega) | exact z_oTU a b q1 hL fun k _ => ⟨fun ⟨c1, c2⟩ => ⟨c1, by rw [← (hY ch c1).1]; exact c2⟩, fun ⟨c1, c2⟩ => ⟨c1, by rw [(hY ch c1).1]; exact c2⟩⟩
  · rcases h2 with ⟨e2, _⟩ | ⟨e2, _⟩ | ⟨e2, _⟩ | ⟨e2, _⟩ | ⟨e2, _⟩ | ⟨e2, _⟩ | ⟨e2, _⟩ | ⟨e2, b⟩
    all_goals first | (exfalso; omega) | exact z_oLU a b hY
end ZOUT
