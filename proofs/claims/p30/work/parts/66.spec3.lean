/-! the whole tape, as both sides read it -/
/-- the questions' names: where they end, how many, their numbers -/
def z_nq (b : Nat → Int) (n : Nat) : Nat → Nat → Nat → (Int → Int) → Nat × Nat × (Int → Int)
  | 0, p, k, nu => (p, k, nu)
  | f + 1, p, k, nu => if p < n ∧ 97 ≤ b p ∧ b p ≤ 106 ∧ nu (b p) < 0 then z_nq b n f (p + 1) (k + 1) (fun c => if c = b p then (k : Int) else nu c) else (p, k, nu)
def z_nqw (b : Nat → Int) (n p k : Nat) (nu : Int → Int) : Nat × Nat × (Int → Int) := z_nq b n (n + 1 - p) p k nu
/-- some questions, as bits -/
def z_sq (b : Nat → Int) (n : Nat) (nu : Int → Int) : Nat → Nat → Nat → Nat × Nat
  | 0, p, m => (p, m)
  | f + 1, p, m => if p < n ∧ 0 ≤ nu (b p) ∧ m / 2 ^ (nu (b p)).toNat % 2 = 0 then z_sq b n nu f (p + 1) (m + 2 ^ (nu (b p)).toNat) else (p, m)
def z_sqw (b : Nat → Int) (n : Nat) (nu : Int → Int) (p m : Nat) : Nat × Nat := z_sq b n nu (n + 1 - p) p m
def z_qs (b : Nat → Int) (n : Nat) (nu : Int → Int) (p : Nat) : Option (Nat × Nat) := if p < n ∧ b p = 32 then (if (z_sqw b n nu (p + 1) 0).2 = 0 then none else some (z_sqw b n nu (p + 1) 0)) else none
abbrev zWR : Type := Option (Nat × Nat × Nat × (Nat → Nat))
/-- the parts behind the names: premises, ends, how many ties and where they start -/
def z_pt (b : Nat → Int) (n : Nat) (nu : Int → Int) : Nat → Nat → Nat → Nat → Nat → (Nat → Nat) → zWR
  | 0, _, _, _, _, _ => none
  | k + 1, p, pr, en, t, ts =>
    if n ≤ p then some (pr, en, t, ts)
    else if b p ≠ 59 then none
    else if p + 1 < n ∧ b (p + 1) = 112 ∧ pr = 0 then
      match z_qs b n nu (p + 2) with
      | none => none
      | some (q, m) => z_pt b n nu k q m en t ts
    else if p + 1 < n ∧ b (p + 1) = 101 ∧ en = 0 then
      match z_qs b n nu (p + 2) with
      | none => none
      | some (q, m) => z_pt b n nu k q pr m t ts
    else if p + 1 < n ∧ b (p + 1) = 116 ∧ t < 8 then
      if p + 2 < n ∧ b (p + 2) = 32 then
        match z_ti b n (z_one b n nu 6) (p + 3) with
        | none => none
        | some (q, _) => z_pt b n nu k q pr en (t + 1) (fun i => if i = t then p + 3 else ts i)
      else none
    else none
def z_ptw (b : Nat → Int) (n : Nat) (nu : Int → Int) (p pr en t : Nat) (ts : Nat → Nat) : zWR := z_pt b n nu (n + 1 - p) p pr en t ts
theorem z_nq_fuel {b : Nat → Int} {n : Nat} : ∀ (f f2 p k : Nat) (nu : Int → Int), n + 1 ≤ f + p → n + 1 ≤ f2 + p → p ≤ n → z_nq b n f p k nu = z_nq b n f2 p k nu := by
  intro f
  induction f with
  | zero => intro f2 p k nu h1 _ h3; omega
  | succ f ih =>
    intro f2 p k nu h1 h2 h3
    cases f2 with
    | zero => omega
    | succ f2 =>
      unfold z_nq
      by_cases c : p < n ∧ 97 ≤ b p ∧ b p ≤ 106 ∧ nu (b p) < 0
      · rw [if_pos c, if_pos c]
        exact ih f2 (p + 1) (k + 1) _ (by omega) (by omega) (by omega)
      · rw [if_neg c, if_neg c]
theorem z_nqw_y {b : Nat → Int} {n p k : Nat} {nu : Int → Int} (h : p < n ∧ 97 ≤ b p ∧ b p ≤ 106 ∧ nu (b p) < 0) : z_nqw b n p k nu = z_nqw b n (p + 1) (k + 1) (fun c => if c = b p then (k : Int) else nu c) := by
  have e1 : n + 1 - p = (n - p) + 1 := by omega
  unfold z_nqw
  rw [e1]
  show (if p < n ∧ 97 ≤ b p ∧ b p ≤ 106 ∧ nu (b p) < 0 then _ else _) = _
  rw [if_pos h]
  exact z_nq_fuel _ _ (p + 1) _ _ (by omega) (by omega) (by omega)
theorem z_nqw_n {b : Nat → Int} {n p k : Nat} {nu : Int → Int} (h : ¬ (p < n ∧ 97 ≤ b p ∧ b p ≤ 106 ∧ nu (b p) < 0)) : z_nqw b n p k nu = (p, k, nu) := by
  unfold z_nqw
  cases e : n + 1 - p with
  | zero => rfl
  | succ f =>
    show (if p < n ∧ 97 ≤ b p ∧ b p ≤ 106 ∧ nu (b p) < 0 then _ else _) = _
    rw [if_neg h]
theorem z_sq_fuel {b : Nat → Int} {n : Nat} {nu : Int → Int} : ∀ (f f2 p m : Nat), n + 1 ≤ f + p → n + 1 ≤ f2 + p → p ≤ n → z_sq b n nu f p m = z_sq b n nu f2 p m := by
  intro f
  induction f with
  | zero => intro f2 p m h1 _ h3; omega
  | succ f ih =>
    intro f2 p m h1 h2 h3
    cases f2 with
    | zero => omega
    | succ f2 =>
      unfold z_sq
      by_cases c : p < n ∧ 0 ≤ nu (b p) ∧ m / 2 ^ (nu (b p)).toNat % 2 = 0
      · rw [if_pos c, if_pos c]
        exact ih f2 (p + 1) _ (by omega) (by omega) (by omega)
      · rw [if_neg c, if_neg c]
theorem z_sqw_y {b : Nat → Int} {n : Nat} {nu : Int → Int} {p m : Nat} (h : p < n ∧ 0 ≤ nu (b p) ∧ m / 2 ^ (nu (b p)).toNat % 2 = 0) : z_sqw b n nu p m = z_sqw b n nu (p + 1) (m + 2 ^ (nu (b p)).toNat) := by
  have e1 : n + 1 - p = (n - p) + 1 := by omega
  unfold z_sqw
  rw [e1]
  show (if p < n ∧ 0 ≤ nu (b p) ∧ m / 2 ^ (nu (b p)).toNat % 2 = 0 then _ else _) = _
  rw [if_pos h]
  exact z_sq_fuel _ _ (p + 1) _ (by omega) (by omega) (by omega)
theorem z_sqw_n {b : Nat → Int} {n : Nat} {nu : Int → Int} {p m : Nat} (h : ¬ (p < n ∧ 0 ≤ nu (b p) ∧ m / 2 ^ (nu (b p)).toNat % 2 = 0)) : z_sqw b n nu p m = (p, m) := by
  unfold z_sqw
  cases e : n + 1 - p with
  | zero => rfl
  | succ f =>
    show (if p < n ∧ 0 ≤ nu (b p) ∧ m / 2 ^ (nu (b p)).toNat % 2 = 0 then _ else _) = _
    rw [if_neg h]
theorem z_sq_pg {b : Nat → Int} {n : Nat} {nu : Int → Int} : ∀ (f p m : Nat), p ≤ n → p ≤ (z_sq b n nu f p m).1 ∧ (z_sq b n nu f p m).1 ≤ n := by
  intro f
  induction f with
  | zero => intro p m h; exact ⟨Nat.le_refl _, h⟩
  | succ f ih =>
    intro p m h
    unfold z_sq
    by_cases c : p < n ∧ 0 ≤ nu (b p) ∧ m / 2 ^ (nu (b p)).toNat % 2 = 0
    · rw [if_pos c]
      have h2 := ih (p + 1) (m + 2 ^ (nu (b p)).toNat) c.1
      exact ⟨by omega, h2.2⟩
    · rw [if_neg c]
      exact ⟨Nat.le_refl _, h⟩
theorem z_qs_pg {b : Nat → Int} {n : Nat} {nu : Int → Int} {p q m : Nat} (h : z_qs b n nu p = some (q, m)) : p < q ∧ q ≤ n ∧ m ≠ 0 := by
  unfold z_qs at h
  by_cases c : p < n ∧ b p = 32
  · rw [if_pos c] at h
    by_cases c2 : (z_sqw b n nu (p + 1) 0).2 = 0
    · rw [if_pos c2] at h
      cases h
    · rw [if_neg c2] at h
      have h2 := z_sq_pg (b := b) (n := n) (nu := nu) (n + 1 - (p + 1)) (p + 1) 0 c.1
      have h : z_sqw b n nu (p + 1) 0 = (q, m) := Option.some.inj h
      have h3 : z_sq b n nu (n + 1 - (p + 1)) (p + 1) 0 = (q, m) := h
      rw [h3] at h2
      rw [h] at c2
      exact ⟨by have := h2.1; omega, h2.2, c2⟩
  · rw [if_neg c] at h
    cases h
theorem z_pt_fuel {b : Nat → Int} {n : Nat} {nu : Int → Int} : ∀ (k k2 p pr en t : Nat) (ts : Nat → Nat), n + 1 ≤ k + p → n + 1 ≤ k2 + p → p ≤ n → z_pt b n nu k p pr en t ts = z_pt b n nu k2 p pr en t ts := by
  intro k
  induction k with
  | zero => intro k2 p pr en t ts h1 _ h3; omega
  | succ k ih =>
    intro k2 p pr en t ts h1 h2 h3
    cases k2 with
    | zero => omega
    | succ k2 =>
      unfold z_pt
      by_cases c0 : n ≤ p
      · rw [if_pos c0, if_pos c0]
      rw [if_neg c0, if_neg c0]
      by_cases c1 : b p ≠ 59
      · rw [if_pos c1, if_pos c1]
      rw [if_neg c1, if_neg c1]
      by_cases c2 : p + 1 < n ∧ b (p + 1) = 112 ∧ pr = 0
      · rw [if_pos c2, if_pos c2]
        cases e : z_qs b n nu (p + 2) with
        | none => rfl
        | some r =>
          obtain ⟨q, m⟩ := r
          have hq := z_qs_pg e
          exact ih k2 q m en t ts (by omega) (by omega) hq.2.1
      rw [if_neg c2, if_neg c2]
      by_cases c3 : p + 1 < n ∧ b (p + 1) = 101 ∧ en = 0
      · rw [if_pos c3, if_pos c3]
        cases e : z_qs b n nu (p + 2) with
        | none => rfl
        | some r =>
          obtain ⟨q, m⟩ := r
          have hq := z_qs_pg e
          exact ih k2 q pr m t ts (by omega) (by omega) hq.2.1
      rw [if_neg c3, if_neg c3]
      by_cases c4 : p + 1 < n ∧ b (p + 1) = 116 ∧ t < 8
      · rw [if_pos c4, if_pos c4]
        by_cases c5 : p + 2 < n ∧ b (p + 2) = 32
        · rw [if_pos c5, if_pos c5]
          cases e : z_ti b n (z_one b n nu 6) (p + 3) with
          | none => rfl
          | some r =>
            obtain ⟨q, f⟩ := r
            have hq := z_ti_pg (z_one_pg _) _ _ _ e
            exact ih k2 q pr en (t + 1) _ (by omega) (by omega) hq.2
        · rw [if_neg c5, if_neg c5]
      rw [if_neg c4, if_neg c4]
theorem z_ptw_eq {b : Nat → Int} {n : Nat} {nu : Int → Int} {p pr en t : Nat} {ts : Nat → Nat} (hp : p ≤ n) : z_ptw b n nu p pr en t ts = z_pt b n nu ((n - p) + 1) p pr en t ts := by
  have e1 : n + 1 - p = (n - p) + 1 := by omega
  unfold z_ptw
  rw [e1]
theorem z_ptw_end {b : Nat → Int} {n : Nat} {nu : Int → Int} {p pr en t : Nat} {ts : Nat → Nat} (hp : p ≤ n) (h : n ≤ p) : z_ptw b n nu p pr en t ts = some (pr, en, t, ts) := by
  rw [z_ptw_eq hp]
  show (if n ≤ p then _ else _) = _
  rw [if_pos h]
theorem z_ptw_bad {b : Nat → Int} {n : Nat} {nu : Int → Int} {p pr en t : Nat} {ts : Nat → Nat} (h : p < n) (h1 : b p ≠ 59) : z_ptw b n nu p pr en t ts = none := by
  have h0 : ¬ (n ≤ p) := by omega
  rw [z_ptw_eq (by omega)]
  show (if n ≤ p then _ else (if b p ≠ 59 then none else _)) = none
  rw [if_neg h0, if_pos h1]
theorem z_ptw_pr {b : Nat → Int} {n : Nat} {nu : Int → Int} {p pr en t : Nat} {ts : Nat → Nat} (h : p < n) (h1 : b p = 59) (c2 : p + 1 < n ∧ b (p + 1) = 112 ∧ pr = 0) : z_ptw b n nu p pr en t ts = match z_qs b n nu (p + 2) with
    | none => none
    | some (q, m) => z_ptw b n nu q m en t ts := by
  have h0 : ¬ (n ≤ p) := by omega
  have h2 : ¬ (b p ≠ 59) := fun c => c h1
  rw [z_ptw_eq (by omega), z_pt, if_neg h0, if_neg h2, if_pos c2]
  cases e : z_qs b n nu (p + 2) with
  | none => rfl
  | some r =>
    obtain ⟨q, m⟩ := r
    have hq := z_qs_pg e
    exact z_pt_fuel _ _ q m en t ts (by omega) (by omega) hq.2.1
theorem z_ptw_en {b : Nat → Int} {n : Nat} {nu : Int → Int} {p pr en t : Nat} {ts : Nat → Nat} (h : p < n) (h1 : b p = 59) (c3 : p + 1 < n ∧ b (p + 1) = 101 ∧ en = 0) : z_ptw b n nu p pr en t ts = match z_qs b n nu (p + 2) with
    | none => none
    | some (q, m) => z_ptw b n nu q pr m t ts := by
  have h0 : ¬ (n ≤ p) := by omega
  have h2 : ¬ (b p ≠ 59) := fun c => c h1
  have c2 : ¬ (p + 1 < n ∧ b (p + 1) = 112 ∧ pr = 0) := fun a => by omega
  rw [z_ptw_eq (by omega), z_pt, if_neg h0, if_neg h2, if_neg c2, if_pos c3]
  cases e : z_qs b n nu (p + 2) with
  | none => rfl
  | some r =>
    obtain ⟨q, m⟩ := r
    have hq := z_qs_pg e
    exact z_pt_fuel _ _ q pr m t ts (by omega) (by omega) hq.2.1
theorem z_ptw_ti {b : Nat → Int} {n : Nat} {nu : Int → Int} {p pr en t : Nat} {ts : Nat → Nat} (h : p < n) (h1 : b p = 59) (c4 : p + 1 < n ∧ b (p + 1) = 116 ∧ t < 8) : z_ptw b n nu p pr en t ts = if p + 2 < n ∧ b (p + 2) = 32 then (match z_ti b n (z_one b n nu 6) (p + 3) with
    | none => none
    | some (q, _) => z_ptw b n nu q pr en (t + 1) (fun i => if i = t then p + 3 else ts i)) else none := by
  have h0 : ¬ (n ≤ p) := by omega
  have h2 : ¬ (b p ≠ 59) := fun c => c h1
  have c2 : ¬ (p + 1 < n ∧ b (p + 1) = 112 ∧ pr = 0) := fun a => by omega
  have c3 : ¬ (p + 1 < n ∧ b (p + 1) = 101 ∧ en = 0) := fun a => by omega
  rw [z_ptw_eq (by omega), z_pt, if_neg h0, if_neg h2, if_neg c2, if_neg c3, if_pos c4]
  by_cases c5 : p + 2 < n ∧ b (p + 2) = 32
  · rw [if_pos c5, if_pos c5]
    cases e : z_ti b n (z_one b n nu 6) (p + 3) with
    | none => rfl
    | some r =>
      obtain ⟨q, f⟩ := r
      have hq := z_ti_pg (z_one_pg _) _ _ _ e
      exact z_pt_fuel _ _ q pr en (t + 1) _ (by omega) (by omega) hq.2
  · rw [if_neg c5, if_neg c5]
theorem z_ptw_none {b : Nat → Int} {n : Nat} {nu : Int → Int} {p pr en t : Nat} {ts : Nat → Nat} (h : p < n) (h1 : b p = 59) (c2 : ¬ (p + 1 < n ∧ b (p + 1) = 112 ∧ pr = 0)) (c3 : ¬ (p + 1 < n ∧ b (p + 1) = 101 ∧ en = 0)) (c4 : ¬ (p + 1 < n ∧ b (p + 1) = 116 ∧ t < 8)) : z_ptw b n nu p pr en t ts = none := by
  have h0 : ¬ (n ≤ p) := by omega
  have h2 : ¬ (b p ≠ 59) := fun c => c h1
  rw [z_ptw_eq (by omega), z_pt, if_neg h0, if_neg h2, if_neg c2, if_neg c3, if_neg c4]
/-- the whole tape: how many questions, their numbers, and the parts -/
def z_wh (b : Nat → Int) (n : Nat) : Option (Nat × (Int → Int) × Nat × Nat × Nat × (Nat → Nat)) :=
  if 1 < n ∧ b 0 = 113 ∧ b 1 = 32 then
    match z_nqw b n 2 0 (fun _ => -1) with
    | (p, k, nu) =>
      if k = 0 then none
      else match z_ptw b n nu p 0 0 0 (fun _ => 0) with
        | none => none
        | some (pr, en, t, ts) => some (k, nu, pr, en, t, ts)
  else none
/-- bits that come to a mask -/
def z_c10 (m : Nat) : Nat := m % 2 + m / 2 % 2 + m / 4 % 2 + m / 8 % 2 + m / 16 % 2 + m / 32 % 2 + m / 64 % 2 + m / 128 % 2 + m / 256 % 2 + m / 512 % 2
theorem z_or32 {a A b B : Nat} (ha : a < 32) (hb : b < 32) : (a + 32 * A) ||| (b + 32 * B) = (a ||| b) + 32 * (A ||| B) := by
  have h : ∀ (x X i : Nat), x < 32 → (x + 32 * X).testBit i = if i < 5 then x.testBit i else X.testBit (i - 5) := fun x X i hx => by
    rw [Nat.add_comm]
    exact Nat.testBit_two_pow_mul_add (i := 5) X hx i
  have hl : a ||| b < 32 := Nat.or_lt_two_pow (n := 5) ha hb
  apply Nat.eq_of_testBit_eq
  intro i
  rw [Nat.testBit_or, h a A i ha, h b B i hb, h (a ||| b) (A ||| B) i hl]
  split
  · rw [Nat.testBit_or]
  · rw [Nat.testBit_or]
def z_c5 (l : Nat) : Nat := l % 2 + l / 2 % 2 + l / 4 % 2 + l / 8 % 2 + l / 16 % 2
theorem z_c5s : ∀ l, l < 32 → ∀ q, q < 5 → l / 2 ^ q % 2 = 0 → l ||| 2 ^ q = l + 2 ^ q ∧ l + 2 ^ q < 32 ∧ z_c5 (l + 2 ^ q) = z_c5 l + 1 := by decide +kernel
theorem z_c5b : ∀ q, q < 5 → 2 ^ q < 32 := by decide
theorem z_c10e {l h : Nat} (hl : l < 32) : z_c10 (l + 32 * h) = z_c5 l + z_c5 h := by
  have a0 : (l + 32 * h) % 2 = l % 2 := by omega
  have a1 : (l + 32 * h) / 2 % 2 = l / 2 % 2 := by omega
  have a2 : (l + 32 * h) / 4 % 2 = l / 4 % 2 := by omega
  have a3 : (l + 32 * h) / 8 % 2 = l / 8 % 2 := by omega
  have a4 : (l + 32 * h) / 16 % 2 = l / 16 % 2 := by omega
  have a5 : (l + 32 * h) / 32 % 2 = h % 2 := by omega
  have a6 : (l + 32 * h) / 64 % 2 = h / 2 % 2 := by omega
  have a7 : (l + 32 * h) / 128 % 2 = h / 4 % 2 := by omega
  have a8 : (l + 32 * h) / 256 % 2 = h / 8 % 2 := by omega
  have a9 : (l + 32 * h) / 512 % 2 = h / 16 % 2 := by omega
  unfold z_c10 z_c5
  rw [a0, a1, a2, a3, a4, a5, a6, a7, a8, a9]
  generalize l % 2 + l / 2 % 2 + l / 4 % 2 + l / 8 % 2 + l / 16 % 2 = L
  simp only [Nat.add_assoc]
theorem z_lowb {l h : Nat} : ∀ q, q < 5 → (l + 32 * h) / 2 ^ q % 2 = l / 2 ^ q % 2
  | 0, _ => by show (l + 32 * h) / 1 % 2 = l / 1 % 2; omega
  | 1, _ => by show (l + 32 * h) / 2 % 2 = l / 2 % 2; omega
  | 2, _ => by show (l + 32 * h) / 4 % 2 = l / 4 % 2; omega
  | 3, _ => by show (l + 32 * h) / 8 % 2 = l / 8 % 2; omega
  | 4, _ => by show (l + 32 * h) / 16 % 2 = l / 16 % 2; omega
theorem z_highb {l h : Nat} (hl : l < 32) (r : Nat) : (l + 32 * h) / 2 ^ (5 + r) % 2 = h / 2 ^ r % 2 := by
  have e : (l + 32 * h) / 32 = h := by omega
  rw [Nat.pow_add, ← Nat.div_div_eq_div_mul, show (2 : Nat) ^ 5 = 32 from rfl, e]
theorem z_c10s (m : Nat) (hm : m < 1024) (q : Nat) (hq : q < 10) (hb : m / 2 ^ q % 2 = 0) : m ||| 2 ^ q = m + 2 ^ q ∧ m + 2 ^ q < 1024 ∧ z_c10 (m + 2 ^ q) = z_c10 m + 1 := by
  have hl : m % 32 < 32 := Nat.mod_lt _ (by decide)
  have hh : m / 32 < 32 := by omega
  have e : m = m % 32 + 32 * (m / 32) := by omega
  generalize m % 32 = l at *
  generalize m / 32 = h at *
  subst e
  by_cases c : q < 5
  · rw [z_lowb q c] at hb
    obtain ⟨h1, h2, h3⟩ := z_c5s l hl q c hb
    have hp := z_c5b q c
    have e1 := z_or32 (A := h) (B := 0) hl hp
    rw [h1, Nat.or_zero, Nat.mul_zero, Nat.add_zero] at e1
    refine ⟨by omega, by omega, ?_⟩
    rw [show l + 32 * h + 2 ^ q = (l + 2 ^ q) + 32 * h from by omega, z_c10e h2, z_c10e hl]
    omega
  · obtain ⟨r, hr⟩ : ∃ r, q = 5 + r := ⟨q - 5, by omega⟩
    subst hr
    rw [z_highb hl r] at hb
    obtain ⟨h1, h2, h3⟩ := z_c5s h hh r (by omega) hb
    have hp : (2 : Nat) ^ (5 + r) = 32 * 2 ^ r := by rw [Nat.pow_add]
    have e1 := z_or32 (a := l) (A := h) (b := 0) (B := 2 ^ r) hl (by decide)
    rw [h1, Nat.or_zero, Nat.zero_add] at e1
    rw [hp]
    refine ⟨by omega, by omega, ?_⟩
    rw [show l + 32 * h + 32 * 2 ^ r = l + 32 * (h + 2 ^ r) from by omega, z_c10e hl, z_c10e hl]
    omega
theorem z_ten {a b c d e f g h i j : Nat} (ha : a < 2) (hb : b < 2) (hc : c < 2) (hd : d < 2) (he : e < 2) (hf : f < 2) (hg : g < 2) (hh : h < 2) (hi : i < 2) (hj : j < 2) (s : a + b + c + d + e + f + g + h + i + j = 10) : a = 1 ∧ b = 1 ∧ c = 1 ∧ d = 1 ∧ e = 1 ∧ f = 1 ∧ g = 1 ∧ h = 1 ∧ i = 1 ∧ j = 1 := ⟨by omega, by omega, by omega, by omega, by omega, by omega, by omega, by omega, by omega, by omega⟩
theorem z_m2l (x : Nat) : x % 2 < 2 := Nat.mod_lt _ (by decide)
theorem z_c10f {m q : Nat} (h : z_c10 m = 10) (hq : q < 10) : m / 2 ^ q % 2 = 1 := by
  unfold z_c10 at h
  obtain ⟨e0, e1, e2, e3, e4, e5, e6, e7, e8, e9⟩ := z_ten (z_m2l _) (z_m2l _) (z_m2l _) (z_m2l _) (z_m2l _) (z_m2l _) (z_m2l _) (z_m2l _) (z_m2l _) (z_m2l _) h
  clear h
  match q, hq with
  | 0, _ => show m / 1 % 2 = 1; rw [Nat.div_one]; exact e0
  | 1, _ => exact e1
  | 2, _ => exact e2
  | 3, _ => exact e3
  | 4, _ => exact e4
  | 5, _ => exact e5
  | 6, _ => exact e6
  | 7, _ => exact e7
  | 8, _ => exact e8
  | 9, _ => exact e9
/-- a bit comes to a mask, as the program does it -/
theorem z_orbit {m q c e : Int32} (hc : c = (1 : Int32) <<< (q &&& 31)) (he : e = m ||| c) (h0 : 0 ≤ m.toInt ∧ m.toInt < 1024) (q0 : 0 ≤ q.toInt ∧ q.toInt < 10) (hb : m.toInt.toNat / 2 ^ q.toInt.toNat % 2 = 0) : e.toInt.toNat = m.toInt.toNat + 2 ^ q.toInt.toNat ∧ (0 ≤ e.toInt ∧ e.toInt < 1024) ∧ z_c10 e.toInt.toNat = z_c10 m.toInt.toNat + 1 := by
  obtain ⟨h1, h2, h3⟩ := z_c10s m.toInt.toNat (by omega) q.toInt.toNat (by omega) hb
  have hm := z_nn h0.1
  have hq := z_nn q0.1
  have hpow : (2 : Nat) ^ q.toInt.toNat < 1024 := by omega
  have ec0 : c.toInt = 1 * ((2 ^ q.toInt.toNat : Nat) : Int) := by
    rw [hc]
    exact z_pShl q.toInt.toNat rfl (by omega) (by omega) rfl (by decide) rfl (by omega)
  generalize (2 : Nat) ^ q.toInt.toNat = P at *
  have ecn := z_nn (x := c) (by omega)
  have ec : c.toBitVec.toNat = P := by omega
  have em : m.toBitVec.toNat = m.toInt.toNat := by omega
  have ee : e.toBitVec.toNat = m.toInt.toNat + P := by
    rw [he, Int32.toBitVec_or, BitVec.toNat_or, ec, em, h1]
  have e0 : e.toInt = ((m.toInt.toNat + P : Nat) : Int) := by
    have e4 : e.toInt = e.toBitVec.toInt := rfl
    rw [e4, BitVec.toInt_eq_toNat_cond, ee, if_pos (by omega)]
  have e5 : e.toInt.toNat = m.toInt.toNat + P := by omega
  refine ⟨e5, ⟨by omega, by omega⟩, ?_⟩
  rw [e5]
  exact h3
