/-! the words of a tie, as both sides read them: what is read from a place, where it ends, in which sets it holds -/
abbrev zPR : Type := Option (Nat × (Nat → Nat))
/-- & and | behind an A: u what stands ahead of the latest |, v all since -/
def z_cx (b : Nat → Int) (n : Nat) (g : Nat → zPR) : Nat → Nat → (Nat → Nat) → (Nat → Nat) → zPR
  | 0, p, u, v => some (p, fun s => max (u s) (v s))
  | k + 1, p, u, v =>
    if p < n ∧ b p = 38 then
      match g (p + 1) with
      | none => none
      | some (q, f) => z_cx b n g k q u (fun s => v s * f s)
    else if p < n ∧ b p = 124 then
      match g (p + 1) with
      | none => none
      | some (q, f) => z_cx b n g k q (fun s => max (u s) (v s)) f
    else some (p, fun s => max (u s) (v s))
def z_clw (b : Nat → Int) (n : Nat) (g : Nat → zPR) (p : Nat) (u v : Nat → Nat) : zPR := z_cx b n g (n + 1 - p) p u v
def z_ei (b : Nat → Int) (n : Nat) (g : Nat → zPR) (p : Nat) : zPR :=
  match g p with
  | none => none
  | some (q, f) => z_clw b n g q (fun _ => 0) f
def z_im (b : Nat → Int) (n : Nat) (g : Nat → zPR) (p : Nat) : zPR :=
  match z_ei b n g p with
  | none => none
  | some (r, h) =>
    if r < n ∧ b r = 62 then
      match z_ei b n g (r + 1) with
      | none => none
      | some (q, f) => some (q, fun s => max (1 - h s) (f s))
    else some (r, h)
def z_tl (b : Nat → Int) (n : Nat) (g : Nat → zPR) : Nat → Nat → (Nat → Nat) → zPR
  | 0, _, _ => none
  | k + 1, p, u =>
    match z_im b n g p with
    | none => none
    | some (q, f) =>
      if q < n ∧ b q = 61 then z_tl b n g k (q + 1) (fun s => if u s = f s then 1 else 0)
      else some (q, fun s => if u s = f s then 1 else 0)
def z_tlw (b : Nat → Int) (n : Nat) (g : Nat → zPR) (p : Nat) (u : Nat → Nat) : zPR := z_tl b n g (n + 1 - p) p u
def z_ti (b : Nat → Int) (n : Nat) (g : Nat → zPR) (p : Nat) : zPR := z_tlw b n g p (fun _ => 1)
/-- how many parts of a list hold -/
def z_li (b : Nat → Int) (n : Nat) (g : Nat → zPR) : Nat → Nat → (Nat → Nat) → zPR
  | 0, _, _ => none
  | k + 1, p, u =>
    match z_ti b n g p with
    | none => none
    | some (q, f) =>
      if q < n ∧ b q = 44 then z_li b n g k (q + 1) (fun s => u s + f s)
      else some (q, fun s => u s + f s)
def z_liw (b : Nat → Int) (n : Nat) (g : Nat → zPR) (p : Nat) (u : Nat → Nat) : zPR := z_li b n g (n + 1 - p) p u
def z_bit (q : Nat) : Nat → Nat := fun s => s / 2 ^ q % 2
/-- N, with so many that may still be opened -/
def z_one (b : Nat → Int) (n : Nat) (nu : Int → Int) : Nat → Nat → zPR
  | 0, p => if p < n ∧ 0 ≤ nu (b p) then some (p + 1, z_bit (nu (b p)).toNat) else none
  | d + 1, p =>
    if p < n ∧ 0 ≤ nu (b p) then some (p + 1, z_bit (nu (b p)).toNat)
    else if p < n ∧ b p = 33 then
      match z_one b n nu d (p + 1) with
      | none => none
      | some (q, f) => some (q, fun s => 1 - f s)
    else if p < n ∧ b p = 40 then
      match z_ti b n (z_one b n nu d) (p + 1) with
      | none => none
      | some (q, f) => if q < n ∧ b q = 41 then some (q + 1, f) else none
    else if p + 1 < n ∧ 49 ≤ b p ∧ b p ≤ 57 ∧ b (p + 1) = 123 then
      match z_liw b n (z_one b n nu d) (p + 2) (fun _ => 0) with
      | none => none
      | some (q, f) => if q < n ∧ b q = 125 then some (q + 1, fun s => if b p - 48 ≤ (f s : Int) then 1 else 0) else none
    else none
/-- what is read goes on -/
def z_pg (n : Nat) (g : Nat → zPR) : Prop := ∀ p q f, g p = some (q, f) → p < q ∧ q ≤ n
theorem z_cl_fuel {b : Nat → Int} {n : Nat} {g : Nat → zPR} (hg : z_pg n g) : ∀ (k k2 p : Nat) (u v : Nat → Nat), n + 1 ≤ k + p → n + 1 ≤ k2 + p → p ≤ n → z_cx b n g k p u v = z_cx b n g k2 p u v := by
  intro k
  induction k with
  | zero => intro k2 p u v h1 _ h3; omega
  | succ k ih =>
    intro k2 p u v h1 h2 h3
    cases k2 with
    | zero => omega
    | succ k2 =>
      unfold z_cx
      by_cases c1 : p < n ∧ b p = 38
      · rw [if_pos c1, if_pos c1]
        cases e : g (p + 1) with
        | none => rfl
        | some r =>
          obtain ⟨q, f⟩ := r
          have hq := hg _ _ _ e
          exact ih k2 q _ _ (by omega) (by omega) hq.2
      · rw [if_neg c1, if_neg c1]
        by_cases c2 : p < n ∧ b p = 124
        · rw [if_pos c2, if_pos c2]
          cases e : g (p + 1) with
          | none => rfl
          | some r =>
            obtain ⟨q, f⟩ := r
            have hq := hg _ _ _ e
            exact ih k2 q _ _ (by omega) (by omega) hq.2
        · rw [if_neg c2, if_neg c2]
theorem z_clw_and {b : Nat → Int} {n : Nat} {g : Nat → zPR} (hg : z_pg n g) {p : Nat} {u v : Nat → Nat} (h : p < n ∧ b p = 38) : z_clw b n g p u v = match g (p + 1) with
    | none => none
    | some (q, f) => z_clw b n g q u (fun s => v s * f s) := by
  have e1 : n + 1 - p = (n - p) + 1 := by omega
  unfold z_clw
  rw [e1]
  show (if p < n ∧ b p = 38 then _ else _) = _
  rw [if_pos h]
  cases e : g (p + 1) with
  | none => rfl
  | some r =>
    obtain ⟨q, f⟩ := r
    have hq := hg _ _ _ e
    exact z_cl_fuel hg _ _ q _ _ (by omega) (by omega) hq.2
theorem z_clw_or {b : Nat → Int} {n : Nat} {g : Nat → zPR} (hg : z_pg n g) {p : Nat} {u v : Nat → Nat} (h : p < n ∧ b p = 124) : z_clw b n g p u v = match g (p + 1) with
    | none => none
    | some (q, f) => z_clw b n g q (fun s => max (u s) (v s)) f := by
  have e1 : n + 1 - p = (n - p) + 1 := by omega
  have h0 : ¬ (p < n ∧ b p = 38) := fun ⟨_, a⟩ => by rw [a] at h; exact absurd h.2 (by decide)
  unfold z_clw
  rw [e1]
  show (if p < n ∧ b p = 38 then _ else (if p < n ∧ b p = 124 then _ else _)) = _
  rw [if_neg h0, if_pos h]
  cases e : g (p + 1) with
  | none => rfl
  | some r =>
    obtain ⟨q, f⟩ := r
    have hq := hg _ _ _ e
    exact z_cl_fuel hg _ _ q _ _ (by omega) (by omega) hq.2
theorem z_clw_end {b : Nat → Int} {n : Nat} {g : Nat → zPR} {p : Nat} {u v : Nat → Nat} (h1 : ¬ (p < n ∧ b p = 38)) (h2 : ¬ (p < n ∧ b p = 124)) : z_clw b n g p u v = some (p, fun s => max (u s) (v s)) := by
  unfold z_clw
  cases e : n + 1 - p with
  | zero => rfl
  | succ k =>
    show (if p < n ∧ b p = 38 then _ else (if p < n ∧ b p = 124 then _ else _)) = _
    rw [if_neg h1, if_neg h2]
theorem z_cl_pg {b : Nat → Int} {n : Nat} {g : Nat → zPR} (hg : z_pg n g) : ∀ (k p : Nat) (u v : Nat → Nat) (q : Nat) (f : Nat → Nat), z_cx b n g k p u v = some (q, f) → p ≤ n → p ≤ q ∧ q ≤ n := by
  intro k
  induction k with
  | zero => intro p u v q f h hp; cases h; exact ⟨Nat.le_refl _, hp⟩
  | succ k ih =>
    intro p u v q f h hp
    unfold z_cx at h
    by_cases c1 : p < n ∧ b p = 38
    · rw [if_pos c1] at h
      cases e : g (p + 1) with
      | none => rw [e] at h; cases h
      | some r =>
        obtain ⟨q1, f1⟩ := r
        rw [e] at h
        have hq := hg _ _ _ e
        have h3 := ih q1 _ _ q f h hq.2
        exact ⟨by omega, h3.2⟩
    · rw [if_neg c1] at h
      by_cases c2 : p < n ∧ b p = 124
      · rw [if_pos c2] at h
        cases e : g (p + 1) with
        | none => rw [e] at h; cases h
        | some r =>
          obtain ⟨q1, f1⟩ := r
          rw [e] at h
          have hq := hg _ _ _ e
          have h3 := ih q1 _ _ q f h hq.2
          exact ⟨by omega, h3.2⟩
      · rw [if_neg c2] at h
        cases h
        exact ⟨Nat.le_refl _, hp⟩
theorem z_ei_pg {b : Nat → Int} {n : Nat} {g : Nat → zPR} (hg : z_pg n g) : z_pg n (z_ei b n g) := by
  intro p q f h
  unfold z_ei at h
  cases e : g p with
  | none => rw [e] at h; cases h
  | some r =>
    obtain ⟨q1, f1⟩ := r
    rw [e] at h
    have hq := hg _ _ _ e
    have h3 := z_cl_pg hg _ q1 _ _ q f h hq.2
    exact ⟨by omega, h3.2⟩
theorem z_im_pg {b : Nat → Int} {n : Nat} {g : Nat → zPR} (hg : z_pg n g) : z_pg n (z_im b n g) := by
  intro p q f h
  unfold z_im at h
  cases e : z_ei b n g p with
  | none => rw [e] at h; cases h
  | some r =>
    obtain ⟨q1, f1⟩ := r
    rw [e] at h
    have hq := z_ei_pg hg _ _ _ e
    have h : (if q1 < n ∧ b q1 = 62 then (match z_ei b n g (q1 + 1) with | none => none | some (q, f) => some (q, fun s => max (1 - f1 s) (f s))) else some (q1, f1)) = some (q, f) := h
    by_cases c : q1 < n ∧ b q1 = 62
    · rw [if_pos c] at h
      cases e2 : z_ei b n g (q1 + 1) with
      | none => rw [e2] at h; cases h
      | some r2 =>
        obtain ⟨q2, f2⟩ := r2
        rw [e2] at h
        have hq2 := z_ei_pg hg _ _ _ e2
        cases h
        exact ⟨by omega, hq2.2⟩
    · rw [if_neg c] at h
      cases h
      exact hq
theorem z_tl_fuel {b : Nat → Int} {n : Nat} {g : Nat → zPR} (hg : z_pg n g) : ∀ (k k2 p : Nat) (u : Nat → Nat), n + 1 ≤ k + p → n + 1 ≤ k2 + p → p ≤ n → z_tl b n g k p u = z_tl b n g k2 p u := by
  intro k
  induction k with
  | zero => intro k2 p u h1 _ h3; omega
  | succ k ih =>
    intro k2 p u h1 h2 h3
    cases k2 with
    | zero => omega
    | succ k2 =>
      unfold z_tl
      cases e : z_im b n g p with
      | none => rfl
      | some r =>
        obtain ⟨q, f⟩ := r
        have hq := z_im_pg hg _ _ _ e
        show (if q < n ∧ b q = 61 then z_tl b n g k (q + 1) _ else _) = (if q < n ∧ b q = 61 then z_tl b n g k2 (q + 1) _ else _)
        by_cases c : q < n ∧ b q = 61
        · rw [if_pos c, if_pos c]
          exact ih k2 (q + 1) _ (by omega) (by omega) (by omega)
        · rw [if_neg c, if_neg c]
theorem z_tlw_eq {b : Nat → Int} {n : Nat} {g : Nat → zPR} (hg : z_pg n g) {p : Nat} {u : Nat → Nat} (hp : p ≤ n) : z_tlw b n g p u = match z_im b n g p with
    | none => none
    | some (q, f) => if q < n ∧ b q = 61 then z_tlw b n g (q + 1) (fun s => if u s = f s then 1 else 0) else some (q, fun s => if u s = f s then 1 else 0) := by
  have e1 : n + 1 - p = (n - p) + 1 := by omega
  unfold z_tlw
  rw [e1]
  show (match z_im b n g p with | none => none | some (q, f) => if q < n ∧ b q = 61 then z_tl b n g (n - p) (q + 1) (fun s => if u s = f s then 1 else 0) else some (q, fun s => if u s = f s then 1 else 0)) = _
  cases e : z_im b n g p with
  | none => rfl
  | some r =>
    obtain ⟨q, f⟩ := r
    have hq := z_im_pg hg _ _ _ e
    show (if q < n ∧ b q = 61 then z_tl b n g (n - p) (q + 1) _ else _) = (if q < n ∧ b q = 61 then z_tl b n g (n + 1 - (q + 1)) (q + 1) _ else _)
    by_cases c : q < n ∧ b q = 61
    · rw [if_pos c, if_pos c]
      exact z_tl_fuel hg _ _ (q + 1) _ (by omega) (by omega) (by omega)
    · rw [if_neg c, if_neg c]
theorem z_tl_pg {b : Nat → Int} {n : Nat} {g : Nat → zPR} (hg : z_pg n g) : ∀ (k p : Nat) (u : Nat → Nat) (q : Nat) (f : Nat → Nat), z_tl b n g k p u = some (q, f) → p < q ∧ q ≤ n := by
  intro k
  induction k with
  | zero => intro p u q f h; cases h
  | succ k ih =>
    intro p u q f h
    unfold z_tl at h
    cases e : z_im b n g p with
    | none => rw [e] at h; cases h
    | some r =>
      obtain ⟨q1, f1⟩ := r
      rw [e] at h
      have hq := z_im_pg hg _ _ _ e
      have h : (if q1 < n ∧ b q1 = 61 then z_tl b n g k (q1 + 1) (fun s => if u s = f1 s then 1 else 0) else some (q1, fun s => if u s = f1 s then 1 else 0)) = some (q, f) := h
      by_cases c : q1 < n ∧ b q1 = 61
      · rw [if_pos c] at h
        have h3 := ih (q1 + 1) _ q f h
        exact ⟨by omega, h3.2⟩
      · rw [if_neg c] at h
        cases h
        exact hq
theorem z_ti_pg {b : Nat → Int} {n : Nat} {g : Nat → zPR} (hg : z_pg n g) : z_pg n (z_ti b n g) := fun p q f h => z_tl_pg hg _ p _ q f h
theorem z_li_fuel {b : Nat → Int} {n : Nat} {g : Nat → zPR} (hg : z_pg n g) : ∀ (k k2 p : Nat) (u : Nat → Nat), n + 1 ≤ k + p → n + 1 ≤ k2 + p → p ≤ n → z_li b n g k p u = z_li b n g k2 p u := by
  intro k
  induction k with
  | zero => intro k2 p u h1 _ h3; omega
  | succ k ih =>
    intro k2 p u h1 h2 h3
    cases k2 with
    | zero => omega
    | succ k2 =>
      unfold z_li
      cases e : z_ti b n g p with
      | none => rfl
      | some r =>
        obtain ⟨q, f⟩ := r
        have hq := z_ti_pg hg _ _ _ e
        show (if q < n ∧ b q = 44 then z_li b n g k (q + 1) _ else _) = (if q < n ∧ b q = 44 then z_li b n g k2 (q + 1) _ else _)
        by_cases c : q < n ∧ b q = 44
        · rw [if_pos c, if_pos c]
          exact ih k2 (q + 1) _ (by omega) (by omega) (by omega)
        · rw [if_neg c, if_neg c]
theorem z_liw_eq {b : Nat → Int} {n : Nat} {g : Nat → zPR} (hg : z_pg n g) {p : Nat} {u : Nat → Nat} (hp : p ≤ n) : z_liw b n g p u = match z_ti b n g p with
    | none => none
    | some (q, f) => if q < n ∧ b q = 44 then z_liw b n g (q + 1) (fun s => u s + f s) else some (q, fun s => u s + f s) := by
  have e1 : n + 1 - p = (n - p) + 1 := by omega
  unfold z_liw
  rw [e1]
  show (match z_ti b n g p with | none => none | some (q, f) => if q < n ∧ b q = 44 then z_li b n g (n - p) (q + 1) (fun s => u s + f s) else some (q, fun s => u s + f s)) = _
  cases e : z_ti b n g p with
  | none => rfl
  | some r =>
    obtain ⟨q, f⟩ := r
    have hq := z_ti_pg hg _ _ _ e
    show (if q < n ∧ b q = 44 then z_li b n g (n - p) (q + 1) _ else _) = (if q < n ∧ b q = 44 then z_li b n g (n + 1 - (q + 1)) (q + 1) _ else _)
    by_cases c : q < n ∧ b q = 44
    · rw [if_pos c, if_pos c]
      exact z_li_fuel hg _ _ (q + 1) _ (by omega) (by omega) (by omega)
    · rw [if_neg c, if_neg c]
theorem z_li_pg {b : Nat → Int} {n : Nat} {g : Nat → zPR} (hg : z_pg n g) : ∀ (k p : Nat) (u : Nat → Nat) (q : Nat) (f : Nat → Nat), z_li b n g k p u = some (q, f) → p < q ∧ q ≤ n := by
  intro k
  induction k with
  | zero => intro p u q f h; cases h
  | succ k ih =>
    intro p u q f h
    unfold z_li at h
    cases e : z_ti b n g p with
    | none => rw [e] at h; cases h
    | some r =>
      obtain ⟨q1, f1⟩ := r
      rw [e] at h
      have hq := z_ti_pg hg _ _ _ e
      have h : (if q1 < n ∧ b q1 = 44 then z_li b n g k (q1 + 1) (fun s => u s + f1 s) else some (q1, fun s => u s + f1 s)) = some (q, f) := h
      by_cases c : q1 < n ∧ b q1 = 44
      · rw [if_pos c] at h
        have h3 := ih (q1 + 1) _ q f h
        exact ⟨by omega, h3.2⟩
      · rw [if_neg c] at h
        cases h
        exact hq
theorem z_one_ques {b : Nat → Int} {n : Nat} {nu : Int → Int} (d : Nat) {p : Nat} (h : p < n ∧ 0 ≤ nu (b p)) : z_one b n nu d p = some (p + 1, z_bit (nu (b p)).toNat) := by
  cases d with
  | zero => unfold z_one; rw [if_pos h]
  | succ d => unfold z_one; rw [if_pos h]
theorem z_one_not {b : Nat → Int} {n : Nat} {nu : Int → Int} {d p : Nat} (h0 : ¬ (p < n ∧ 0 ≤ nu (b p))) (h : p < n ∧ b p = 33) : z_one b n nu (d + 1) p = match z_one b n nu d (p + 1) with
    | none => none
    | some (q, f) => some (q, fun s => 1 - f s) := by
  rw [z_one, if_neg h0, if_pos h]
theorem z_one_par {b : Nat → Int} {n : Nat} {nu : Int → Int} {d p : Nat} (h0 : ¬ (p < n ∧ 0 ≤ nu (b p))) (h : p < n ∧ b p = 40) : z_one b n nu (d + 1) p = match z_ti b n (z_one b n nu d) (p + 1) with
    | none => none
    | some (q, f) => if q < n ∧ b q = 41 then some (q + 1, f) else none := by
  have h1 : ¬ (p < n ∧ b p = 33) := fun ⟨_, a⟩ => by rw [a] at h; exact absurd h.2 (by decide)
  rw [z_one, if_neg h0, if_neg h1, if_pos h]
theorem z_one_lea {b : Nat → Int} {n : Nat} {nu : Int → Int} {d p : Nat} (h0 : ¬ (p < n ∧ 0 ≤ nu (b p))) (h : p + 1 < n ∧ 49 ≤ b p ∧ b p ≤ 57 ∧ b (p + 1) = 123) : z_one b n nu (d + 1) p = match z_liw b n (z_one b n nu d) (p + 2) (fun _ => 0) with
    | none => none
    | some (q, f) => if q < n ∧ b q = 125 then some (q + 1, fun s => if b p - 48 ≤ (f s : Int) then 1 else 0) else none := by
  have h1 : ¬ (p < n ∧ b p = 33) := fun a => by omega
  have h2 : ¬ (p < n ∧ b p = 40) := fun a => by omega
  rw [z_one, if_neg h0, if_neg h1, if_neg h2, if_pos h]
theorem z_one_none {b : Nat → Int} {n : Nat} {nu : Int → Int} (d : Nat) {p : Nat} (h0 : ¬ (p < n ∧ 0 ≤ nu (b p))) (h1 : ¬ (p < n ∧ b p = 33)) (h2 : ¬ (p < n ∧ b p = 40)) (h3 : ¬ (p + 1 < n ∧ 49 ≤ b p ∧ b p ≤ 57 ∧ b (p + 1) = 123)) : z_one b n nu d p = none := by
  cases d with
  | zero => rw [z_one, if_neg h0]
  | succ d => rw [z_one, if_neg h0, if_neg h1, if_neg h2, if_neg h3]
theorem z_one_full {b : Nat → Int} {n : Nat} {nu : Int → Int} {p : Nat} (h0 : ¬ (p < n ∧ 0 ≤ nu (b p))) : z_one b n nu 0 p = none := by rw [z_one, if_neg h0]
theorem z_one_pg {b : Nat → Int} {n : Nat} {nu : Int → Int} : ∀ d : Nat, z_pg n (z_one b n nu d) := by
  intro d
  induction d with
  | zero =>
    intro p q f h
    by_cases c : p < n ∧ 0 ≤ nu (b p)
    · rw [z_one_ques 0 c] at h
      cases h
      exact ⟨Nat.lt_succ_self _, c.1⟩
    · rw [z_one_full c] at h
      cases h
  | succ d ih =>
    intro p q f h
    by_cases c : p < n ∧ 0 ≤ nu (b p)
    · rw [z_one_ques _ c] at h
      cases h
      exact ⟨Nat.lt_succ_self _, c.1⟩
    by_cases c1 : p < n ∧ b p = 33
    · rw [z_one_not c c1] at h
      cases e : z_one b n nu d (p + 1) with
      | none => rw [e] at h; cases h
      | some r =>
        obtain ⟨q1, f1⟩ := r
        rw [e] at h
        have hq := ih _ _ _ e
        cases h
        exact ⟨by omega, hq.2⟩
    by_cases c2 : p < n ∧ b p = 40
    · rw [z_one_par c c2] at h
      cases e : z_ti b n (z_one b n nu d) (p + 1) with
      | none => rw [e] at h; cases h
      | some r =>
        obtain ⟨q1, f1⟩ := r
        rw [e] at h
        have hq := z_ti_pg ih _ _ _ e
        have h : (if q1 < n ∧ b q1 = 41 then some (q1 + 1, f1) else none) = some (q, f) := h
        by_cases c3 : q1 < n ∧ b q1 = 41
        · rw [if_pos c3] at h
          cases h
          exact ⟨by omega, c3.1⟩
        · rw [if_neg c3] at h
          cases h
    by_cases c3 : p + 1 < n ∧ 49 ≤ b p ∧ b p ≤ 57 ∧ b (p + 1) = 123
    · rw [z_one_lea c c3] at h
      cases e : z_liw b n (z_one b n nu d) (p + 2) (fun _ => 0) with
      | none => rw [e] at h; cases h
      | some r =>
        obtain ⟨q1, f1⟩ := r
        rw [e] at h
        have hq := z_li_pg ih _ _ _ _ _ e
        have h : (if q1 < n ∧ b q1 = 125 then some (q1 + 1, fun s => if b p - 48 ≤ (f1 s : Int) then 1 else 0) else none) = some (q, f) := h
        by_cases c4 : q1 < n ∧ b q1 = 125
        · rw [if_pos c4] at h
          cases h
          exact ⟨by omega, c4.1⟩
        · rw [if_neg c4] at h
          cases h
    · rw [z_one_none _ c c1 c2 c3] at h
      cases h
