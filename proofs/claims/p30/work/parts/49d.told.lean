/-! the told benches' cells aren't reached from trial benches and ways -/
def z_blk (T : List zK) (M : zH) : Prop := ∀ b q t m J : Nat, T[b]? = some (.inl (3, q, t, m, J)) → z_F M b 1 = some (.ref (b + 1)) ∧ z_F M b 2 = some (.ref (b + 2)) ∧ z_F M b 3 = some (.ref (b + 3)) ∧ z_F M b 5 = some (.ref (b + 4)) ∧ z_F M b 6 = some (.ref (b + 5)) ∧ z_F M b 7 = some (.ref (b + 6)) ∧ z_F M b 8 = some (.ref (b + 7)) ∧ z_F M b 10 = some (.ref (b + 8)) ∧ z_F M b 11 = some (.ref (b + 9)) ∧ z_F M b 9 = some (.ref (b + 10))
def z_bkf : List Nat := [1301, 1302, 1303, 1305, 1306, 1307, 1308, 1309, 1310, 1311]
theorem z_blk.ke {T : List zK} {M M1 : zH} {rs : List Nat} (h : z_blk T M) (ke : z_ke T rs M M1) (hr : (z_bkf.all fun x => !rs.elem x) = true) : z_blk T M1 := by
  have n := z_nin hr
  intro b q t m J hb
  obtain ⟨h1, h2, h3, h5, h6, h7, h8, h10, h11, h9⟩ := h b q t m J hb
  exact ⟨ke.f hb (n _ rfl) h1, ke.f hb (n _ rfl) h2, ke.f hb (n _ rfl) h3, ke.f hb (n _ rfl) h5, ke.f hb (n _ rfl) h6, ke.f hb (n _ rfl) h7, ke.f hb (n _ rfl) h8, ke.f hb (n _ rfl) h10, ke.f hb (n _ rfl) h11, ke.f hb (n _ rfl) h9⟩
theorem z_obf {T : List zK} {M : zH} (hW : z_W M T) {b q t m J k : Nat} {v : Value} (hb : T[b]? = some (.inl (3, q, t, m, J))) (hk : z_F M b k = some v) : z_okv T (z_fs3 q t m J k) v := by
  obtain ⟨fs, e1, _, _, h4, _⟩ := hW.ob hb
  unfold z_F at hk
  rw [e1] at hk
  exact h4 k v hk
theorem z_blk.k {T : List zK} {M : zH} (h : z_blk T M) (hW : z_W M T) {b q t m J i : Nat} (hb : T[b]? = some (.inl (3, q, t, m, J))) (h1 : 1 ≤ i) (h2 : i ≤ 10) : ∃ (r tg n : Nat) (lo hi : Int), T[b + i]? = some (.inr (r, tg, n, lo, hi)) ∧ 201 ≤ r ∧ r ≤ 211 ∧ tg < 2 := by
  obtain ⟨b1, b2, b3, b5, b6, b7, b8, b10, b11, b9⟩ := h b q t m J hb
  match i, h1, h2 with
  | 1, _, _ => exact ⟨201, 0, 9, _, _, z_obf hW hb b1, by decide, by decide, by decide⟩
  | 2, _, _ => exact ⟨202, 0, 9, _, _, z_obf hW hb b2, by decide, by decide, by decide⟩
  | 3, _, _ => exact ⟨203, 0, 9, _, _, z_obf hW hb b3, by decide, by decide, by decide⟩
  | 4, _, _ => exact ⟨205, 0, 10, _, _, z_obf hW hb b5, by decide, by decide, by decide⟩
  | 5, _, _ => exact ⟨206, 0, 32, _, _, z_obf hW hb b6, by decide, by decide, by decide⟩
  | 6, _, _ => exact ⟨207, 0, 32, _, _, z_obf hW hb b7, by decide, by decide, by decide⟩
  | 7, _, _ => exact ⟨208, 0, 10, _, _, z_obf hW hb b8, by decide, by decide, by decide⟩
  | 8, _, _ => exact ⟨210, 0, 5, _, _, z_obf hW hb b10, by decide, by decide, by decide⟩
  | 9, _, _ => exact ⟨211, 0, 80, _, _, z_obf hW hb b11, by decide, by decide, by decide⟩
  | 10, _, _ => exact ⟨209, 1, z_sp m, _, _, z_obf hW hb b9, by decide, by decide, by decide⟩
/-- cells of a bench that isn't one of Q's, behind its object -/
def z_tcl (T : List zK) (Q : Nat → Prop) (c : Nat) : Prop := ∃ b q t m J : Nat, T[b]? = some (.inl (3, q, t, m, J)) ∧ ¬ Q b ∧ b < c ∧ c ≤ b + 10
/-- what Q's benches and ways reach, and all new cells -/
def z_pb (T : List zK) (Q : Nat → Prop) (c : Nat) : Prop := T.length ≤ c ∨ (∃ (r tg n : Nat) (lo hi : Int), T[c]? = some (.inr (r, tg, n, lo, hi)) ∧ r ≠ 99 ∧ tg < 2 ∧ ¬ z_tcl T Q c) ∨ ∃ ci q t m J : Nat, T[c]? = some (.inl (ci, q, t, m, J)) ∧ ((ci = 2 ∧ J = 0) ∨ (ci = 3 ∧ Q c) ∨ (4 ≤ ci ∧ ci ≤ 11))
section ZTOLD
variable {T : List zK} {M : zH} {Q : Nat → Prop}
theorem z_tcl.role (h : z_blk T M) (hW : z_W M T) {c : Nat} (hc : z_tcl T Q c) : ∃ (r tg n : Nat) (lo hi : Int), T[c]? = some (.inr (r, tg, n, lo, hi)) ∧ 201 ≤ r ∧ r ≤ 211 := by
  obtain ⟨b, q, t, m, J, hb, _, h1, h2⟩ := hc
  obtain ⟨r, tg, n, lo, hi, h3, h4, h5, _⟩ := h.k hW (i := c - b) hb (by omega) (by omega)
  rw [show b + (c - b) = c by omega] at h3
  exact ⟨r, tg, n, lo, hi, h3, h4, h5⟩
theorem z_pb.low (h : z_blk T M) (hW : z_W M T) {c r tg n : Nat} {lo hi : Int} (hT : T[c]? = some (.inr (r, tg, n, lo, hi))) (h1 : r < 201 ∨ 211 < r) (h2 : r ≠ 99) (h3 : tg < 2) : z_pb T Q c := by
  refine Or.inr (Or.inl ⟨r, tg, n, lo, hi, hT, h2, h3, fun hc => ?_⟩)
  obtain ⟨r2, tg2, n2, lo2, hi2, g1, g2⟩ := hc.role h hW
  rw [hT] at g1
  cases g1
  omega
theorem z_pb.tri (h : z_blk T M) (hW : z_W M T) {c q t m J i : Nat} (hc : T[c]? = some (.inl (3, q, t, m, J))) (hq : Q c) (h1 : 1 ≤ i) (h2 : i ≤ 10) : z_pb T Q (c + i) := by
  obtain ⟨r, tg, n, lo, hi, h3, h4, h5, h6⟩ := h.k hW (i := i) hc h1 h2
  refine Or.inr (Or.inl ⟨r, tg, n, lo, hi, h3, by omega, h6, fun ⟨b, q2, t2, m2, J2, hb, nq, g1, g2⟩ => ?_⟩)
  by_cases e : b < c
  · obtain ⟨_, _, _, _, _, g3, _⟩ := h.k hW (i := c - b) hb (by omega) (by omega)
    rw [show b + (c - b) = c by omega, hc] at g3
    cases g3
  · by_cases e2 : b = c
    · rw [e2] at nq
      exact absurd hq nq
    · obtain ⟨_, _, _, _, _, g3, _⟩ := h.k hW (i := b - c) hc (by omega) (by omega)
      rw [show c + (b - c) = b by omega, hb] at g3
      cases g3
theorem z_pb.rm (h : z_blk T M) (hW : z_W M T) : z_rmm (z_pb T Q) M := by
  intro c e he hc
  rcases hc with hc | ⟨r, tg, n, lo, hi, hT, hr, htg, _⟩ | ⟨ci, q, t, m, J, hT, hci⟩
  · have h1 := (List.getElem?_eq_some_iff.mp he).1
    have h2 := hW.1
    omega
  · have hw := hW.2.2 c e _ he hT
    match e, hw with
    | .inl (t1, n1, .inl f), hw => exact trivial
    | .inl (t1, n1, .inr (.inl f)), hw => exact trivial
    | .inl (t1, n1, .inr (.inr f)), hw => exact absurd (hw.resolve_left hr).2.1 (by omega)
    | .inr (c1, fs), hw => exact absurd hw hr
  · obtain ⟨fs, e1, _, _, h4, _⟩ := hW.ob hT
    rw [e1] at he
    cases he
    intro v hv a ha
    subst ha
    obtain ⟨k, hk⟩ := List.mem_iff_getElem?.mp hv
    have ho := h4 k _ hk
    rcases hci with ⟨rfl, rfl⟩ | ⟨rfl, hq⟩ | hci
    · match k, ho with
      | 0, ho => exact (show False from ho).elim
      | 1, ho => exact (show False from ho).elim
      | 2, ho => exact (show False from ho).elim
      | 3, ho => exact (show False from ho).elim
      | 4, ho => exact (show False from ho).elim
      | 5, ho => exact z_pb.low h hW (show T[a]? = some (z_ai 102 m 0 1023) from ho) (by decide) (by decide) (by decide)
      | 6, ho => exact (show False from ho).elim
      | 7, ho => exact (show False from ho).elim
      | 8, ho => exact z_pb.low h hW (show T[a]? = some (z_al 108 (t * z_bl q)) from ho) (by decide) (by decide) (by decide)
      | 9, ho => exact z_pb.low h hW (show T[a]? = some (z_al 109 (z_bl q)) from ho) (by decide) (by decide) (by decide)
      | 10, ho => exact (show False from ho).elim
      | 11, ho => exact z_pb.low h hW (show T[a]? = some (z_al 111 (q * z_sp m)) from ho) (by decide) (by decide) (by decide)
      | 12, ho => exact z_pb.low h hW (show T[a]? = some (z_al 112 (z_bl q)) from ho) (by decide) (by decide) (by decide)
      | 13, ho => exact z_pb.low h hW (show T[a]? = some (z_ai 113 12 0 (64 * z_bl q - 1)) from ho) (by decide) (by decide) (by decide)
      | n + 14, ho => exact (show False from ho).elim
    · have hF : ∀ {j i : Nat}, fs[j]? = some (.ref a) → z_F M c j = some (.ref (c + i)) → a = c + i := fun {j i} h1 h2 => by
        unfold z_F at h2
        rw [e1] at h2
        have h3 : fs[j]? = some (.ref (c + i)) := h2
        rw [h1] at h3
        cases h3
        rfl
      obtain ⟨b1, b2, b3, b5, b6, b7, b8, b10, b11, b9⟩ := h c q t m J hT
      match k, hk, ho with
      | 0, _, ho => exact Or.inr (Or.inr ⟨2, q, t, m, 0, ho, Or.inl ⟨rfl, rfl⟩⟩)
      | 1, hk, _ => rw [hF hk b1]; exact z_pb.tri h hW hT hq (by decide) (by decide)
      | 2, hk, _ => rw [hF hk b2]; exact z_pb.tri h hW hT hq (by decide) (by decide)
      | 3, hk, _ => rw [hF hk b3]; exact z_pb.tri h hW hT hq (by decide) (by decide)
      | 4, _, ho => exact (show False from ho).elim
      | 5, hk, _ => rw [hF hk b5]; exact z_pb.tri h hW hT hq (by decide) (by decide)
      | 6, hk, _ => rw [hF hk b6]; exact z_pb.tri h hW hT hq (by decide) (by decide)
      | 7, hk, _ => rw [hF hk b7]; exact z_pb.tri h hW hT hq (by decide) (by decide)
      | 8, hk, _ => rw [hF hk b8]; exact z_pb.tri h hW hT hq (by decide) (by decide)
      | 9, hk, _ => rw [hF hk b9]; exact z_pb.tri h hW hT hq (by decide) (by decide)
      | 10, hk, _ => rw [hF hk b10]; exact z_pb.tri h hW hT hq (by decide) (by decide)
      | 11, hk, _ => rw [hF hk b11]; exact z_pb.tri h hW hT hq (by decide) (by decide)
      | n + 12, hk, _ =>
        have h5 := (List.getElem?_eq_some_iff.mp hk).1
        have h6 : fs.length = 12 := (hW.ob hT).elim fun fs2 g => by
          obtain ⟨g1, g2, _⟩ := g
          rw [e1] at g1
          cases g1
          exact g2
        omega
    · have ho2 : z_okv T (z_fsW k) (.ref a) := by
        have hd : ci = 4 ∨ ci = 5 ∨ ci = 6 ∨ ci = 7 ∨ ci = 8 ∨ ci = 9 ∨ ci = 10 ∨ ci = 11 := by omega
        rcases hd with rfl | rfl | rfl | rfl | rfl | rfl | rfl | rfl <;> exact ho
      match k, ho2 with
      | 0, ho => exact (show False from ho).elim
      | 1, ho => exact (show False from ho).elim
      | 2, ho => exact (show False from ho).elim
      | 3, ho => exact (show False from ho).elim
      | n + 4, ho =>
        have e2 : a = 13 := ho
        rw [e2]
        exact z_pb.low h hW (hW.k (k := 13) (κ := z_af 13 25) rfl (by decide)) (by decide) (by decide) (by decide)
theorem z_pb.s (h : z_blk T M) (hW : z_W M T) : ∀ a, 1 ≤ a ∧ a < 4 → z_pb T Q a := by
  intro a ha
  have hd : a = 1 ∨ a = 2 ∨ a = 3 := by omega
  rcases hd with rfl | rfl | rfl
  · exact z_pb.low h hW (hW.k (k := 1) (κ := z_ai 1 102 0 4368) rfl (by decide)) (by decide) (by decide) (by decide)
  · exact z_pb.low h hW (hW.k (k := 2) (κ := z_al 2 6) rfl (by decide)) (by decide) (by decide) (by decide)
  · exact z_pb.low h hW (hW.k (k := 3) (κ := z_ai 3 8 (-1) 5) rfl (by decide)) (by decide) (by decide) (by decide)
/-- another bench's object and its arrays aren't reached -/
theorem z_pb.no {b q t m J i : Nat} (h : z_blk T M) (hW : z_W M T) (hb : T[b]? = some (.inl (3, q, t, m, J))) (hq : ¬ Q b) (h2 : i ≤ 10) : ¬ z_pb T Q (b + i) := by
  by_cases h0 : i = 0
  · subst h0
    intro hp
    rcases hp with hp | ⟨r, tg, n, lo, hi, hT, _⟩ | ⟨ci, q2, t2, m2, J2, hT, hci⟩
    · have := (List.getElem?_eq_some_iff.mp hb).1
      omega
    · rw [Nat.add_zero, hb] at hT
      cases hT
    · rw [Nat.add_zero, hb] at hT
      cases hT
      rcases hci with hci | hci | hci
      · exact absurd hci.1 (by decide)
      · exact hq hci.2
      · exact absurd hci.1 (by decide)
  · obtain ⟨r, tg, n, lo, hi, h3, _⟩ := h.k hW (i := i) hb (by omega) h2
    intro hp
    rcases hp with hp | ⟨r, tg, n, lo, hi, hT, _, _, hn⟩ | ⟨ci, q2, t2, m2, J2, hT, hci⟩
    · have := (List.getElem?_eq_some_iff.mp h3).1
      omega
    · exact hn ⟨b, q, t, m, J, hb, hq, by omega, by omega⟩
    · rw [h3] at hT
      cases hT
theorem z_rgn {n c : Nat} {rs : List Nat} (h : ((List.range n).all fun k => !rs.elem (c + k)) = true) : ∀ k, k < n → ¬ (c + k) ∈ rs := fun k hk hm => by
  have h2 := List.all_eq_true.mp h k (List.mem_range.mpr hk)
  rw [List.elem_eq_true_of_mem hm] at h2
  cases h2
/-- the other benches are as they were -/
def z_oth (T : List zK) (Q : Nat → Prop) (M M1 : zH) : Prop := ∀ b q t m J : Nat, T[b]? = some (.inl (3, q, t, m, J)) → ¬ Q b → (∀ k, k < 12 → z_F M1 b k = z_F M b k) ∧ ∀ i, 1 ≤ i → i ≤ 10 → M1[b + i]? = M[b + i]?
/-- a call that gets Q's benches, ways and arrays alone leaves the other benches as they are -/
theorem z_ev.told {d j pc : Nat} {L : zL} {S : zS} {K : Option Value → zH → Prop} (Q : Nat → Prop) (hb : z_blk T M) (hW : z_W M T) (hL : z_pL (z_pb T Q) L) (hS : z_qS (z_pb T Q) S) (h : z_ev d j pc L S M fun v M1 => z_oth T Q M M1 → K v M1) : z_ev d j pc L S M K :=
  z_ev.own (z_pb T Q) (fun a ha => Or.inl (by have := hW.1; omega)) (z_pb.s hb hW) (z_pb.rm hb hW) hL hS (h.mono fun v M1 hk hc => hk fun b q t m J h1 hq => ⟨fun k _ => by
    have e : M1[b + 0]? = M[b + 0]? := hc _ (z_pb.no hb hW h1 hq (Nat.zero_le _))
    rw [Nat.add_zero] at e
    unfold z_F
    rw [e], fun i _ h2 => hc _ (z_pb.no hb hW h1 hq h2)⟩)
theorem z_oth.refl : z_oth T Q M M := fun _ _ _ _ _ _ _ => ⟨fun _ _ => rfl, fun _ _ _ => rfl⟩
theorem z_oth.trans {M1 M2 : zH} (h : z_oth T Q M M1) (h2 : z_oth T Q M1 M2) : z_oth T Q M M2 := fun b q t m J hb hq => ⟨fun k hk => ((h2 b q t m J hb hq).1 k hk).trans ((h b q t m J hb hq).1 k hk), fun i h3 h4 => ((h2 b q t m J hb hq).2 i h3 h4).trans ((h b q t m J hb hq).2 i h3 h4)⟩
theorem z_oth.ke {M0 M1 : zH} {rs : List Nat} (hb : z_blk T M0) (hW : z_W M0 T) (ke : z_ke T rs M M1) (g1 : ((List.range 12).all fun k => !rs.elem (1300 + k)) = true) (g2 : ((List.range 11).all fun k => !rs.elem (201 + k)) = true) : z_oth T Q M M1 := fun b q t m J h hq => ⟨fun k hk => ke.1 b 3 q t m J k h (z_rgn g1 k hk), fun i h3 h4 => by
  obtain ⟨r, tg, n, lo, hi, e1, e2, e3, _⟩ := hb.k hW (i := i) h h3 h4
  exact ke.2 (b + i) r _ e1 (by have h5 := z_rgn g2 (r - 201) (by omega); rw [show 201 + (r - 201) = r by omega] at h5; exact h5)⟩
theorem z_qL0 {P : Nat → Prop} : z_pL P [] := fun _ h => by cases h
theorem z_qLn {P : Nat → Prop} {L : zL} (h : z_pL P L) : z_pL P (none :: L) := fun v hv => by
  rcases List.mem_cons.mp hv with e | e
  · cases e
  · exact h v e
theorem z_qLc {P : Nat → Prop} {L : zL} {w : Value} (hw : z_rv P w) (h : z_pL P L) : z_pL P (some w :: L) := fun v hv => by
  rcases List.mem_cons.mp hv with e | e
  · cases e
    exact hw
  · exact h v e
theorem z_qS0 {P : Nat → Prop} : z_qS P [] := fun _ h => by cases h
theorem z_pb.way {c w : Nat} (w0 : 4 ≤ c ∧ c ≤ 11) (k : T[w]? = some (.inl (c, 0, 0, 0, 0))) : z_pb T Q w := Or.inr (Or.inr ⟨c, 0, 0, 0, 0, k, Or.inr (Or.inr w0)⟩)
theorem z_pb.ben {b q t m J : Nat} (k : T[b]? = some (.inl (3, q, t, m, J))) (hq : Q b) : z_pb T Q b := Or.inr (Or.inr ⟨3, q, t, m, J, k, Or.inr (Or.inl ⟨rfl, hq⟩)⟩)
end ZTOLD
/-- the trial benches -/
def z_Qt (T : List zK) (b : Nat) : Prop := ∃ q t m : Nat, T[b]? = some (.inl (3, q, t, m, 5))
/-! the told benches of both sides -/
def z_CB (M : zH) (b J : Nat) (w y n : Nat → Int32) : Prop := (∃ x : Int32, z_F M b 4 = some (.int x) ∧ x.toInt = (J : Int)) ∧ ∀ j, j < J → z_Ar M (b + 1) j = w j ∧ z_Ar M (b + 2) j = y j ∧ z_Ar M (b + 3) j = n j
def y_CB (M : zH) (a J : Nat) (w y n : Nat → Int32) : Prop := (z_Ar M 35 a).toInt = (J : Int) ∧ ∀ j, j < J → z_Ar M 32 (9 * a + j) = w j ∧ z_Ar M 33 (9 * a + j) = y j ∧ z_Ar M 34 (9 * a + j) = n j
/-- a judge -/
def z_jok (q : Nat) (w y n : Int32) : Prop := ((0 ≤ y.toInt ∧ y.toInt < ((2 ^ q : Nat) : Int)) ∧ (0 ≤ n.toInt ∧ n.toInt < ((2 ^ q : Nat) : Int)) ∧ (y &&& n).toInt = 0) ∧ 1 ≤ w.toInt ∧ w.toInt ≤ 9
def z_BR (M M2 : zH) (a b q : Nat) : Prop := ∃ (J : Nat) (w y n : Nat → Int32), J ≤ 9 ∧ z_CB M b J w y n ∧ y_CB M2 a J w y n ∧ ∀ j, j < J → z_jok q (w j) (y j) (n j)
def z_R7 (T : List zK) (M : zH) : Prop := z_blk T M ∧ ∀ A : Int32, z_F M 4 3 = some (.int A) → (∀ a : Nat, (a : Int) < A.toInt → ∃ b q t m : Nat, z_O M 10 a = some b ∧ T[b]? = some (.inl (3, q, t, m, 9)) ∧ z_BR M M a b q) ∧ (∀ a a2 : Nat, (a : Int) < A.toInt → (a2 : Int) < A.toInt → z_O M 10 a = z_O M 10 a2 → a = a2) ∧ ∀ a : Nat, A.toInt ≤ (a : Int) → a < 8 → (z_Ar M 35 a).toInt = 0
section ZR7
variable {T T1 : List zK} {M M1 M2 : zH} {rs r2 : List Nat}
theorem z_blk.k1 (h : z_blk T M) (hW : z_W M T) {b q t m J : Nat} (hb : T[b]? = some (.inl (3, q, t, m, J))) : T[b + 1]? = some (z_af 201 9) := z_obf hW hb (h b q t m J hb).1
theorem z_blk.k2 (h : z_blk T M) (hW : z_W M T) {b q t m J : Nat} (hb : T[b]? = some (.inl (3, q, t, m, J))) : T[b + 2]? = some (z_af 202 9) := z_obf hW hb (h b q t m J hb).2.1
theorem z_blk.k3 (h : z_blk T M) (hW : z_W M T) {b q t m J : Nat} (hb : T[b]? = some (.inl (3, q, t, m, J))) : T[b + 3]? = some (z_af 203 9) := z_obf hW hb (h b q t m J hb).2.2.1
theorem z_CB.ke {b J q t m J2 : Nat} {w y n : Nat → Int32} (h : z_CB M b J w y n) (hB : z_blk T M) (hW : z_W M T) (hb : T[b]? = some (.inl (3, q, t, m, J2))) (ke : z_ke T rs M M1) (hr : (([201, 202, 203, 1304] : List Nat).all fun x => !rs.elem x) = true) : z_CB M1 b J w y n := by
  have nn := z_nin hr
  obtain ⟨⟨x, h1, h2⟩, h3⟩ := h
  refine ⟨⟨x, ke.f hb (nn _ rfl) h1, h2⟩, fun j hj => ?_⟩
  rw [ke.a (hB.k1 hW hb) (nn _ rfl), ke.a (hB.k2 hW hb) (nn _ rfl), ke.a (hB.k3 hW hb) (nn _ rfl)]
  exact h3 j hj
theorem z_CB.oth {Q : Nat → Prop} {b J q t m J2 : Nat} {w y n : Nat → Int32} (h : z_CB M b J w y n) (hb : T[b]? = some (.inl (3, q, t, m, J2))) (ho : z_oth T Q M M1) (hq : ¬ Q b) : z_CB M1 b J w y n := by
  obtain ⟨⟨x, h1, h2⟩, h3⟩ := h
  obtain ⟨o1, o2⟩ := ho b q t m J2 hb hq
  refine ⟨⟨x, (o1 4 (by decide)).trans h1, h2⟩, fun j hj => ?_⟩
  have e1 : z_Ar M1 (b + 1) = z_Ar M (b + 1) := by unfold z_Ar; rw [o2 1 (by decide) (by decide)]
  have e2 : z_Ar M1 (b + 2) = z_Ar M (b + 2) := by unfold z_Ar; rw [o2 2 (by decide) (by decide)]
  have e3 : z_Ar M1 (b + 3) = z_Ar M (b + 3) := by unfold z_Ar; rw [o2 3 (by decide) (by decide)]
  rw [e1, e2, e3]
  exact h3 j hj
theorem y_CB.ke {a J : Nat} {w y n : Nat → Int32} (h : y_CB M a J w y n) (hW : z_W M2 T) (ke : z_ke T rs M M1) (hr : (([32, 33, 34, 35] : List Nat).all fun x => !rs.elem x) = true) : y_CB M1 a J w y n := by
  have nn := z_nin hr
  unfold y_CB
  rw [ke.a (hW.k (k := 35) (κ := z_ai 35 8 0 9) rfl (by decide)) (nn _ rfl), ke.a (hW.k (k := 32) (κ := z_af 32 72) rfl (by decide)) (nn _ rfl), ke.a (hW.k (k := 33) (κ := z_af 33 72) rfl (by decide)) (nn _ rfl), ke.a (hW.k (k := 34) (κ := z_af 34 72) rfl (by decide)) (nn _ rfl)]
  exact h
theorem z_R7.ke (h : z_R7 T M) (hW : z_W M T) (hp : ∀ (a : Nat) (κ : zK), T[a]? = some κ → T1[a]? = some κ) (hb1 : z_blk T1 M1) (ke : z_ke T rs M M1) (hr : (([1003, 10, 201, 202, 203, 1304, 32, 33, 34, 35] : List Nat).all fun x => !rs.elem x) = true) : z_R7 T1 M1 := by
  have nn := z_nin hr
  have k4 : T[4]? = some (.inl (0, 0, 0, 0, 0)) := hW.k rfl (by decide)
  have k10 : T[10]? = some (.inr (10, 2, 8, 9, 0)) := hW.k rfl (by decide)
  have o10 : z_O M1 10 = z_O M 10 := ke.o k10 (nn _ rfl)
  refine ⟨hb1, fun A hA => ?_⟩
  obtain ⟨h1, h2, h0⟩ := h.2 A ((ke.1 4 0 0 0 0 0 3 k4 (nn _ rfl)).symm.trans hA)
  refine ⟨fun a ha => ?_, fun a a2 h3 h4 e => h2 a a2 h3 h4 (by rw [o10] at e; exact e), fun a h3 h4 => by rw [ke.a (hW.k (k := 35) (κ := z_ai 35 8 0 9) rfl (by decide)) (nn _ rfl)]; exact h0 a h3 h4⟩
  obtain ⟨b, q, t, m, h5, h6, J, w, y, n, h7, h8, h9, h10⟩ := h1 a ha
  exact ⟨b, q, t, m, by rw [o10]; exact h5, hp _ _ h6, J, w, y, n, h7, h8.ke h.1 hW h6 ke (List.all_eq_true.mpr fun x hx => List.all_eq_true.mp hr x (by
    rcases List.mem_cons.mp hx with e | hx
    · rw [e]; decide
    · rcases List.mem_cons.mp hx with e | hx
      · rw [e]; decide
      · rcases List.mem_cons.mp hx with e | hx
        · rw [e]; decide
        · rcases List.mem_cons.mp hx with e | hx
          · rw [e]; decide
          · cases hx)), h9.ke hW ke (List.all_eq_true.mpr fun x hx => List.all_eq_true.mp hr x (by
    rcases List.mem_cons.mp hx with e | hx
    · rw [e]; decide
    · rcases List.mem_cons.mp hx with e | hx
      · rw [e]; decide
      · rcases List.mem_cons.mp hx with e | hx
        · rw [e]; decide
        · rcases List.mem_cons.mp hx with e | hx
          · rw [e]; decide
          · cases hx)), h10⟩
/-- the trial benches alone were touched -/
theorem z_R7.tri {Q : Nat → Prop} (h : z_R7 T M) (hW : z_W M T) (ke : z_ke T rs M M1) (hr : (([1003, 10, 32, 33, 34, 35] : List Nat).all fun x => !rs.elem x) = true) (hf : (z_bkf.all fun x => !rs.elem x) = true) (ho : z_oth T Q M M1) (hq : ∀ b q t m : Nat, T[b]? = some (.inl (3, q, t, m, 9)) → ¬ Q b) : z_R7 T M1 := by
  have nn := z_nin hr
  have k4 : T[4]? = some (.inl (0, 0, 0, 0, 0)) := hW.k rfl (by decide)
  have k10 : T[10]? = some (.inr (10, 2, 8, 9, 0)) := hW.k rfl (by decide)
  have o10 : z_O M1 10 = z_O M 10 := ke.o k10 (nn _ rfl)
  refine ⟨h.1.ke ke hf, fun A hA => ?_⟩
  obtain ⟨h1, h2, h0⟩ := h.2 A ((ke.1 4 0 0 0 0 0 3 k4 (nn _ rfl)).symm.trans hA)
  refine ⟨fun a ha => ?_, fun a a2 h3 h4 e => h2 a a2 h3 h4 (by rw [o10] at e; exact e), fun a h3 h4 => by rw [ke.a (hW.k (k := 35) (κ := z_ai 35 8 0 9) rfl (by decide)) (nn _ rfl)]; exact h0 a h3 h4⟩
  obtain ⟨b, q, t, m, h5, h6, J, w, y, n, h7, h8, h9, h10⟩ := h1 a ha
  refine ⟨b, q, t, m, by rw [o10]; exact h5, h6, J, w, y, n, h7, h8.oth h6 ho (hq b q t m h6), ?_, h10⟩
  unfold y_CB
  rw [ke.a (hW.k (k := 35) (κ := z_ai 35 8 0 9) rfl (by decide)) (nn _ rfl), ke.a (hW.k (k := 32) (κ := z_af 32 72) rfl (by decide)) (nn _ rfl), ke.a (hW.k (k := 33) (κ := z_af 33 72) rfl (by decide)) (nn _ rfl), ke.a (hW.k (k := 34) (κ := z_af 34 72) rfl (by decide)) (nn _ rfl)]
  exact h9
/-- one told bench was touched, on both sides alike -/
theorem z_R7.one {A : Int32} {a0 b0 q0 t0 m0 : Nat} (h : z_R7 T M) (hW : z_W M T) (hA : z_F M 4 3 = some (.int A)) (ha0 : (a0 : Int) < A.toInt) (hA8 : A.toInt ≤ 8) (ob : z_O M 10 a0 = some b0) (kb : T[b0]? = some (.inl (3, q0, t0, m0, 9))) (ke : z_ke T rs M M1) (hr : (([1003, 10, 32, 33, 34, 35] : List Nat).all fun x => !rs.elem x) = true) (hf : (z_bkf.all fun x => !rs.elem x) = true) (ho : z_oth T (fun b => b = b0) M M1) (hW1 : z_W M1 T) (ke2 : z_ke T r2 M1 M2) (hr2 : (([1003, 10, 201, 202, 203, 1304] : List Nat).all fun x => !r2.elem x) = true) (hf2 : (z_bkf.all fun x => !r2.elem x) = true) (hro : ∀ a : Nat, a < 8 → a ≠ a0 → z_Ar M2 35 a = z_Ar M1 35 a ∧ ∀ j, j < 9 → z_Ar M2 32 (9 * a + j) = z_Ar M1 32 (9 * a + j) ∧ z_Ar M2 33 (9 * a + j) = z_Ar M1 33 (9 * a + j) ∧ z_Ar M2 34 (9 * a + j) = z_Ar M1 34 (9 * a + j)) (hn : z_BR M1 M2 a0 b0 q0) : z_R7 T M2 := by
  have nn := z_nin hr
  have n2 := z_nin hr2
  have k4 : T[4]? = some (.inl (0, 0, 0, 0, 0)) := hW.k rfl (by decide)
  have k10 : T[10]? = some (.inr (10, 2, 8, 9, 0)) := hW.k rfl (by decide)
  have o10 : z_O M2 10 = z_O M 10 := (ke2.o k10 (n2 _ rfl)).trans (ke.o k10 (nn _ rfl))
  have eA : z_F M2 4 3 = z_F M 4 3 := (ke2.1 4 0 0 0 0 0 3 k4 (n2 _ rfl)).trans (ke.1 4 0 0 0 0 0 3 k4 (nn _ rfl))
  have hB1 := h.1.ke ke hf
  have hc : (([201, 202, 203, 1304] : List Nat).all fun x => !r2.elem x) = true := List.all_eq_true.mpr fun x hx => List.all_eq_true.mp hr2 x (by
    rcases List.mem_cons.mp hx with e | hx
    · rw [e]; decide
    · rcases List.mem_cons.mp hx with e | hx
      · rw [e]; decide
      · rcases List.mem_cons.mp hx with e | hx
        · rw [e]; decide
        · rcases List.mem_cons.mp hx with e | hx
          · rw [e]; decide
          · cases hx)
  refine ⟨hB1.ke ke2 hf2, fun A' hA' => ?_⟩
  rw [eA, hA] at hA'
  cases hA'
  obtain ⟨h1, h2, h0⟩ := h.2 A hA
  refine ⟨fun a ha => ?_, fun a a2 h3 h4 e => h2 a a2 h3 h4 (by rw [o10] at e; exact e), fun a h3 h4 => by rw [(hro a h4 (by omega)).1, ke.a (hW.k (k := 35) (κ := z_ai 35 8 0 9) rfl (by decide)) (nn _ rfl)]; exact h0 a h3 h4⟩
  by_cases c : a = a0
  · rw [c]
    obtain ⟨J, w, y, n, h7, h8, h9, h10⟩ := hn
    exact ⟨b0, q0, t0, m0, by rw [o10]; exact ob, kb, J, w, y, n, h7, h8.ke hB1 hW1 kb ke2 hc, h9, h10⟩
  · obtain ⟨b, q, t, m, h5, h6, J, w, y, n, h7, h8, ⟨h9, h11⟩, h10⟩ := h1 a ha
    have hne : ¬ b = b0 := fun e => by
      rw [e] at h5
      exact c (h2 a a0 ha ha0 (h5.trans ob.symm))
    refine ⟨b, q, t, m, by rw [o10]; exact h5, h6, J, w, y, n, h7, (h8.oth h6 ho hne).ke hB1 hW1 h6 ke2 hc, ⟨?_, fun j hj => ?_⟩, h10⟩
    · rw [(hro a (by omega) c).1, ke.a (hW.k (k := 35) (κ := z_ai 35 8 0 9) rfl (by decide)) (nn _ rfl)]
      exact h9
    · obtain ⟨g1, g2, g3⟩ := (hro a (by omega) c).2 j (by omega)
      rw [g1, g2, g3, ke.a (hW.k (k := 32) (κ := z_af 32 72) rfl (by decide)) (nn _ rfl), ke.a (hW.k (k := 33) (κ := z_af 33 72) rfl (by decide)) (nn _ rfl), ke.a (hW.k (k := 34) (κ := z_af 34 72) rfl (by decide)) (nn _ rfl)]
      exact h11 j hj
theorem z_blk.push {κ : zK} {e : zE} (h : z_blk T M) (hW : z_W M T) (hk : ∀ q t m J : Nat, κ ≠ .inl (3, q, t, m, J)) : z_blk (T ++ [κ]) (M ++ [e]) := by
  intro b q t m J hb
  have hlt : b < T.length := by
    by_cases c : b < T.length
    · exact c
    · rw [List.getElem?_append_right (by omega)] at hb
      have h2 : (.inl (3, q, t, m, J) : zK) ∈ [κ] := List.mem_of_getElem? hb
      exact absurd (List.mem_singleton.mp h2).symm (hk q t m J)
  rw [List.getElem?_append_left hlt] at hb
  have hF : ∀ k, z_F (M ++ [e]) b k = z_F M b k := fun k => by
    unfold z_F
    rw [List.getElem?_append_left (by rw [hW.1]; exact hlt)]
  obtain ⟨h1, h2, h3, h5, h6, h7, h8, h10, h11, h9⟩ := h b q t m J hb
  exact ⟨(hF 1).trans h1, (hF 2).trans h2, (hF 3).trans h3, (hF 5).trans h5, (hF 6).trans h6, (hF 7).trans h7, (hF 8).trans h8, (hF 10).trans h10, (hF 11).trans h11, (hF 9).trans h9⟩
end ZR7
