/-! the lean of a bench: FOR less AGAINST by question -/
theorem z_ivL {o : Option Value} {a b : Int32} (h : o = some (.int a)) (h2 : o = some (.int b)) : a = b := by
  rw [h] at h2
  cases h2
  rfl
def z_b1L (x k : Int32) : Int32 := (x >>> (k &&& 31)) &&& 1
def z_lj (w y n : Nat → Int32) (k : Int32) : Nat → Int32
  | 0 => 0
  | j + 1 => z_lj w y n k j + (z_b1L (y j) k - z_b1L (n j) k) * w j
section ZLJ
variable {w y n w2 y2 n2 : Nat → Int32} {k : Int32}
theorem z_rg0 (a w : Int32) : (a - a) * w = 0 := by rw [Int32.sub_self, Int32.zero_mul]
theorem z_rg1 (a b c d l w : Int32) : l + (a - b) * w = (l + (c - d) * w) + (((a - b) - c) + d) * w := by grind
theorem z_rg2 (x y z : Int32) : (x + z) + y = (x + y) + z := by grind
theorem z_ljC {J : Nat} (h : ∀ j, j < J → w j = w2 j ∧ y j = y2 j ∧ n j = n2 j) : z_lj w y n k J = z_lj w2 y2 n2 k J := by
  induction J with
  | zero => rfl
  | succ m ih =>
    show z_lj w y n k m + _ = z_lj w2 y2 n2 k m + _
    rw [ih fun j hj => h j (by omega), (h m (by omega)).1, (h m (by omega)).2.1, (h m (by omega)).2.2]
/-- one judge's answers are others -/
theorem z_ljU {J i : Nat} {Y N : Int32} (hi : i < J) : z_lj w (upd y i Y) (upd n i N) k J = z_lj w y n k J + (((z_b1L Y k - z_b1L N k) - z_b1L (y i) k) + z_b1L (n i) k) * w i := by
  induction J with
  | zero => exact absurd hi (Nat.not_lt_zero _)
  | succ m ih =>
    show z_lj w (upd y i Y) (upd n i N) k m + (z_b1L (if m = i then Y else y m) k - z_b1L (if m = i then N else n m) k) * w m = (z_lj w y n k m + (z_b1L (y m) k - z_b1L (n m) k) * w m) + _
    by_cases c : m = i
    · rw [if_pos c, if_pos c, c]
      have h : z_lj w (upd y i Y) (upd n i N) k i = z_lj w y n k i := z_ljC fun j hj => ⟨rfl, if_neg (by omega), if_neg (by omega)⟩
      rw [h]
      exact z_rg1 _ _ _ _ _ _
    · rw [if_neg c, if_neg c, ih (by omega)]
      exact z_rg2 _ _ _
end ZLJ
/-- what a bench's lean is -/
def z_LN (M : zH) (b q : Nat) : Prop := ∃ jv : Int32, z_F M b 4 = some (.int jv) ∧ (0 ≤ jv.toInt ∧ jv.toInt ≤ 9) ∧ ∀ k : Int32, 0 ≤ k.toInt → k.toInt < (q : Int) → z_Ar M (b + 4) k.toNatClampNeg = z_lj (z_Ar M (b + 1)) (z_Ar M (b + 2)) (z_Ar M (b + 3)) k jv.toInt.toNat
/-- what alter does to it -/
def z_lal (M0 M1 : zH) (b q : Nat) (j Y N : Int32) : Prop := ∀ k : Int32, 0 ≤ k.toInt → k.toInt < (q : Int) → z_Ar M1 (b + 4) k.toNatClampNeg = z_Ar M0 (b + 4) k.toNatClampNeg + (((z_b1L Y k - z_b1L N k) - z_b1L (z_Ar M0 (b + 2) j.toNatClampNeg) k) + z_b1L (z_Ar M0 (b + 3) j.toNatClampNeg) k) * z_Ar M0 (b + 1) j.toNatClampNeg
/-- within alter: the questions up to i -/
def z_lvi (M0 M : zH) (b : Nat) (j Y N : Int32) (i : Int) : Prop := ∀ k : Int32, 0 ≤ k.toInt → (k.toInt < i → z_Ar M (b + 4) k.toNatClampNeg = z_Ar M0 (b + 4) k.toNatClampNeg + (((z_b1L Y k - z_b1L N k) - z_b1L (z_Ar M0 (b + 2) j.toNatClampNeg) k) + z_b1L (z_Ar M0 (b + 3) j.toNatClampNeg) k) * z_Ar M0 (b + 1) j.toNatClampNeg) ∧ (i ≤ k.toInt → z_Ar M (b + 4) k.toNatClampNeg = z_Ar M0 (b + 4) k.toNatClampNeg)
theorem z_lvi0 {M0 M : zH} {b : Nat} {j Y N : Int32} {i : Int} (h : z_Ar M (b + 4) = z_Ar M0 (b + 4)) (hi : i = 0) : z_lvi M0 M b j Y N i := fun k h0 => ⟨fun h1 => by omega, fun _ => by rw [h]⟩
theorem z_lviS {M0 M M1 : zH} {b : Nat} {j Y N y1 n1 yo no ys ns os ps st s1 s2 mu l v w i i2 : Int32} (h : z_lvi M0 M b j Y N i.toInt) (h0 : 0 ≤ i.toInt) (hi : i2.toInt = i.toInt + 1) (e : z_Ar M1 (b + 4) = upd (z_Ar M (b + 4)) i.toNatClampNeg v) (hl : z_Ar M (b + 4) i.toNatClampNeg = l) (ho : z_Ar M0 (b + 2) j.toNatClampNeg = yo) (hn : z_Ar M0 (b + 3) j.toNatClampNeg = no) (hw : z_Ar M0 (b + 1) j.toNatClampNeg = w) (a1 : ys = Y >>> (i &&& 31)) (a2 : y1 = ys &&& 1) (a3 : ns = N >>> (i &&& 31)) (a4 : n1 = ns &&& 1) (a5 : s1 = y1 - n1) {o1 p1 : Int32} (a6 : os = yo >>> (i &&& 31)) (a7 : o1 = os &&& 1) (a8 : s2 = s1 - o1) (a9 : ps = no >>> (i &&& 31)) (b1 : p1 = ps &&& 1) (b2 : st = s2 + p1) (b3 : mu = st * w) (b4 : v = l + mu) : z_lvi M0 M1 b j Y N i2.toInt := fun k k0 => by
  rw [e]
  show (k.toInt < i2.toInt → (if k.toNatClampNeg = i.toNatClampNeg then v else z_Ar M (b + 4) k.toNatClampNeg) = _) ∧ (i2.toInt ≤ k.toInt → (if k.toNatClampNeg = i.toNatClampNeg then v else z_Ar M (b + 4) k.toNatClampNeg) = _)
  obtain ⟨g1, g2⟩ := h k k0
  have ek : k.toNatClampNeg = k.toInt.toNat := rfl
  have ei : i.toNatClampNeg = i.toInt.toNat := rfl
  by_cases c : k.toInt = i.toInt
  · have c2 : k = i := Int32.toInt_inj.mp c
    rw [c2, if_pos rfl]
    refine ⟨fun _ => ?_, fun h1 => by omega⟩
    have h3 := g2 (by omega)
    rw [c2] at h3
    rw [← h3, hl, ho, hn, hw, b4, b3, b2, b1, a9, a8, a7, a6, a5, a4, a3, a2, a1]
    rfl
  · rw [if_neg (by omega)]
    exact ⟨fun h1 => g1 (by omega), fun h1 => g2 (by omega)⟩
section ZLN
variable {T : List zK} {M M1 : zH} {rs : List Nat} {b q t m J : Nat}
theorem z_blk.k4 (h : z_blk T M) (hW : z_W M T) (hb : T[b]? = some (.inl (3, q, t, m, J))) : T[b + 4]? = some (z_af 205 10) := z_obf hW hb (h b q t m J hb).2.2.2.1
theorem z_LN.eqs (h : z_LN M b q) (h4 : z_F M1 b 4 = z_F M b 4) (e1 : z_Ar M1 (b + 1) = z_Ar M (b + 1)) (e2 : z_Ar M1 (b + 2) = z_Ar M (b + 2)) (e3 : z_Ar M1 (b + 3) = z_Ar M (b + 3)) (e5 : z_Ar M1 (b + 4) = z_Ar M (b + 4)) : z_LN M1 b q := by
  obtain ⟨jv, f, hj, h⟩ := h
  refine ⟨jv, h4.trans f, hj, fun k k0 k1 => ?_⟩
  rw [e1, e2, e3, e5]
  exact h k k0 k1
theorem z_LN.ke {Mz : zH} (h : z_LN M b q) (hbk : z_blk T Mz) (hW : z_W Mz T) (hb : T[b]? = some (.inl (3, q, t, m, J))) (ke : z_ke T rs M M1) (hr : (([201, 202, 203, 205, 1304] : List Nat).all fun x => !rs.elem x) = true) : z_LN M1 b q := by
  have nn := z_nin hr
  exact h.eqs (ke.1 b 3 q t m J 4 hb (nn _ rfl)) (ke.a (hbk.k1 hW hb) (nn _ rfl)) (ke.a (hbk.k2 hW hb) (nn _ rfl)) (ke.a (hbk.k3 hW hb) (nn _ rfl)) (ke.a (hbk.k4 hW hb) (nn _ rfl))
theorem z_LN.oth {Q : Nat → Prop} (h : z_LN M b q) (hb : T[b]? = some (.inl (3, q, t, m, J))) (ho : z_oth T Q M M1) (hq : ¬ Q b) : z_LN M1 b q := by
  obtain ⟨o1, o2⟩ := ho b q t m J hb hq
  have e : ∀ i, 1 ≤ i → i ≤ 10 → z_Ar M1 (b + i) = z_Ar M (b + i) := fun i h1 h2 => by
    unfold z_Ar
    rw [o2 i h1 h2]
  exact h.eqs (o1 4 (by decide)) (e 1 (by decide) (by decide)) (e 2 (by decide) (by decide)) (e 3 (by decide) (by decide)) (e 4 (by decide) (by decide))
/-- a judge who says nothing comes in -/
theorem z_LN.in0 {jv jv2 w0 : Int32} (h : z_LN M b q) (hj : z_F M b 4 = some (.int jv)) (h8 : jv.toInt ≤ 8) (h4 : z_F M1 b 4 = some (.int jv2)) (hj2 : jv2.toInt = jv.toInt + 1) (e1 : z_Ar M1 (b + 1) = upd (z_Ar M (b + 1)) jv.toNatClampNeg w0) (e2 : z_Ar M1 (b + 2) = upd (z_Ar M (b + 2)) jv.toNatClampNeg 0) (e3 : z_Ar M1 (b + 3) = upd (z_Ar M (b + 3)) jv.toNatClampNeg 0) (e5 : z_Ar M1 (b + 4) = z_Ar M (b + 4)) : z_LN M1 b q := by
  obtain ⟨jv', f, ⟨j0, j9⟩, h⟩ := h
  obtain rfl : jv' = jv := z_ivL f hj
  refine ⟨jv2, h4, ⟨by omega, by omega⟩, fun k k0 k1 => ?_⟩
  have ej : jv'.toNatClampNeg = jv'.toInt.toNat := rfl
  rw [e1, e2, e3, e5, h k k0 k1, show jv2.toInt.toNat = jv'.toInt.toNat + 1 by omega]
  show _ = z_lj (upd (z_Ar M (b + 1)) jv'.toNatClampNeg w0) (upd (z_Ar M (b + 2)) jv'.toNatClampNeg 0) (upd (z_Ar M (b + 3)) jv'.toNatClampNeg 0) k jv'.toInt.toNat + (z_b1L (if jv'.toInt.toNat = jv'.toNatClampNeg then 0 else z_Ar M (b + 2) jv'.toInt.toNat) k - z_b1L (if jv'.toInt.toNat = jv'.toNatClampNeg then 0 else z_Ar M (b + 3) jv'.toInt.toNat) k) * _
  rw [if_pos ej.symm, if_pos ej.symm, z_rg0, Int32.add_zero]
  exact z_ljC fun j hj => ⟨(if_neg (by omega)).symm, (if_neg (by omega)).symm, (if_neg (by omega)).symm⟩
/-- a judge's answers are altered -/
theorem z_LN.al {jv j Y N : Int32} (h : z_LN M b q) (hj : z_F M b 4 = some (.int jv)) (j0 : 0 ≤ j.toInt) (j1 : j.toInt < jv.toInt) (h4 : z_F M1 b 4 = z_F M b 4) (e1 : z_Ar M1 (b + 1) = z_Ar M (b + 1)) (e2 : z_Ar M1 (b + 2) = upd (z_Ar M (b + 2)) j.toNatClampNeg Y) (e3 : z_Ar M1 (b + 3) = upd (z_Ar M (b + 3)) j.toNatClampNeg N) (e5 : z_lal M M1 b q j Y N) : z_LN M1 b q := by
  obtain ⟨jv', f, hj9, h⟩ := h
  obtain rfl : jv' = jv := z_ivL f hj
  refine ⟨jv', h4.trans f, hj9, fun k k0 k1 => ?_⟩
  have ej : j.toNatClampNeg = j.toInt.toNat := rfl
  rw [e5 k k0 k1, e1, e2, e3, h k k0 k1]
  exact (z_ljU (by omega)).symm
theorem z_LN.no (h4 : z_F M b 4 = some (.int 0)) (h5 : ∀ k : Nat, k < 10 → z_Ar M (b + 4) k = 0) (hq : q ≤ 10) : z_LN M b q :=
  ⟨0, h4, ⟨by decide, by decide⟩, fun k k0 k1 => h5 _ (by show k.toInt.toNat < 10; omega)⟩
end ZLN
/-- every told bench's lean -/
def z_R8 (T : List zK) (M : zH) : Prop := ∀ b q t m : Nat, T[b]? = some (.inl (3, q, t, m, 9)) → z_LN M b q
theorem z_R8.ke {T T1 : List zK} {M M1 : zH} {rs : List Nat} (h : z_R8 T M) (hbk : z_blk T M) (hW : z_W M T) (hn : ∀ b q t m J : Nat, T1[b]? = some (.inl (3, q, t, m, J)) → T[b]? = some (.inl (3, q, t, m, J))) (ke : z_ke T rs M M1) (hr : (([201, 202, 203, 205, 1304] : List Nat).all fun x => !rs.elem x) = true) : z_R8 T1 M1 := fun b q t m hb => (h b q t m (hn _ _ _ _ _ hb)).ke hbk hW (hn _ _ _ _ _ hb) ke hr
theorem z_R8.one {T : List zK} {M M1 : zH} {b0 q0 : Nat} (h : z_R8 T M) (ho : z_oth T (fun w => w = b0) M M1) (hb : ∀ t m q, T[b0]? = some (.inl (3, q, t, m, 9)) → q = q0) (h0 : z_LN M1 b0 q0) : z_R8 T M1 := fun b q t m hk => by
  by_cases c : b = b0
  · rw [c] at hk ⊢
    rw [hb t m q hk]
    exact h0
  · exact (h b q t m hk).oth hk ho c
/-! the sums' cells of no question: zero -/
def z_lz (M : zH) (b : Nat) : Prop := z_Ar M (b + 5) 0 = 0 ∧ z_Ar M (b + 6) 0 = 0
/-- every told bench's lean, and its sums of nothing -/
def z_R89 (T : List zK) (M : zH) : Prop := ∀ b q t m : Nat, T[b]? = some (.inl (3, q, t, m, 9)) → z_LN M b q ∧ z_lz M b
def z_pr9 : List Nat := [201, 202, 203, 205, 1304, 206, 207]
/-- every told bench's sums of nothing -/
def z_R9 (T : List zK) (M : zH) : Prop := ∀ b q t m : Nat, T[b]? = some (.inl (3, q, t, m, 9)) → z_lz M b
section ZR9
variable {T T1 : List zK} {M M1 M2 : zH} {rs : List Nat} {b q t m J : Nat}
theorem z_blk.k5 (h : z_blk T M) (hW : z_W M T) (hb : T[b]? = some (.inl (3, q, t, m, J))) : T[b + 5]? = some (z_af 206 32) := z_obf hW hb (h b q t m J hb).2.2.2.2.1
theorem z_blk.k6 (h : z_blk T M) (hW : z_W M T) (hb : T[b]? = some (.inl (3, q, t, m, J))) : T[b + 6]? = some (z_af 207 32) := z_obf hW hb (h b q t m J hb).2.2.2.2.2.1
theorem z_lz.ke {Mz : zH} (h : z_lz M b) (hbk : z_blk T Mz) (hW : z_W Mz T) (hb : T[b]? = some (.inl (3, q, t, m, J))) (ke : z_ke T rs M M1) (hr : (([206, 207] : List Nat).all fun x => !rs.elem x) = true) : z_lz M1 b := by
  have nn := z_nin hr
  unfold z_lz
  rw [ke.a (hbk.k5 hW hb) (nn _ rfl), ke.a (hbk.k6 hW hb) (nn _ rfl)]
  exact h
theorem z_lz.oth {Q : Nat → Prop} (h : z_lz M b) (hb : T[b]? = some (.inl (3, q, t, m, J))) (ho : z_oth T Q M M1) (hq : ¬ Q b) : z_lz M1 b := by
  obtain ⟨_, o2⟩ := ho b q t m J hb hq
  have e : ∀ i, 1 ≤ i → i ≤ 10 → z_Ar M1 (b + i) = z_Ar M (b + i) := fun i h1 h2 => by
    unfold z_Ar
    rw [o2 i h1 h2]
  unfold z_lz
  rw [e 5 (by decide) (by decide), e 6 (by decide) (by decide)]
  exact h
theorem z_R89.r9 (h : z_R89 T M) : z_R9 T M := fun b q t m hb => (h b q t m hb).2
theorem z_R89.r8 (h : z_R89 T M) : z_R8 T M := fun b q t m hb => (h b q t m hb).1
theorem z_R89.ke (h : z_R89 T M) (hbk : z_blk T M) (hW : z_W M T) (hn : ∀ b q t m J : Nat, T1[b]? = some (.inl (3, q, t, m, J)) → T[b]? = some (.inl (3, q, t, m, J))) (ke : z_ke T rs M M1) (hr : z_dj z_pr9 rs = true) : z_R89 T1 M1 := fun b q t m hb => by
  have hb0 := hn b q t m 9 hb
  exact ⟨(h b q t m hb0).1.ke hbk hW hb0 ke (z_djs hr (by decide)), (h b q t m hb0).2.ke hbk hW hb0 ke (z_djs hr (by decide))⟩
theorem z_R89.go (h : z_R89 T M) (hbk : z_blk T M) (hW : z_W M T) (hX : z_X T rs M M1) (hr : z_dj z_pr9 rs = true) : z_R89 T M1 := h.ke hbk hW (fun _ _ _ _ _ h => h) hX.2 hr
theorem z_R89.id (h : z_R89 T M) (hbk : z_blk T M) (hW : z_W M T) (hW1 : z_W M1 T) (k1 : z_ke T [] M M1) (k2 : z_ke T [] M1 M2) : z_R89 T M2 := (h.ke hbk hW (fun _ _ _ _ _ h => h) k1 rfl).ke (hbk.ke k1 rfl) hW1 (fun _ _ _ _ _ h => h) k2 rfl
theorem z_R89.tri {Q : Nat → Prop} (h : z_R89 T M) (ho : z_oth T Q M M1) (hq : ∀ b q t m : Nat, T[b]? = some (.inl (3, q, t, m, 9)) → ¬ Q b) : z_R89 T M1 := fun b q t m hb => ⟨(h b q t m hb).1.oth hb ho (hq b q t m hb), (h b q t m hb).2.oth hb ho (hq b q t m hb)⟩
theorem z_R89.one {b0 q0 t0 m0 : Nat} (h : z_R89 T M) (ho : z_oth T (fun w => w = b0) M M1) (kb : T[b0]? = some (.inl (3, q0, t0, m0, 9))) (h0 : z_LN M1 b0 q0 ∧ z_lz M1 b0) : z_R89 T M1 := fun b q t m hk => by
  by_cases c : b = b0
  · rw [c, kb] at hk
    cases hk
    rw [c]
    exact h0
  · exact ⟨(h b q t m hk).1.oth hk ho c, (h b q t m hk).2.oth hk ho c⟩
/-- what a new agenda brings: benches of nobody -/
def z_N8 (T T1 : List zK) (M1 : zH) : Prop := ∀ b q t m : Nat, T1[b]? = some (.inl (3, q, t, m, 9)) → T[b]? = some (.inl (3, q, t, m, 9)) ∨ (z_F M1 b 4 = some (.int 0) ∧ (∀ k : Nat, k < 10 → z_Ar M1 (b + 4) k = 0) ∧ z_lz M1 b)
theorem z_R89.new {r2 : List Nat} (h : z_R89 T M) (hbk : z_blk T M) (hW : z_W M T) (hbk1 : z_blk T1 M1) (hW1 : z_W M1 T1) (hq : ∀ b q t m : Nat, T1[b]? = some (.inl (3, q, t, m, 9)) → q ≤ 10) (ke : z_ke T rs M M1) (hr : z_dj z_pr9 rs = true) (hN : z_N8 T T1 M1) (X2 : z_X T1 r2 M1 M2) (hr2 : z_dj z_pr9 r2 = true) : z_R89 T1 M2 := by
  have h1 : z_R89 T1 M1 := fun b q t m hb => by
    rcases hN b q t m hb with h2 | ⟨h2, h3, h4⟩
    · exact ⟨(h b q t m h2).1.ke hbk hW h2 ke (z_djs hr (by decide)), (h b q t m h2).2.ke hbk hW h2 ke (z_djs hr (by decide))⟩
    · exact ⟨z_LN.no h2 h3 (hq b q t m hb), h4⟩
  exact h1.go hbk1 hW1 X2 hr2
theorem z_R89.push1 {e : zE} {κ : zK} (h : z_R89 T M) (hbk : z_blk T M) (hW : z_W M T) (hk : ∀ q t m J : Nat, κ ≠ .inl (3, q, t, m, J)) : z_R89 (T ++ [κ]) (M ++ [e]) := h.ke (rs := []) hbk hW (fun b q t m J hb => by
  by_cases c : b < T.length
  · rw [List.getElem?_append_left c] at hb
    exact hb
  · rw [List.getElem?_append_right (by omega)] at hb
    have h2 : (.inl (3, q, t, m, J) : zK) ∈ [κ] := List.mem_of_getElem? hb
    exact absurd (List.mem_singleton.mp h2).symm (hk q t m J)) (z_ke.block hW) rfl
end ZR9
