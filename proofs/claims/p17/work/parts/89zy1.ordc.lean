/-! orders of the class, told -/
theorem z_dgK {l : List Nat} {q i : Nat} (q6 : q ≤ 6) (hlq : ∀ v, v ∈ l → v < q) (hi : i ≤ 5) : z_dgt (l.take i) < 100000 := by
  have h := z_dgB (l := l.take i) (fun v hv => by
    have := hlq v (List.mem_of_mem_take hv)
    omega)
  have h2 : (l.take i).length ≤ 5 := by
    rw [List.length_take]
    omega
  exact Nat.lt_of_lt_of_le h (Nat.pow_le_pow_right (n := 10) (by decide) h2)
theorem z_tkS {l : List Nat} {i : Nat} (hi : i < l.length) : l.take (i + 1) = l.take i ++ [l.getD i 0] := by
  rw [List.take_succ_eq_append_getElem hi, List.getD_eq_getElem?_getD, List.getElem?_eq_getElem hi]
  rfl
theorem z_dgS {l : List Nat} {i : Nat} (hi : i < l.length) : z_dgt (l.take (i + 1)) = 10 * z_dgt (l.take i) + l.getD i 0 := by
  rw [z_tkS hi, z_dgA]
def z_sw (f : Nat → Int32) (r a i : Nat) : Int32 := if i = r then f a else if i = a then f r else f i
/-- where the order rises last, and what it changes places with -/
def z_nxH (f : Nat → Int32) (q r a : Nat) : Prop := (r < a ∧ a < q) ∧ (f r).toInt ≤ (f (r + 1)).toInt ∧ (f r).toInt ≤ (f a).toInt ∧ (∀ k, a < k → k < q → (f k).toInt < (f r).toInt) ∧ ∀ k, r < k → k + 1 < q → (f (k + 1)).toInt < (f k).toInt
def z_nxP (f g : Nat → Int32) (q : Nat) : Prop := (∀ k, k + 1 < q → (f (k + 1)).toInt < (f k).toInt) ∨ ∃ r a, z_nxH f q r a ∧ ∀ i, i < q → g i = z_sw f r a (if i ≤ r then i else r + q - i)
def z_rvI (f A : Nat → Int32) (q r a lo hi : Nat) : Prop := (lo + hi = r + q ∧ r < lo ∧ lo ≤ hi + 1) ∧ ∀ i, i < q → A i = if (r < i ∧ i < lo) ∨ hi < i then z_sw f r a (r + q - i) else z_sw f r a i
theorem z_rvI.fin {f A : Nat → Int32} {q r a lo hi : Nat} (h : z_rvI f A q r a lo hi) (hr : r + 1 < q) (he : hi ≤ lo) : ∀ i, i < q → A i = z_sw f r a (if i ≤ r then i else r + q - i) := fun i hi2 => by
  obtain ⟨⟨h1, h2, h3⟩, h4⟩ := h
  rw [h4 i hi2]
  by_cases c : i ≤ r
  · rw [if_pos c, if_neg (by omega)]
  · rw [if_neg c]
    by_cases d : (r < i ∧ i < lo) ∨ hi < i
    · rw [if_pos d]
    · rw [if_neg d, show r + q - i = i by omega]
theorem z_rvI.step {f A A1 A2 : Nat → Int32} {q r a lo hi lo2 hi2 : Nat} {x y : Int32} (h : z_rvI f A q r a lo hi) (hq : hi < q) (hl : lo < hi) (hx : A lo = x) (hy : A hi = y) (h1 : A1 = upd A lo y) (h2 : A2 = upd A1 hi x) (e1 : lo2 = lo + 1) (e2 : hi2 = hi - 1) : z_rvI f A2 q r a lo2 hi2 := by
  obtain ⟨⟨g1, g2, g3⟩, g4⟩ := h
  refine ⟨⟨by omega, by omega, by omega⟩, fun i hi3 => ?_⟩
  have k1 := g4 lo (by omega)
  have k2 := g4 hi hq
  rw [if_neg (by omega)] at k1 k2
  rw [h2, h1]
  show (if i = hi then x else if i = lo then y else A i) = _
  by_cases c : i = hi
  · rw [if_pos c, if_pos (by omega), ← hx, k1, show r + q - i = lo by omega]
  · rw [if_neg c]
    by_cases d : i = lo
    · rw [if_pos d, if_pos (by omega), ← hy, k2, show r + q - i = hi by omega]
    · rw [if_neg d, g4 i hi3]
      by_cases e : (r < i ∧ i < lo) ∨ hi < i
      · rw [if_pos e, if_pos (by omega)]
      · rw [if_neg e, if_neg (by omega)]
theorem z_rvI0 {f A1 A2 : Nat → Int32} {q r a lo hi : Nat} {x y : Int32} (hra : r < a ∧ a < q) (hx : f r = x) (hy : f a = y) (h1 : A1 = upd f r y) (h2 : A2 = upd A1 a x) (e1 : lo = r + 1) (e2 : hi + 1 = q) : z_rvI f A2 q r a lo hi := by
  refine ⟨⟨by omega, by omega, by omega⟩, fun i hi3 => ?_⟩
  rw [if_neg (by omega), h2, h1]
  show (if i = a then x else if i = r then y else f i) = (if i = r then f a else if i = a then f r else f i)
  by_cases c : i = a
  · rw [if_pos c, if_neg (by omega), if_pos c, hx]
  · rw [if_neg c]
    by_cases d : i = r
    · rw [if_pos d, if_pos d, hy]
    · rw [if_neg d, if_neg d, if_neg c]
/-- the next order stands -/
theorem z_ckG {q : Nat} (q6 : q ≤ 6) : z_ckp q = true := List.all_eq_true.mp z_ckT q (List.mem_range.mpr (by omega))
theorem z_pmsN {q : Nat} (q6 : q ≤ 6) : (z_pm q q []).length = z_fc q := by
  have h := z_ckG q6
  unfold z_ckp at h
  simp only [Bool.and_eq_true, beq_iff_eq] at h
  exact h.1.1.1
theorem z_pms0 {q : Nat} (q6 : q ≤ 6) : (z_pm q q []).getD 0 [] = List.range q := by
  have h := z_ckG q6
  unfold z_ckp at h
  simp only [Bool.and_eq_true, beq_iff_eq] at h
  exact h.1.1.2
theorem z_pmsL {q k : Nat} (q6 : q ≤ 6) (hk : k < z_fc q) : ((z_pm q q []).getD k []).length = q ∧ ∀ v, v ∈ (z_pm q q []).getD k [] → v < q := by
  have h := z_ckG q6
  have hN := z_pmsN q6
  unfold z_ckp at h
  simp only [Bool.and_eq_true, beq_iff_eq] at h
  have h2 := List.all_eq_true.mp h.1.2 ((z_pm q q []).getD k []) (by
    rw [List.getD_eq_getElem?_getD, List.getElem?_eq_getElem (by omega)]
    exact List.getElem_mem _)
  simp only [Bool.and_eq_true, beq_iff_eq] at h2
  exact ⟨h2.1, fun v hv => of_decide_eq_true (List.all_eq_true.mp h2.2 v hv)⟩
theorem z_rpg {g : Nat → Int32} {q : Nat} {l : List Nat} (h : z_rp g q l) (i : Nat) (hi : i < q) : (g i).toInt = ((l.getD i 0 : Nat) : Int) := h.2 i hi
theorem z_nxR {f g : Nat → Int32} {q k : Nat} (q6 : q ≤ 6) (hk : k + 1 < z_fc q) (hf : z_rp f q ((z_pm q q []).getD k [])) (h : z_nxP f g q) : z_rp g q ((z_pm q q []).getD (k + 1) []) := by
  have hc := z_ckG q6
  unfold z_ckp at hc
  simp only [Bool.and_eq_true] at hc
  have h2 := List.all_eq_true.mp hc.2 k (List.mem_range.mpr (by omega))
  simp only [Bool.and_eq_true, Bool.not_eq_true'] at h2
  obtain ⟨h3, h4⟩ := h2
  generalize hl : (z_pm q q []).getD k [] = l at *
  obtain ⟨f1, f2⟩ := hf
  rcases h with h | ⟨r, a, ⟨⟨r1, r2⟩, r3, r4, r5, r6⟩, h6⟩
  · exfalso
    have h5 : z_dsc q l = true := List.all_eq_true.mpr fun i hi => by
      by_cases c : i + 1 < q
      · have := h i c
        rw [f2 i (by omega), f2 (i + 1) c] at this
        rw [decide_eq_true c, decide_eq_true (show l.getD (i + 1) 0 < l.getD i 0 by omega)]
        rfl
      · rw [decide_eq_false c]
        rfl
    rw [h5] at h3
    cases h3
  · have h5 := List.all_eq_true.mp (List.all_eq_true.mp h4 r (List.mem_range.mpr (by omega))) a (List.mem_range.mpr r2)
    have h7 : z_ncx q l r a = true := by
      rw [f2 r (by omega), f2 (r + 1) (by omega)] at r3
      rw [f2 r (by omega), f2 a r2] at r4
      unfold z_ncx
      simp only [Bool.and_eq_true]
      refine ⟨⟨⟨⟨decide_eq_true r1, decide_eq_true (by omega)⟩, decide_eq_true (by omega)⟩, List.all_eq_true.mpr fun i hi => ?_⟩, List.all_eq_true.mpr fun i hi => ?_⟩
      · have hi2 := List.mem_range.mp hi
        by_cases c : a < i
        · have := r5 i c hi2
          rw [f2 i hi2, f2 r (by omega)] at this
          rw [decide_eq_true c, decide_eq_true (show l.getD i 0 < l.getD r 0 by omega)]
          rfl
        · rw [decide_eq_false c]
          rfl
      · by_cases c : r < i ∧ i + 1 < q
        · have := r6 i c.1 c.2
          rw [f2 i (by omega), f2 (i + 1) c.2] at this
          rw [decide_eq_true c.1, decide_eq_true c.2, decide_eq_true (show l.getD (i + 1) 0 < l.getD i 0 by omega)]
          rfl
        · by_cases d : r < i
          · rw [decide_eq_false (show ¬ i + 1 < q from fun e => c ⟨d, e⟩), Bool.and_false]
            rfl
          · rw [decide_eq_false d]
            rfl
    rw [h7] at h5
    have h8 : z_nxl q l r a = (z_pm q q []).getD (k + 1) [] := by
      have : (z_nxl q l r a == (z_pm q q []).getD (k + 1) []) = true := h5
      exact beq_iff_eq.mp this
    have sw : ∀ i, i < q → (z_sw f r a i).toInt = ((z_hlx l r a i : Nat) : Int) := fun i hi => by
      unfold z_sw z_hlx
      by_cases c : i = r
      · rw [if_pos c, if_pos c]
        exact f2 a r2
      · rw [if_neg c, if_neg c]
        by_cases d : i = a
        · rw [if_pos d, if_pos d]
          exact f2 r (by omega)
        · rw [if_neg d, if_neg d]
          exact f2 i hi
    rw [← h8]
    unfold z_nxl
    refine ⟨by rw [List.length_map, List.length_range], fun i hi => ?_⟩
    rw [h6 i hi, sw _ (by split <;> omega), List.getD_eq_getElem?_getD, List.getElem?_map, List.getElem?_range hi]
    rfl
theorem zUB156 {T : List zK} {d : Nat} {K : Option Value → zH → Prop} {a0 : Nat} {q : Nat} {t : Nat} {m : Nat} {J : Nat} {M0 : zH} (k0 : T[a0]? = some (.inl (3, q, t, m, J))) (hW0 : z_W M0 T) (hbk : z_blk T M0) {l : List Nat} (hl : z_rp (z_Ar M0 (a0 + 7)) q l) (q6 : q ≤ 6) (hlq : ∀ v, v ∈ l → v < q) (kk : ∀ (x : Int32) (M1 : zH), z_X T zw156 M0 M1 → x.toInt = (z_dgt l : Int) → K (some (.int x)) M1) : ∀ n : Nat, (∀ (M : zH) (b1 : Int32) (b2 : Int32), z_X T zw156 M0 M → 0 ≤ b2.toInt ∧ b2.toInt ≤ 10 → b2.toInt ≤ (q : Int) → b1.toInt = (z_dgt (l.take b2.toInt.toNat) : Int) → ((0) * 2 + 0) * 11 + (10 - b2.toInt) < (n : Int) → z_ev d 156 4 [some (.ref a0), some (.int b1), some (.int b2)] [] M K) := by
  intro n
  induction n with
  | zero => exact by intros; exfalso; omega
  | succ n ih =>
    intro M b1 b2 X hh0 hq0 hI hE
    have g0 := X.1.p3 k0
    refine z_xP zt156 1 6 [some (.ref a0), some (.int b1), some (.int b2)] [.ref a0, .int b2] rfl rfl ?_
    refine z_xgR (κ := .inl (2, q, t, m, 0)) zt156 2 rfl zo156 zzf3_39 X k0 (by decide) (by decide) rfl (fun (a2 : Nat) h1 k3 => ?_)
    have g4 := X.1.p2 k3
    refine z_xgI zt156 3 rfl zo156 zzf3_63 X k3 (by decide) (by decide) rfl (fun (x6 : Int32) h5 (h7 : (q : Int) ≤ x6.toInt) (h8 : x6.toInt ≤ (q : Int)) => ?_)
    refine z_xJ zt156 4 rfl rfl (fun (h9 : x6.toInt ≤ b2.toInt) => ?_) (fun (h9 : b2.toInt < x6.toInt) => ?_)
    · skip
      refine z_xP zt156 15 34 [some (.ref a0), some (.int b1), some (.int b2)] [.int b1] rfl rfl ?_
      exact z_xri zt156 16 rfl zzr156 (kk b1 M X (by rw [hI, List.take_of_length_le (by have := hl.1; omega)]))
    refine z_xP zt156 5 18 [some (.ref a0), some (.int b1), some (.int b2)] [.int 10, .int b1] rfl rfl ?_
    have h10 := z_b32 b1
    have hK := z_dgK (i := b2.toInt.toNat) q6 hlq (by omega)
    refine z_xI zt156 6 rfl rfl (fun (x11 : Int32) (h11 : x11.toInt = b1.toInt * 10) => ?_) (z_pMul rfl rfl (by omega) (by omega))
    refine z_xP zt156 7 20 [some (.ref a0), some (.int b1), some (.int b2)] [.ref a0, .int x11] rfl rfl ?_
    refine z_xgR (κ := .inr (208, 0, 10, 0, ((q : Nat) : Int) - 1)) zt156 8 rfl zo156 zzf3_30 X k0 (by decide) (by decide) rfl (fun (a14 : Nat) h13 k15 => ?_)
    refine z_xP zt156 9 24 [some (.ref a0), some (.int b1), some (.int b2)] [.int b2, .ref a14, .int x11] rfl rfl ?_
    refine z_xil zt156 10 rfl X k15 (by decide) (by omega) (by omega) (fun (x16 : Int32) h17 (h18 : 0 ≤ x16.toInt) (h19 : x16.toInt ≤ ((q : Nat) : Int) - 1) => ?_)
    have ia := z_rfe h13 (X.2.f k0 (by decide) (hbk _ _ _ _ _ k0).2.2.2.2.2.2.1)
    rw [ia] at h17
    have hx : ((l.getD b2.toInt.toNat 0 : Nat) : Int) = x16.toInt := by
      rw [← hl.2 b2.toInt.toNat (by omega)]
      exact congrArg Int32.toInt ((congrFun (X.2.a (hbk.k7 hW0 k0) (by decide)) _).symm.trans h17)
    have h20 := z_b32 x11
    refine z_xI zt156 11 rfl rfl (fun (x21 : Int32) (h21 : x21.toInt = x11.toInt + x16.toInt) => ?_) (z_pAdd rfl rfl (by omega) (by omega))
    refine z_xP zt156 12 27 [some (.ref a0), some (.int x21), some (.int b2)] [] rfl rfl ?_
    refine z_xN zt156 13 rfl rfl (fun (x23 : Int32) (h24 : x23.toInt = b2.toInt + 1) => ?_) (z_pAdd rfl rfl (by omega) (by omega))
    show z_ev d 156 30 [some (.ref a0), some (.int x21), some (.int x23)] [] M _
    refine z_xP zt156 14 4 [some (.ref a0), some (.int x21), some (.int x23)] [] rfl rfl ?_
    have es : x23.toInt.toNat = b2.toInt.toNat + 1 := by omega
    exact ih M x21 x23 X ⟨by omega, by omega⟩ (by omega) (by rw [es, z_dgS (by have := hl.1; omega)]; omega) (by omega)
theorem zUC156 {T : List zK} {d : Nat} {K : Option Value → zH → Prop} {a0 : Nat} {q : Nat} {t : Nat} {m : Nat} {J : Nat} {M0 : zH} (hW : z_W M0 T) (k0 : T[a0]? = some (.inl (3, q, t, m, J))) (hbk : z_blk T M0) {l : List Nat} (hl : z_rp (z_Ar M0 (a0 + 7)) q l) (q6 : q ≤ 6) (hlq : ∀ v, v ∈ l → v < q) (kk : ∀ (x : Int32) (M1 : zH), z_X T zw156 M0 M1 → x.toInt = (z_dgt l : Int) → K (some (.int x)) M1) : z_ev d 156 0 [some (.ref a0), none, none] [] M0 K := by
  have X : z_X T zw156 M0 M0 := .refl hW
  have g0 := X.1.p3 k0
  refine z_xP zt156 0 4 [some (.ref a0), some (.int 0), some (.int 0)] [] rfl rfl ?_
  have q0 : ((0 : Int32)).toInt = 0 := rfl
  exact (zUB156 k0 hW hbk hl q6 hlq kk 22) M0 (0) (0) X (by decide) (by omega) rfl (by omega)
theorem zUB157 {T : List zK} {d : Nat} {K : Option Value → zH → Prop} {a0 : Nat} {q : Nat} {t : Nat} {m : Nat} {J : Nat} {M0 : zH} (k0 : T[a0]? = some (.inl (3, q, t, m, J))) (hW0 : z_W M0 T) (hbk : z_blk T M0) (kk : ∀ (M1 : zH), z_X T zw157 M0 M1 → z_nxP (z_Ar M0 (a0 + 7)) (z_Ar M1 (a0 + 7)) q → K none M1) : ∀ n : Nat, (∀ (M : zH) (b1 : Int32) (b2 : Int32), z_X T zw157 M0 M → 0 ≤ b1.toInt ∧ b1.toInt ≤ 9 → (-1) ≤ b2.toInt ∧ b2.toInt ≤ 8 → b1.toInt = (q : Int) - 1 → b2.toInt < b1.toInt → z_Ar M (a0 + 7) = z_Ar M0 (a0 + 7) → (∀ k : Nat, b2.toInt < (k : Int) → k + 1 < q → (z_Ar M0 (a0 + 7) (k + 1)).toInt < (z_Ar M0 (a0 + 7) k).toInt) → ((0) * 4 + 2) * 10 + (b2.toInt - (-1)) < (n : Int) → z_ev (d + 1) 157 14 [some (.ref a0), some (.int b1), some (.int b2), none, none, none] [] M K) ∧ (∀ (M : zH) (b1 : Int32) (b2 : Int32) (b3 : Int32), z_X T zw157 M0 M → 0 ≤ b1.toInt ∧ b1.toInt ≤ 9 → 0 ≤ b2.toInt ∧ b2.toInt ≤ 8 → 0 ≤ b3.toInt ∧ b3.toInt ≤ 9 → b1.toInt = (q : Int) - 1 → (0 ≤ b2.toInt ∧ b2.toInt < b3.toInt ∧ b3.toInt < (q : Int)) → z_Ar M (a0 + 7) = z_Ar M0 (a0 + 7) → (z_Ar M0 (a0 + 7) b2.toInt.toNat).toInt ≤ (z_Ar M0 (a0 + 7) (b2.toInt.toNat + 1)).toInt → (∀ k : Nat, b2.toInt.toNat < k → k + 1 < q → (z_Ar M0 (a0 + 7) (k + 1)).toInt < (z_Ar M0 (a0 + 7) k).toInt) → (∀ k : Nat, b3.toInt < (k : Int) → k < q → (z_Ar M0 (a0 + 7) k).toInt < (z_Ar M0 (a0 + 7) b2.toInt.toNat).toInt) → ((0) * 4 + 1) * 10 + (b3.toInt - 0) < (n : Int) → z_ev (d + 1) 157 48 [some (.ref a0), some (.int b1), some (.int b2), some (.int b3), none, none] [] M K) ∧ (∀ (M : zH) (b1 : Int32) (b2 : Int32) (b3 : Int32) (b4 : Int32) (b5 : Int32), z_X T zw157 M0 M → 0 ≤ b1.toInt ∧ b1.toInt ≤ 9 → 0 ≤ b2.toInt ∧ b2.toInt ≤ 8 → 0 ≤ b3.toInt ∧ b3.toInt ≤ 9 → 1 ≤ b4.toInt ∧ b4.toInt ≤ 9 → 0 ≤ b5.toInt ∧ b5.toInt ≤ 9 → (0 ≤ b2.toInt ∧ 0 ≤ b3.toInt ∧ 0 ≤ b4.toInt ∧ 0 ≤ b5.toInt ∧ b5.toInt < (q : Int)) → z_nxH (z_Ar M0 (a0 + 7)) q b2.toInt.toNat b3.toInt.toNat → z_rvI (z_Ar M0 (a0 + 7)) (z_Ar M (a0 + 7)) q b2.toInt.toNat b3.toInt.toNat b4.toInt.toNat b5.toInt.toNat → ((0) * 4 + 0) * 10 + (9 - b4.toInt) < (n : Int) → z_ev (d + 1) 157 88 [some (.ref a0), some (.int b1), some (.int b2), some (.int b3), some (.int b4), some (.int b5)] [] M K) := by
  intro n
  induction n with
  | zero => exact ⟨(by intros; exfalso; omega), (by intros; exfalso; omega), (by intros; exfalso; omega)⟩
  | succ n ih =>
    refine ⟨?_, ?_, ?_⟩
    · skip
      intro M b1 b2 X hh0 hh1 hb1 hb2 hA hD hE
      have g0 := X.1.p3 k0
      refine z_xP zt157 8 15 [some (.ref a0), some (.int b1), some (.int b2), none, none, none] [.int b2] rfl rfl ?_
      refine z_xZ zt157 9 rfl rfl (fun (h1 : b2.toInt < 0) => ?_) (fun (h1 : 0 ≤ b2.toInt) => ?_)
      · skip
        refine z_xP zt157 22 42 [some (.ref a0), some (.int b1), some (.int b2), none, none, none] [.int b2] rfl rfl ?_
        refine z_xZ zt157 23 rfl rfl (fun (h2 : 0 ≤ b2.toInt) => absurd h2 (by omega)) (fun (h2 : b2.toInt < 0) => ?_)
        exact z_xrv zt157 24 rfl zzr157 (kk M X (Or.inl fun k hk => hD k (by omega) hk))
      refine z_xP zt157 10 19 [some (.ref a0), some (.int b1), some (.int b2), none, none, none] [.ref a0] rfl rfl ?_
      refine z_xgR (κ := .inr (208, 0, 10, 0, ((q : Nat) : Int) - 1)) zt157 11 rfl zo157 zzf3_30 X k0 (by decide) (by decide) rfl (fun (a4 : Nat) h3 k5 => ?_)
      refine z_xP zt157 12 23 [some (.ref a0), some (.int b1), some (.int b2), none, none, none] [.int b2, .ref a4] rfl rfl ?_
      refine z_xil zt157 13 rfl X k5 (by decide) (by omega) (by omega) (fun (x6 : Int32) h7 (h8 : 0 ≤ x6.toInt) (h9 : x6.toInt ≤ ((q : Nat) : Int) - 1) => ?_)
      refine z_xP zt157 14 25 [some (.ref a0), some (.int b1), some (.int b2), none, none, none] [.ref a0, .int x6] rfl rfl ?_
      refine z_xgv zt157 15 rfl zo157 zzf3_30 X k0 (by decide) h3 ?_
      refine z_xP zt157 16 30 [some (.ref a0), some (.int b1), some (.int b2), none, none, none] [.int 1, .int b2, .ref a4, .int x6] rfl rfl ?_
      refine z_xI zt157 17 rfl rfl (fun (x10 : Int32) (h11 : x10.toInt = b2.toInt + 1) => ?_) (z_pAdd rfl rfl (by omega) (by omega))
      refine z_xil zt157 18 rfl X k5 (by decide) (by omega) (by omega) (fun (x12 : Int32) h13 (h14 : 0 ≤ x12.toInt) (h15 : x12.toInt ≤ ((q : Nat) : Int) - 1) => ?_)
      have ia := z_rfe h3 (X.2.f k0 (by decide) (hbk _ _ _ _ _ k0).2.2.2.2.2.2.1)
      rw [ia] at h7 h13
      have hx6 : (z_Ar M0 (a0 + 7) b2.toInt.toNat).toInt = x6.toInt := congrArg Int32.toInt ((congrFun hA _).symm.trans h7)
      have hx12 : (z_Ar M0 (a0 + 7) (b2.toInt.toNat + 1)).toInt = x12.toInt := by
        have e : b2.toInt.toNat + 1 = x10.toNatClampNeg := by
          show _ = x10.toInt.toNat
          omega
        rw [e]
        exact congrArg Int32.toInt ((congrFun hA _).symm.trans h13)
      refine z_xJ zt157 19 rfl rfl (fun (h16 : x6.toInt ≤ x12.toInt) => ?_) (fun (h16 : x12.toInt < x6.toInt) => ?_)
      · skip
        refine z_xP zt157 22 42 [some (.ref a0), some (.int b1), some (.int b2), none, none, none] [.int b2] rfl rfl ?_
        refine z_xZ zt157 23 rfl rfl (fun (h17 : 0 ≤ b2.toInt) => ?_) (fun (h17 : b2.toInt < 0) => absurd h17 (by omega))
        refine z_xP zt157 25 48 [some (.ref a0), some (.int b1), some (.int b2), some (.int b1), none, none] [] rfl rfl ?_
        exact ih.2.1 M b1 b2 b1 X ⟨by omega, by omega⟩ ⟨by omega, by omega⟩ ⟨by omega, by omega⟩ hb1 ⟨by omega, by omega, by omega⟩ hA (by omega) (fun k k1 k2 => hD k (by omega) k2) (fun k k1 k2 => by omega) (by omega)
      refine z_xN zt157 20 rfl rfl (fun (x18 : Int32) (h19 : x18.toInt = b2.toInt + (-1)) => ?_) (z_pAdd rfl rfl (by omega) (by omega))
      show z_ev (d + 1) 157 38 [some (.ref a0), some (.int b1), some (.int x18), none, none, none] [] M _
      refine z_xP zt157 21 14 [some (.ref a0), some (.int b1), some (.int x18), none, none, none] [] rfl rfl ?_
      refine ih.1 M b1 x18 X ⟨by omega, by omega⟩ ⟨by omega, by omega⟩ hb1 (by omega) hA (fun k k1 k2 => ?_) (by omega)
      by_cases ck : k = b2.toInt.toNat
      · rw [ck]
        omega
      · exact hD k (by omega) k2
    · skip
      intro M b1 b2 b3 X hh0 hh1 hh2 hb1 hb hA hR hD hC hE
      have g0 := X.1.p3 k0
      refine z_xP zt157 26 50 [some (.ref a0), some (.int b1), some (.int b2), some (.int b3), none, none] [.int b2, .int b3] rfl rfl ?_
      refine z_xJ zt157 27 rfl rfl (fun (h1 : b3.toInt ≤ b2.toInt) => absurd h1 (by omega)) (fun (h1 : b2.toInt < b3.toInt) => ?_)
      refine z_xP zt157 28 54 [some (.ref a0), some (.int b1), some (.int b2), some (.int b3), none, none] [.ref a0] rfl rfl ?_
      refine z_xgR (κ := .inr (208, 0, 10, 0, ((q : Nat) : Int) - 1)) zt157 29 rfl zo157 zzf3_30 X k0 (by decide) (by decide) rfl (fun (a25 : Nat) h24 k26 => ?_)
      refine z_xP zt157 30 58 [some (.ref a0), some (.int b1), some (.int b2), some (.int b3), none, none] [.int b3, .ref a25] rfl rfl ?_
      refine z_xil zt157 31 rfl X k26 (by decide) (by omega) (by omega) (fun (x27 : Int32) h28 (h29 : 0 ≤ x27.toInt) (h30 : x27.toInt ≤ ((q : Nat) : Int) - 1) => ?_)
      refine z_xP zt157 32 60 [some (.ref a0), some (.int b1), some (.int b2), some (.int b3), none, none] [.ref a0, .int x27] rfl rfl ?_
      refine z_xgv zt157 33 rfl zo157 zzf3_30 X k0 (by decide) h24 ?_
      refine z_xP zt157 34 64 [some (.ref a0), some (.int b1), some (.int b2), some (.int b3), none, none] [.int b2, .ref a25, .int x27] rfl rfl ?_
      refine z_xil zt157 35 rfl X k26 (by decide) (by omega) (by omega) (fun (x31 : Int32) h32 (h33 : 0 ≤ x31.toInt) (h34 : x31.toInt ≤ ((q : Nat) : Int) - 1) => ?_)
      have ia := z_rfe h24 (X.2.f k0 (by decide) (hbk _ _ _ _ _ k0).2.2.2.2.2.2.1)
      rw [ia] at h28 h32
      have hx27 : (z_Ar M0 (a0 + 7) b3.toInt.toNat).toInt = x27.toInt := congrArg Int32.toInt ((congrFun hA _).symm.trans h28)
      have hx31 : (z_Ar M0 (a0 + 7) b2.toInt.toNat).toInt = x31.toInt := congrArg Int32.toInt ((congrFun hA _).symm.trans h32)
      refine z_xJ zt157 36 rfl rfl (fun (h35 : x31.toInt ≤ x27.toInt) => ?_) (fun (h35 : x27.toInt < x31.toInt) => ?_)
      · skip
        refine z_xP zt157 39 77 [some (.ref a0), some (.int b1), some (.int b2), some (.int b3), none, none] [.int b3, .int b2, .ref a0] rfl rfl ?_
        refine z_xcV (vs := [.ref a0, .int b2, .int b3]) (r := []) (L2 := [some (.ref a0), some (.int b2), some (.int b3), none]) zt157 40 rfl zo157 zzcV3_132 (Or.inl rfl) rfl X k0 rfl rfl rfl (Nat.le_of_ble_eq_true rfl) zzm158 (Nat.le_of_ble_eq_true rfl) rfl ?_
        refine z_xP zt158 0 1 [some (.ref a0), some (.int b2), some (.int b3), none] [.ref a0] rfl rfl ?_
        refine z_xgv zt158 1 rfl zo158 zzf3_30 X k0 (by decide) h24 ?_
        refine z_xP zt158 2 5 [some (.ref a0), some (.int b2), some (.int b3), none] [.int b2, .ref a25] rfl rfl ?_
        refine z_xil zt158 3 rfl X k26 (by decide) (by omega) (by omega) (fun (x36 : Int32) h37 (h38 : 0 ≤ x36.toInt) (h39 : x36.toInt ≤ ((q : Nat) : Int) - 1) => ?_)
        rw [ia] at h37
        have h40 := congrArg Int32.toInt (h37.symm.trans h32)
        refine z_xP zt158 4 8 [some (.ref a0), some (.int b2), some (.int b3), some (.int x36)] [.ref a0] rfl rfl ?_
        refine z_xgv zt158 5 rfl zo158 zzf3_30 X k0 (by decide) h24 ?_
        refine z_xP zt158 6 13 [some (.ref a0), some (.int b2), some (.int b3), some (.int x36)] [.ref a0, .int b2, .ref a25] rfl rfl ?_
        refine z_xgv zt158 7 rfl zo158 zzf3_30 X k0 (by decide) h24 ?_
        refine z_xP zt158 8 17 [some (.ref a0), some (.int b2), some (.int b3), some (.int x36)] [.int b3, .ref a25, .int b2, .ref a25] rfl rfl ?_
        refine z_xil zt158 9 rfl X k26 (by decide) (by omega) (by omega) (fun (x41 : Int32) h42 (h43 : 0 ≤ x41.toInt) (h44 : x41.toInt ≤ ((q : Nat) : Int) - 1) => ?_)
        rw [ia] at h42
        have h45 := congrArg Int32.toInt (h42.symm.trans h28)
        refine z_xis zt158 10 rfl X k26 (by decide) (X.1.g4 k26 (by decide)) (by omega) (by omega) (by omega) (by omega) (by decide) (fun M46 X47 e48 h49 => ?_)
        refine z_xP zt158 11 20 [some (.ref a0), some (.int b2), some (.int b3), some (.int x36)] [.ref a0] rfl rfl ?_
        have h50 := (e48.f k0 (by decide) h24)
        refine z_xgv zt158 12 rfl zo158 zzf3_30 X47 k0 (by decide) h50 ?_
        refine z_xP zt158 13 25 [some (.ref a0), some (.int b2), some (.int b3), some (.int x36)] [.int x36, .int b3, .ref a25] rfl rfl ?_
        refine z_xis zt158 14 rfl X47 k26 (by decide) (X47.1.g4 k26 (by decide)) (by omega) (by omega) (by omega) (by omega) (by decide) (fun M51 X52 e53 h54 => ?_)
        refine z_xrv zt158 15 rfl zzr158 ?_
        show z_ev (d + 1) 157 80 [some (.ref a0), some (.int b1), some (.int b2), some (.int b3), none, none] [] M51 _
        refine z_xP zt157 41 82 [some (.ref a0), some (.int b1), some (.int b2), some (.int b3), none, none] [.int 1, .int b2] rfl rfl ?_
        refine z_xI zt157 42 rfl rfl (fun (x55 : Int32) (h56 : x55.toInt = b2.toInt + 1) => ?_) (z_pAdd rfl rfl (by omega) (by omega))
        refine z_xP zt157 43 88 [some (.ref a0), some (.int b1), some (.int b2), some (.int b3), some (.int x55), some (.int b1)] [] rfl rfl ?_
        rw [ia, hA] at h49
        rw [ia] at h54
        refine ih.2.2 M51 b1 b2 b3 x55 b1 X52 ⟨by omega, by omega⟩ ⟨by omega, by omega⟩ ⟨by omega, by omega⟩ ⟨by omega, by omega⟩ ⟨by omega, by omega⟩ ⟨by omega, by omega, by omega, by omega, by omega⟩ ⟨⟨by omega, by omega⟩, hR, by omega, fun k k1 k2 => hC k (by omega) k2, hD⟩ ?_ (by omega)
        exact z_rvI0 ⟨by omega, by omega⟩ ((congrFun hA _).symm.trans h37) ((congrFun hA _).symm.trans h42) h49 h54 (by omega) (by omega)
      refine z_xN zt157 37 rfl rfl (fun (x57 : Int32) (h58 : x57.toInt = b3.toInt + (-1)) => ?_) (z_pAdd rfl rfl (by omega) (by omega))
      show z_ev (d + 1) 157 71 [some (.ref a0), some (.int b1), some (.int b2), some (.int x57), none, none] [] M _
      refine z_xP zt157 38 48 [some (.ref a0), some (.int b1), some (.int b2), some (.int x57), none, none] [] rfl rfl ?_
      have ne : b3.toInt.toNat ≠ b2.toInt.toNat + 1 := fun e => by
        rw [e] at hx27
        omega
      refine ih.2.1 M b1 b2 x57 X ⟨by omega, by omega⟩ ⟨by omega, by omega⟩ ⟨by omega, by omega⟩ hb1 ⟨by omega, by omega, by omega⟩ hA hR hD (fun k k1 k2 => ?_) (by omega)
      by_cases ck : k = b3.toInt.toNat
      · rw [ck]
        omega
      · exact hC k (by omega) k2
    · skip
      intro M b1 b2 b3 b4 b5 X hh0 hh1 hh2 hh3 hh4 hb hH hV hE
      have g0 := X.1.p3 k0
      refine z_xP zt157 44 92 [some (.ref a0), some (.int b1), some (.int b2), some (.int b3), some (.int b4), some (.int b5)] [.int b5, .int b4] rfl rfl ?_
      refine z_xJ zt157 45 rfl rfl (fun (h1 : b5.toInt ≤ b4.toInt) => ?_) (fun (h1 : b4.toInt < b5.toInt) => ?_)
      · skip
        exact z_xrv zt157 51 rfl zzr157 (kk M X (Or.inr ⟨_, _, hH, hV.fin (by have := hH.1; omega) (by omega)⟩))
      refine z_xP zt157 46 100 [some (.ref a0), some (.int b1), some (.int b2), some (.int b3), some (.int b4), some (.int b5)] [.int b5, .int b4, .ref a0] rfl rfl ?_
      refine z_xcV (vs := [.ref a0, .int b4, .int b5]) (r := []) (L2 := [some (.ref a0), some (.int b4), some (.int b5), none]) zt157 47 rfl zo157 zzcV3_132 (Or.inl rfl) rfl X k0 rfl rfl rfl (Nat.le_of_ble_eq_true rfl) zzm158 (Nat.le_of_ble_eq_true rfl) rfl ?_
      refine z_xP zt158 0 1 [some (.ref a0), some (.int b4), some (.int b5), none] [.ref a0] rfl rfl ?_
      refine z_xgR (κ := .inr (208, 0, 10, 0, ((q : Nat) : Int) - 1)) zt158 1 rfl zo158 zzf3_30 X k0 (by decide) (by decide) rfl (fun (a3 : Nat) h2 k4 => ?_)
      refine z_xP zt158 2 5 [some (.ref a0), some (.int b4), some (.int b5), none] [.int b4, .ref a3] rfl rfl ?_
      refine z_xil zt158 3 rfl X k4 (by decide) (by omega) (by omega) (fun (x5 : Int32) h6 (h7 : 0 ≤ x5.toInt) (h8 : x5.toInt ≤ ((q : Nat) : Int) - 1) => ?_)
      refine z_xP zt158 4 8 [some (.ref a0), some (.int b4), some (.int b5), some (.int x5)] [.ref a0] rfl rfl ?_
      refine z_xgv zt158 5 rfl zo158 zzf3_30 X k0 (by decide) h2 ?_
      refine z_xP zt158 6 13 [some (.ref a0), some (.int b4), some (.int b5), some (.int x5)] [.ref a0, .int b4, .ref a3] rfl rfl ?_
      refine z_xgv zt158 7 rfl zo158 zzf3_30 X k0 (by decide) h2 ?_
      refine z_xP zt158 8 17 [some (.ref a0), some (.int b4), some (.int b5), some (.int x5)] [.int b5, .ref a3, .int b4, .ref a3] rfl rfl ?_
      refine z_xil zt158 9 rfl X k4 (by decide) (by omega) (by omega) (fun (x9 : Int32) h10 (h11 : 0 ≤ x9.toInt) (h12 : x9.toInt ≤ ((q : Nat) : Int) - 1) => ?_)
      refine z_xis zt158 10 rfl X k4 (by decide) (X.1.g4 k4 (by decide)) (by omega) (by omega) (by omega) (by omega) (by decide) (fun M13 X14 e15 h16 => ?_)
      refine z_xP zt158 11 20 [some (.ref a0), some (.int b4), some (.int b5), some (.int x5)] [.ref a0] rfl rfl ?_
      have h17 := (e15.f k0 (by decide) h2)
      refine z_xgv zt158 12 rfl zo158 zzf3_30 X14 k0 (by decide) h17 ?_
      refine z_xP zt158 13 25 [some (.ref a0), some (.int b4), some (.int b5), some (.int x5)] [.int x5, .int b5, .ref a3] rfl rfl ?_
      refine z_xis zt158 14 rfl X14 k4 (by decide) (X14.1.g4 k4 (by decide)) (by omega) (by omega) (by omega) (by omega) (by decide) (fun M18 X19 e20 h21 => ?_)
      refine z_xrv zt158 15 rfl zzr158 ?_
      show z_ev (d + 1) 157 103 [some (.ref a0), some (.int b1), some (.int b2), some (.int b3), some (.int b4), some (.int b5)] [] M18 _
      refine z_xN zt157 48 rfl rfl (fun (x22 : Int32) (h23 : x22.toInt = b4.toInt + 1) => ?_) (z_pAdd rfl rfl (by omega) (by omega))
      show z_ev (d + 1) 157 106 [some (.ref a0), some (.int b1), some (.int b2), some (.int b3), some (.int x22), some (.int b5)] [] M18 _
      refine z_xN zt157 49 rfl rfl (fun (x24 : Int32) (h25 : x24.toInt = b5.toInt + (-1)) => ?_) (z_pAdd rfl rfl (by omega) (by omega))
      show z_ev (d + 1) 157 109 [some (.ref a0), some (.int b1), some (.int b2), some (.int b3), some (.int x22), some (.int x24)] [] M18 _
      refine z_xP zt157 50 88 [some (.ref a0), some (.int b1), some (.int b2), some (.int b3), some (.int x22), some (.int x24)] [] rfl rfl ?_
      have ia := z_rfe h2 (X.2.f k0 (by decide) (hbk _ _ _ _ _ k0).2.2.2.2.2.2.1)
      rw [ia] at h6 h10 h16 h21
      exact ih.2.2 M18 b1 b2 b3 x22 x24 X19 ⟨by omega, by omega⟩ ⟨by omega, by omega⟩ ⟨by omega, by omega⟩ ⟨by omega, by omega⟩ ⟨by omega, by omega⟩ ⟨by omega, by omega, by omega, by omega, by omega⟩ hH (hV.step (by omega) (by omega) h6 h10 h16 h21 (by omega) (by omega)) (by omega)
theorem zUC157 {T : List zK} {d : Nat} {K : Option Value → zH → Prop} {a0 : Nat} {q : Nat} {t : Nat} {m : Nat} {J : Nat} {M0 : zH} (hW : z_W M0 T) (k0 : T[a0]? = some (.inl (3, q, t, m, J))) (hbk : z_blk T M0) (kk : ∀ (M1 : zH), z_X T zw157 M0 M1 → z_nxP (z_Ar M0 (a0 + 7)) (z_Ar M1 (a0 + 7)) q → K none M1) : z_ev (d + 1) 157 0 [some (.ref a0), none, none, none, none, none] [] M0 K := by
  have X : z_X T zw157 M0 M0 := .refl hW
  have g0 := X.1.p3 k0
  refine z_xP zt157 0 1 [some (.ref a0), none, none, none, none, none] [.ref a0] rfl rfl ?_
  refine z_xgR (κ := .inl (2, q, t, m, 0)) zt157 1 rfl zo157 zzf3_39 X k0 (by decide) (by decide) rfl (fun (a2 : Nat) h1 k3 => ?_)
  have g4 := X.1.p2 k3
  refine z_xgI zt157 2 rfl zo157 zzf3_63 X k3 (by decide) (by decide) rfl (fun (x6 : Int32) h5 (h7 : (q : Int) ≤ x6.toInt) (h8 : x6.toInt ≤ (q : Int)) => ?_)
  refine z_xP zt157 3 8 [some (.ref a0), none, none, none, none, none] [.int 1, .int x6] rfl rfl ?_
  refine z_xI zt157 4 rfl rfl (fun (x9 : Int32) (h10 : x9.toInt = x6.toInt - 1) => ?_) (z_pSub rfl rfl (by omega) (by omega))
  refine z_xP zt157 5 12 [some (.ref a0), some (.int x9), none, none, none, none] [.int 1, .int x9] rfl rfl ?_
  refine z_xI zt157 6 rfl rfl (fun (x11 : Int32) (h12 : x11.toInt = x9.toInt - 1) => ?_) (z_pSub rfl rfl (by omega) (by omega))
  refine z_xP zt157 7 14 [some (.ref a0), some (.int x9), some (.int x11), none, none, none] [] rfl rfl ?_
  exact (zUB157 k0 hW hbk kk 40).1 M0 x9 x11 X ⟨by omega, by omega⟩ ⟨by omega, by omega⟩ (by omega) (by omega) rfl (fun k k1 k2 => by omega) (by omega)
