/-! orders of the class, told -/
theorem z_dgK {l : List Nat} {q i : Nat} (q6 : q ≤ 6) (hlq : ∀ v, v ∈ l → v < q) (hi : i ≤ 5) : z_dgt (l.take i) < 100000 := by
  have h := z_dgB (l := l.take i) (fun v hv => by
    have := hlq v (List.mem_of_mem_take hv)
    omega)
  have h2 : (l.take i).length ≤ 5 := by
    rw [List.length_take]
    omega
  exact Nat.lt_of_lt_of_le h (Nat.pow_le_pow_right (n := 10) (by decide) h2)
theorem z_tkS {l : List Nat} {i : Nat} (hi : i < l.length) : l.take (i + 1) = l.take i ++ [l.getD i 0] := by
  rw [List.take_succ_eq_append_getElem hi, List.getD_eq_getElem?_getD, List.getElem?_eq_getElem hi]
  rfl
theorem z_dgS {l : List Nat} {i : Nat} (hi : i < l.length) : z_dgt (l.take (i + 1)) = 10 * z_dgt (l.take i) + l.getD i 0 := by
  rw [z_tkS hi, z_dgA]
def z_swa (f : Nat → Int32) (r a i : Nat) : Int32 := if i = r then f a else if i = a then f r else f i
/-- where the order rises last, and what it changes places with -/
def z_nxH (f : Nat → Int32) (q r a : Nat) : Prop := (r < a ∧ a < q) ∧ (f r).toInt ≤ (f (r + 1)).toInt ∧ (f r).toInt ≤ (f a).toInt ∧ (∀ k, a < k → k < q → (f k).toInt < (f r).toInt) ∧ ∀ k, r < k → k + 1 < q → (f (k + 1)).toInt < (f k).toInt
def z_nxP (f g : Nat → Int32) (q : Nat) : Prop := (∀ k, k + 1 < q → (f (k + 1)).toInt < (f k).toInt) ∨ ∃ r a, z_nxH f q r a ∧ ∀ i, i < q → g i = z_swa f r a (if i ≤ r then i else r + q - i)
def z_rvI (f A : Nat → Int32) (q r a lo hi : Nat) : Prop := (lo + hi = r + q ∧ r < lo ∧ lo ≤ hi + 1) ∧ ∀ i, i < q → A i = if (r < i ∧ i < lo) ∨ hi < i then z_swa f r a (r + q - i) else z_swa f r a i
theorem z_rvI.fin {f A : Nat → Int32} {q r a lo hi : Nat} (h : z_rvI f A q r a lo hi) (hr : r + 1 < q) (he : hi ≤ lo) : ∀ i, i < q → A i = z_swa f r a (if i ≤ r then i else r + q - i) := fun i hi2 => by
  obtain ⟨⟨h1, h2, h3⟩, h4⟩ := h
  rw [h4 i hi2]
  by_cases c : i ≤ r
  · rw [if_pos c, if_neg (by omega)]
  · rw [if_neg c]
    by_cases d : (r < i ∧ i < lo) ∨ hi < i
    · rw [if_pos d]
    · rw [if_neg d, show r + q - i = i by omega]
theorem z_rvI.step {f A A1 A2 : Nat → Int32} {q r a lo hi lo2 hi2 : Nat} {x y : Int32} (h : z_rvI f A q r a lo hi) (hq : hi < q) (hl : lo < hi) (hx : A lo = x) (hy : A hi = y) (h1 : A1 = upd A lo y) (h2 : A2 = upd A1 hi x) (e1 : lo2 = lo + 1) (e2 : hi2 = hi - 1) : z_rvI f A2 q r a lo2 hi2 := by
  obtain ⟨⟨g1, g2, g3⟩, g4⟩ := h
  refine ⟨⟨by omega, by omega, by omega⟩, fun i hi3 => ?_⟩
  have k1 := g4 lo (by omega)
  have k2 := g4 hi hq
  rw [if_neg (by omega)] at k1 k2
  rw [h2, h1]
  show (if i = hi then x else if i = lo then y else A i) = _
  by_cases c : i = hi
  · rw [if_pos c, if_pos (by omega), ← hx, k1, show r + q - i = lo by omega]
  · rw [if_neg c]
    by_cases d : i = lo
    · rw [if_pos d, if_pos (by omega), ← hy, k2, show r + q - i = hi by omega]
    · rw [if_neg d, g4 i hi3]
      by_cases e : (r < i ∧ i < lo) ∨ hi < i
      · rw [if_pos e, if_pos (by omega)]
      · rw [if_neg e, if_neg (by omega)]
theorem z_rvI0 {f A1 A2 : Nat → Int32} {q r a lo hi : Nat} {x y : Int32} (hra : r < a ∧ a < q) (hx : f r = x) (hy : f a = y) (h1 : A1 = upd f r y) (h2 : A2 = upd A1 a x) (e1 : lo = r + 1) (e2 : hi + 1 = q) : z_rvI f A2 q r a lo hi := by
  refine ⟨⟨by omega, by omega, by omega⟩, fun i hi3 => ?_⟩
  rw [if_neg (by omega), h2, h1]
  show (if i = a then x else if i = r then y else f i) = (if i = r then f a else if i = a then f r else f i)
  by_cases c : i = a
  · rw [if_pos c, if_neg (by omega), if_pos c, hx]
  · rw [if_neg c]
    by_cases d : i = r
    · rw [if_pos d, if_pos d, hy]
    · rw [if_neg d, if_neg d, if_neg c]
/-- the next order stands -/
theorem z_ckG {q : Nat} (q6 : q ≤ 6) : z_ckp q = true := List.all_eq_true.mp z_ckT q (List.mem_range.mpr (by omega))
theorem z_pmsN {q : Nat} (q6 : q ≤ 6) : (z_pm q q []).length = z_fc q := by
  have h := z_ckG q6
  unfold z_ckp at h
  simp only [Bool.and_eq_true, beq_iff_eq] at h
  exact h.1.1.1
theorem z_pms0 {q : Nat} (q6 : q ≤ 6) : (z_pm q q []).getD 0 [] = List.range q := by
  have h := z_ckG q6
  unfold z_ckp at h
  simp only [Bool.and_eq_true, beq_iff_eq] at h
  exact h.1.1.2
theorem z_pmsL {q k : Nat} (q6 : q ≤ 6) (hk : k < z_fc q) : ((z_pm q q []).getD k []).length = q ∧ ∀ v, v ∈ (z_pm q q []).getD k [] → v < q := by
  have h := z_ckG q6
  have hN := z_pmsN q6
  unfold z_ckp at h
  simp only [Bool.and_eq_true, beq_iff_eq] at h
  have h2 := List.all_eq_true.mp h.1.2 ((z_pm q q []).getD k []) (by
    rw [List.getD_eq_getElem?_getD, List.getElem?_eq_getElem (by omega)]
    exact List.getElem_mem _)
  simp only [Bool.and_eq_true, beq_iff_eq] at h2
  exact ⟨h2.1, fun v hv => of_decide_eq_true (List.all_eq_true.mp h2.2 v hv)⟩
theorem z_nxR {f g : Nat → Int32} {q k : Nat} (q6 : q ≤ 6) (hk : k + 1 < z_fc q) (hf : z_rp f q ((z_pm q q []).getD k [])) (h : z_nxP f g q) : z_rp g q ((z_pm q q []).getD (k + 1) []) := by
  have hc := z_ckG q6
  unfold z_ckp at hc
  simp only [Bool.and_eq_true] at hc
  have h2 := List.all_eq_true.mp hc.2 k (List.mem_range.mpr (by omega))
  simp only [Bool.and_eq_true, Bool.not_eq_true'] at h2
  obtain ⟨h3, h4⟩ := h2
  generalize hl : (z_pm q q []).getD k [] = l at *
  obtain ⟨f1, f2⟩ := hf
  rcases h with h | ⟨r, a, ⟨⟨r1, r2⟩, r3, r4, r5, r6⟩, h6⟩
  · exfalso
    have h5 : z_dsc q l = true := List.all_eq_true.mpr fun i hi => by
      by_cases c : i + 1 < q
      · have := h i c
        rw [f2 i (by omega), f2 (i + 1) c] at this
        rw [decide_eq_true c, decide_eq_true (show l.getD (i + 1) 0 < l.getD i 0 by omega)]
        rfl
      · rw [decide_eq_false c]
        rfl
    rw [h5] at h3
    cases h3
  · have h5 := List.all_eq_true.mp (List.all_eq_true.mp h4 r (List.mem_range.mpr (by omega))) a (List.mem_range.mpr r2)
    have h7 : z_ncx q l r a = true := by
      rw [f2 r (by omega), f2 (r + 1) (by omega)] at r3
      rw [f2 r (by omega), f2 a r2] at r4
      unfold z_ncx
      simp only [Bool.and_eq_true]
      refine ⟨⟨⟨⟨decide_eq_true r1, decide_eq_true (by omega)⟩, decide_eq_true (by omega)⟩, List.all_eq_true.mpr fun i hi => ?_⟩, List.all_eq_true.mpr fun i hi => ?_⟩
      · have hi2 := List.mem_range.mp hi
        by_cases c : a < i
        · have := r5 i c hi2
          rw [f2 i hi2, f2 r (by omega)] at this
          rw [decide_eq_true c, decide_eq_true (show l.getD i 0 < l.getD r 0 by omega)]
          rfl
        · rw [decide_eq_false c]
          rfl
      · by_cases c : r < i ∧ i + 1 < q
        · have := r6 i c.1 c.2
          rw [f2 i (by omega), f2 (i + 1) c.2] at this
          rw [decide_eq_true c.1, decide_eq_true c.2, decide_eq_true (show l.getD (i + 1) 0 < l.getD i 0 by omega)]
          rfl
        · by_cases d : r < i
          · rw [decide_eq_false (show ¬ i + 1 < q from fun e => c ⟨d, e⟩), Bool.and_false]
            rfl
          · rw [decide_eq_false d]
            rfl
    rw [h7] at h5
    have h8 : z_nxl q l r a = (z_pm q q []).getD (k + 1) [] := by
      have : (z_nxl q l r a == (z_pm q q []).getD (k + 1) []) = true := h5
      exact beq_iff_eq.mp this
    have sw : ∀ i, i < q → (z_swa f r a i).toInt = ((z_hlx l r a i : Nat) : Int) := fun i hi => by
      unfold z_swa z_hlx
      by_cases c : i = r
      · rw [if_pos c, if_pos c]
        exact f2 a r2
      · rw [if_neg c, if_neg c]
        by_cases d : i = a
        · rw [if_pos d, if_pos d]
          exact f2 r (by omega)
        · rw [if_neg d, if_neg d]
          exact f2 i hi
    rw [← h8]
    unfold z_nxl
    refine ⟨by rw [List.length_map, List.length_range], fun i hi => ?_⟩
    rw [h6 i hi, sw _ (by split <;> omega), List.getD_eq_getElem?_getD, List.getElem?_map, List.getElem?_range hi]
    rfl
theorem zUB156 {T : List zK} {d : Nat} {K : Option Value → zH → Prop} {a0 : Nat} {q : Nat} {t : Nat} {m : Nat} {J : Nat} {M0 : zH} (k0 : T[a0]? = some (.inl (3, q, t, m, J))) (hW0 : z_W M0 T) (hbk : z_blk T M0) {l : List Nat} (hl : z_rp (z_Ar M0 (a0 + 7)) q l) (q6 : q ≤ 6) (hlq : ∀ v, v ∈ l → v < q) (kk : ∀ (x : Int32) (M1 : zH), z_X T zw156 M0 M1 → x.toInt = (z_dgt l : Int) → K (some (.int x)) M1) : ∀ n : Nat, (∀ (M : zH) (b1 : Int32) (b2 : Int32), z_X T zw156 M0 M → 0 ≤ b2.toInt ∧ b2.toInt ≤ 10 → b2.toInt ≤ (q : Int) → b1.toInt = (z_dgt (l.take b2.toInt.toNat) : Int) → ((0) * 2 + 0) * 11 + (10 - b2.toInt) < (n : Int) → z_ev d 156 4 [some (.ref a0), some (.int b1), some (.int b2)] [] M K) := by
  intro n
  induction n with
  | zero => exact by intros; exfalso; omega
  | succ n ih =>
    intro M b1 b2 X hh0 hq0 hI hE
    have g0 := X.1.p3 k0
    refine z_xP zt156 1 6 [some (.ref a0), some (.int b1), some (.int b2)] [.ref a0, .int b2] rfl rfl ?_
    refine z_xgR (κ := .inl (2, q, t, m, 0)) zt156 2 rfl zo156 zzf3_39 X k0 (by decide) (by decide) rfl (fun (a2 : Nat) h1 k3 => ?_)
    have g4 := X.1.p2 k3
    refine z_xgI zt156 3 rfl zo156 zzf3_63 X k3 (by decide) (by decide) rfl (fun (x6 : Int32) h5 (h7 : (q : Int) ≤ x6.toInt) (h8 : x6.toInt ≤ (q : Int)) => ?_)
    refine z_xJ zt156 4 rfl rfl (fun (h9 : x6.toInt ≤ b2.toInt) => ?_) (fun (h9 : b2.toInt < x6.toInt) => ?_)
    · skip
      refine z_xP zt156 15 34 [some (.ref a0), some (.int b1), some (.int b2)] [.int b1] rfl rfl ?_
      exact z_xri zt156 16 rfl zzr156 (kk b1 M X (by rw [hI, List.take_of_length_le (by have := hl.1; omega)]))
    refine z_xP zt156 5 18 [some (.ref a0), some (.int b1), some (.int b2)] [.int 10, .int b1] rfl rfl ?_
    have h10 := z_b32 b1
    have hK := z_dgK (i := b2.toInt.toNat) q6 hlq (by omega)
    refine z_xI zt156 6 rfl rfl (fun (x11 : Int32) (h11 : x11.toInt = b1.toInt * 10) => ?_) (z_pMul rfl rfl (by omega) (by omega))
    refine z_xP zt156 7 20 [some (.ref a0), some (.int b1), some (.int b2)] [.ref a0, .int x11] rfl rfl ?_
    refine z_xgR (κ := .inr (208, 0, 10, 0, ((q : Nat) : Int) - 1)) zt156 8 rfl zo156 zzf3_30 X k0 (by decide) (by decide) rfl (fun (a14 : Nat) h13 k15 => ?_)
    refine z_xP zt156 9 24 [some (.ref a0), some (.int b1), some (.int b2)] [.int b2, .ref a14, .int x11] rfl rfl ?_
    refine z_xil zt156 10 rfl X k15 (by decide) (by omega) (by omega) (fun (x16 : Int32) h17 (h18 : 0 ≤ x16.toInt) (h19 : x16.toInt ≤ ((q : Nat) : Int) - 1) => ?_)
    have ia := z_rfe h13 (X.2.f k0 (by decide) (hbk _ _ _ _ _ k0).2.2.2.2.2.2.1)
    rw [ia] at h17
    have hx : ((l.getD b2.toInt.toNat 0 : Nat) : Int) = x16.toInt := by
      rw [← hl.2 b2.toInt.toNat (by omega)]
      exact congrArg Int32.toInt ((congrFun (X.2.a (hbk.k7 hW0 k0) (by decide)) _).symm.trans h17)
    have h20 := z_b32 x11
    refine z_xI zt156 11 rfl rfl (fun (x21 : Int32) (h21 : x21.toInt = x11.toInt + x16.toInt) => ?_) (z_pAdd rfl rfl (by omega) (by omega))
    refine z_xP zt156 12 27 [some (.ref a0), some (.int x21), some (.int b2)] [] rfl rfl ?_
    refine z_xN zt156 13 rfl rfl (fun (x23 : Int32) (h24 : x23.toInt = b2.toInt + 1) => ?_) (z_pAdd rfl rfl (by omega) (by omega))
    show z_ev d 156 30 [some (.ref a0), some (.int x21), some (.int x23)] [] M _
    refine z_xP zt156 14 4 [some (.ref a0), some (.int x21), some (.int x23)] [] rfl rfl ?_
    have es : x23.toInt.toNat = b2.toInt.toNat + 1 := by omega
    exact ih M x21 x23 X ⟨by omega, by omega⟩ (by omega) (by rw [es, z_dgS (by have := hl.1; omega)]; omega) (by omega)
theorem zUC156 {T : List zK} {d : Nat} {K : Option Value → zH → Prop} {a0 : Nat} {q : Nat} {t : Nat} {m : Nat} {J : Nat} {M0 : zH} (hW : z_W M0 T) (k0 : T[a0]? = some (.inl (3, q, t, m, J))) (hbk : z_blk T M0) {l : List Nat} (hl : z_rp (z_Ar M0 (a0 + 7)) q l) (q6 : q ≤ 6) (hlq : ∀ v, v ∈ l → v < q) (kk : ∀ (x : Int32) (M1 : zH), z_X T zw156 M0 M1 → x.toInt = (z_dgt l : Int) → K (some (.int x)) M1) : z_ev d 156 0 [some (.ref a0), none, none] [] M0 K := by
  have X : z_X T zw156 M0 M0 := .refl hW
  have g0 := X.1.p3 k0
  refine z_xP zt156 0 4 [some (.ref a0), some (.int 0), some (.int 0)] [] rfl rfl ?_
  have q0 : ((0 : Int32)).toInt = 0 := rfl
  exact (zUB156 k0 hW hbk hl q6 hlq kk 22) M0 (0) (0) X (by decide) (by omega) rfl (by omega)
theorem zUB157 {T : List zK} {d : Nat} {K : Option Value → zH → Prop} {a0 : Nat} {q : Nat} {t : Nat} {m : Nat} {J : Nat} {M0 : zH} (k0 : T[a0]? = some (.inl (3, q, t, m, J))) (hW0 : z_W M0 T) (hbk : z_blk T M0) (kk : ∀ (M1 : zH), z_X T zw157 M0 M1 → z_nxP (z_Ar M0 (a0 + 7)) (z_Ar M1 (a0 + 7)) q → K none M1) : ∀ n : Nat, (∀ (M : zH) (b1 : Int32) (b2 : Int32), z_X T zw157 M0 M → 0 ≤ b1.toInt ∧ b1.toInt ≤ 9 → (-1) ≤ b2.toInt ∧ b2.toInt ≤ 8 → b1.toInt = (q : Int) - 1 → b2.toInt < b1.toInt → z_Ar M (a0 + 7) = z_Ar M0 (a0 + 7) → (∀ k : Nat, b2.toInt < (k : Int) → k + 1 < q → (z_Ar M0 (a0 + 7) (k + 1)).toInt < (z_Ar M0 (a0 + 7) k).toInt) → ((0) * 4 + 2) * 10 + (b2.toInt - (-1)) < (n : Int) → z_ev (d + 1) 157 14 [some (.ref a0), some (.int b1), some (.int b2), none, none, none] [] M K) ∧ (∀ (M : zH) (b1 : Int32) (b2 : Int32) (b3 : Int32), z_X T zw157 M0 M → 0 ≤ b1.toInt ∧ b1.toInt ≤ 9 → 0 ≤ b2.toInt ∧ b2.toInt ≤ 8 → 0 ≤ b3.toInt ∧ b3.toInt ≤ 9 → b1.toInt = (q : Int) - 1 → (0 ≤ b2.toInt ∧ b2.toInt < b3.toInt ∧ b3.toInt < (q : Int)) → z_Ar M (a0 + 7) = z_Ar M0 (a0 + 7) → (z_Ar M0 (a0 + 7) b2.toInt.toNat).toInt ≤ (z_Ar M0 (a0 + 7) (b2.toInt.toNat + 1)).toInt → (∀ k : Nat, b2.toInt.toNat < k → k + 1 < q → (z_Ar M0 (a0 + 7) (k + 1)).toInt < (z_Ar M0 (a0 + 7) k).toInt) → (∀ k : Nat, b3.toInt < (k : Int) → k < q → (z_Ar M0 (a0 + 7) k).toInt < (z_Ar M0 (a0 + 7) b2.toInt.toNat).toInt) → ((0) * 4 + 1) * 10 + (b3.toInt - 0) < (n : Int) → z_ev (d + 1) 157 48 [some (.ref a0), some (.int b1), some (.int b2), some (.int b3), none, none] [] M K) ∧ (∀ (M : zH) (b1 : Int32) (b2 : Int32) (b3 : Int32) (b4 : Int32) (b5 : Int32), z_X T zw157 M0 M → 0 ≤ b1.toInt ∧ b1.toInt ≤ 9 → 0 ≤ b2.toInt ∧ b2.toInt ≤ 8 → 0 ≤ b3.toInt ∧ b3.toInt ≤ 9 → 1 ≤ b4.toInt ∧ b4.toInt ≤ 9 → 0 ≤ b5.toInt ∧ b5.toInt ≤ 9 → (0 ≤ b2.toInt ∧ 0 ≤ b3.toInt ∧ 0 ≤ b4.toInt ∧ 0 ≤ b5.toInt ∧ b5.toInt < (q : Int)) → z_nxH (z_Ar M0 (a0 + 7)) q b2.toInt.toNat b3.toInt.toNat → z_rvI (z_Ar M0 (a0 + 7)) (z_Ar M (a0 + 7)) q b2.toInt.toNat b3.toInt.toNat b4.toInt.toNat b5.toInt.toNat → ((0) * 4 + 0) * 10 + (9 - b4.toInt) < (n : Int) → z_ev (d + 1) 157 88 [some (.ref a0), some (.int b1), some (.int b2), some (.int b3), some (.int b4), some (.int b5)] [] M K) := by
  intro n
  induction n with
  | zero => exact ⟨(by intros; exfalso; omega), (by intros; exfalso; omega), (by intros; exfalso; omega)⟩
  | succ n ih =>
    refine ⟨?_, ?_, ?_⟩
    · skip
      intro M b1 b2 X hh0 hh1 hb1 hb2 hA hD hE
      have g0 := X.1.p3 k0
      refine z_xP zt157 8 15 [some (.ref a0), some (.int b1), some (.int b2), none, none, none] [.int b2] rfl rfl ?_
      refine z_xZ zt157 9 rfl rfl (fun (h1 : b2.toInt < 0) => ?_) (fun (h1 : 0 ≤ b2.toInt) => ?_)
      · skip
        refine z_xP zt157 22 42 [some (.ref a0), some (.int b1), some (.int b2), none, none, none] [.int b2] rfl rfl ?_
        refine z_xZ zt157 23 rfl rfl (fun (h2 : 0 ≤ b2.toInt) => absurd h2 (by omega)) (fun (h2 : b2.toInt < 0) => ?_)
        exact z_xrv zt157 24 rfl zzr157 (kk M X (Or.inl fun k hk => hD k (by omega) hk))
      refine z_xP zt157 10 19 [some (.ref a0), some (.int b1), some (.int b2), none, none, none] [.ref a0] rfl rfl ?_
      refine z_xgR (κ := .inr (208, 0, 10, 0, ((q : Nat) : Int) - 1)) zt157 11 rfl zo157 zzf3_30 X k0 (by decide) (by decide) rfl (fun (a4 : Nat) h3 k5 => ?_)
      refine z_xP zt157 12 23 [some (.ref a0), some (.int b1), some (.int b2), none, none, none] [.int b2, .ref a4] rfl rfl ?_
      refine z_xil zt157 13 rfl X k5 (by decide) (by omega) (by omega) (fun (x6 : Int32) h7 (h8 : 0 ≤ x6.toInt) (h9 : x6.toInt ≤ ((q : Nat) : Int) - 1) => ?_)
      refine z_xP zt157 14 25 [some (.ref a0), some (.int b1), some (.int b2), none, none, none] [.ref a0, .int x6] rfl rfl ?_
      refine z_xgv zt157 15 rfl zo157 zzf3_30 X k0 (by decide) h3 ?_
      refine z_xP zt157 16 30 [some (.ref a0), some (.int b1), some (.int b2), none, none, none] [.int 1, .int b2, .ref a4, .int x6] rfl rfl ?_
      refine z_xI zt157 17 rfl rfl (fun (x10 : Int32) (h11 : x10.toInt = b2.toInt + 1) => ?_) (z_pAdd rfl rfl (by omega) (by omega))
      refine z_xil zt157 18 rfl X k5 (by decide) (by omega) (by omega) (fun (x12 : Int32) h13 (h14 : 0 ≤ x12.toInt) (h15 : x12.toInt ≤ ((q : Nat) : Int) - 1) => ?_)
      have ia := z_rfe h3 (X.2.f k0 (by decide) (hbk _ _ _ _ _ k0).2.2.2.2.2.2.1)
      rw [ia] at h7 h13
      have hx6 : (z_Ar M0 (a0 + 7) b2.toInt.toNat).toInt = x6.toInt := congrArg Int32.toInt ((congrFun hA _).symm.trans h7)
      have hx12 : (z_Ar M0 (a0 + 7) (b2.toInt.toNat + 1)).toInt = x12.toInt := by
        have e : b2.toInt.toNat + 1 = x10.toNatClampNeg := by
          show _ = x10.toInt.toNat
          omega
        rw [e]
        exact congrArg Int32.toInt ((congrFun hA _).symm.trans h13)
      refine z_xJ zt157 19 rfl rfl (fun (h16 : x6.toInt ≤ x12.toInt) => ?_) (fun (h16 : x12.toInt < x6.toInt) => ?_)
      · skip
        refine z_xP zt157 22 42 [some (.ref a0), some (.int b1), some (.int b2), none, none, none] [.int b2] rfl rfl ?_
        refine z_xZ zt157 23 rfl rfl (fun (h17 : 0 ≤ b2.toInt) => ?_) (fun (h17 : b2.toInt < 0) => absurd h17 (by omega))
        refine z_xP zt157 25 48 [some (.ref a0), some (.int b1), some (.int b2), some (.int b1), none, none] [] rfl rfl ?_
        exact ih.2.1 M b1 b2 b1 X ⟨by omega, by omega⟩ ⟨by omega, by omega⟩ ⟨by omega, by omega⟩ hb1 ⟨by omega, by omega, by omega⟩ hA (by omega) (fun k k1 k2 => hD k (by omega) k2) (fun k k1 k2 => by omega) (by omega)
      refine z_xN zt157 20 rfl rfl (fun (x18 : Int32) (h19 : x18.toInt = b2.toInt + (-1)) => ?_) (z_pAdd rfl rfl (by omega) (by omega))
      show z_ev (d + 1) 157 38 [some (.ref a0), some (.int b1), some (.int x18), none, none, none] [] M _
      refine z_xP zt157 21 14 [some (.ref a0), some (.int b1), some (.int x18), none, none, none] [] rfl rfl ?_
      refine ih.1 M b1 x18 X ⟨by omega, by omega⟩ ⟨by omega, by omega⟩ hb1 (by omega) hA (fun k k1 k2 => ?_) (by omega)
      by_cases ck : k = b2.toInt.toNat
      · rw [ck]
        omega
      · exact hD k (by omega) k2
    · skip
      intro M b1 b2 b3 X hh0 hh1 hh2 hb1 hb hA hR hD hC hE
      have g0 := X.1.p3 k0
      refine z_xP zt157 26 50 [some (.ref a0), some (.int b1), some (.int b2), some (.int b3), none, none] [.int b2, .int b3] rfl rfl ?_
      refine z_xJ zt157 27 rfl rfl (fun (h1 : b3.toInt ≤ b2.toInt) => absurd h1 (by omega)) (fun (h1 : b2.toInt < b3.toInt) => ?_)
      refine z_xP zt157 28 54 [some (.ref a0), some (.int b1), some (.int b2), some (.int b3), none, none] [.ref a0] rfl rfl ?_
      refine z_xgR (κ := .inr (208, 0, 10, 0, ((q : Nat) : Int) - 1)) zt157 29 rfl zo157 zzf3_30 X k0 (by decide) (by decide) rfl (fun (a25 : Nat) h24 k26 => ?_)
      refine z_xP zt157 30 58 [some (.ref a0), some (.int b1), some (.int b2), some (.int b3), none, none] [.int b3, .ref a25] rfl rfl ?_
      refine z_xil zt157 31 rfl X k26 (by decide) (by omega) (by omega) (fun (x27 : Int32) h28 (h29 : 0 ≤ x27.toInt) (h30 : x27.toInt ≤ ((q : Nat) : Int) - 1) => ?_)
      refine z_xP zt157 32 60 [some (.ref a0), some (.int b1), some (.int b2), some (.int b3), none, none] [.ref a0, .int x27] rfl rfl ?_
      refine z_xgv zt157 33 rfl zo157 zzf3_30 X k0 (by decide) h24 ?_
      refine z_xP zt157 34 64 [some (.ref a0), some (.int b1), some (.int b2), some (.int b3), none, none] [.int b2, .ref a25, .int x27] rfl rfl ?_
      refine z_xil zt157 35 rfl X k26 (by decide) (by omega) (by omega) (fun (x31 : Int32) h32 (h33 : 0 ≤ x31.toInt) (h34 : x31.toInt ≤ ((q : Nat) : Int) - 1) => ?_)
      have ia := z_rfe h24 (X.2.f k0 (by decide) (hbk _ _ _ _ _ k0).2.2.2.2.2.2.1)
      rw [ia] at h28 h32
      have hx27 : (z_Ar M0 (a0 + 7) b3.toInt.toNat).toInt = x27.toInt := congrArg Int32.toInt ((congrFun hA _).symm.trans h28)
      have hx31 : (z_Ar M0 (a0 + 7) b2.toInt.toNat).toInt = x31.toInt := congrArg Int32.toInt ((congrFun hA _).symm.trans h32)
      refine z_xJ zt157 36 rfl rfl (fun (h35 : x31.toInt ≤ x27.toInt) => ?_) (fun (h35 : x27.toInt < x31.toInt) => ?_)
      · skip
        refine z_xP zt157 39 77 [some (.ref a0), some (.int b1), some (.int b2), some (.int b3), none, none] [.int b3, .int b2, .ref a0] rfl rfl ?_
        refine z_xcV (vs := [.ref a0, .int b2, .int b3]) (r := []) (L2 := [some (.ref a0), some (.int b2), some (.int b3), none]) zt157 40 rfl zo157 zzcV3_132 (Or.inl rfl) rfl X k0 rfl rfl rfl (Nat.le_of_ble_eq_true rfl) zzm158 (Nat.le_of_ble_eq_true rfl) rfl ?_
        refine z_xP zt158 0 1 [some (.ref a0), some (.int b2), some (.int b3), none] [.ref a0] rfl rfl ?_
        refine z_xgv zt158 1 rfl zo158 zzf3_30 X k0 (by decide) h24 ?_
        refine z_xP zt158 2 5 [some (.ref a0), some (.int b2), some (.int b3), none] [.int b2, .ref a25] rfl rfl ?_
        refine z_xil zt158 3 rfl X k26 (by decide) (by omega) (by omega) (fun (x36 : Int32) h37 (h38 : 0 ≤ x36.toInt) (h39 : x36.toInt ≤ ((q : Nat) : Int) - 1) => ?_)
        rw [ia] at h37
        have h40 := congrArg Int32.toInt (h37.symm.trans h32)
        refine z_xP zt158 4 8 [some (.ref a0), some (.int b2), some (.int b3), some (.int x36)] [.ref a0] rfl rfl ?_
        refine z_xgv zt158 5 rfl zo158 zzf3_30 X k0 (by decide) h24 ?_
        refine z_xP zt158 6 13 [some (.ref a0), some (.int b2), some (.int b3), some (.int x36)] [.ref a0, .int b2, .ref a25] rfl rfl ?_
        refine z_xgv zt158 7 rfl zo158 zzf3_30 X k0 (by decide) h24 ?_
        refine z_xP zt158 8 17 [some (.ref a0), some (.int b2), some (.int b3), some (.int x36)] [.int b3, .ref a25, .int b2, .ref a25] rfl rfl ?_
        refine z_xil zt158 9 rfl X k26 (by decide) (by omega) (by omega) (fun (x41 : Int32) h42 (h43 : 0 ≤ x41.toInt) (h44 : x41.toInt ≤ ((q : Nat) : Int) - 1) => ?_)
        rw [ia] at h42
        have h45 := congrArg Int32.toInt (h42.symm.trans h28)
        refine z_xis zt158 10 rfl X k26 (by decide) (X.1.g4 k26 (by decide)) (by omega) (by omega) (by omega) (by omega) (by decide) (fun M46 X47 e48 h49 => ?_)
        refine z_xP zt158 11 20 [some (.ref a0), some (.int b2), some (.int b3), some (.int x36)] [.ref a0] rfl rfl ?_
        have h50 := (e48.f k0 (by decide) h24)
        refine z_xgv zt158 12 rfl zo158 zzf3_30 X47 k0 (by decide) h50 ?_
        refine z_xP zt158 13 25 [some (.ref a0), some (.int b2), some (.int b3), some (.int x36)] [.int x36, .int b3, .ref a25] rfl rfl ?_
        refine z_xis zt158 14 rfl X47 k26 (by decide) (X47.1.g4 k26 (by decide)) (by omega) (by omega) (by omega) (by omega) (by decide) (fun M51 X52 e53 h54 => ?_)
        refine z_xrv zt158 15 rfl zzr158 ?_
        show z_ev (d + 1) 157 80 [some (.ref a0), some (.int b1), some (.int b2), some (.int b3), none, none] [] M51 _
        refine z_xP zt157 41 82 [some (.ref a0), some (.int b1), some (.int b2), some (.int b3), none, none] [.int 1, .int b2] rfl rfl ?_
        refine z_xI zt157 42 rfl rfl (fun (x55 : Int32) (h56 : x55.toInt = b2.toInt + 1) => ?_) (z_pAdd rfl rfl (by omega) (by omega))
        refine z_xP zt157 43 88 [some (.ref a0), some (.int b1), some (.int b2), some (.int b3), some (.int x55), some (.int b1)] [] rfl rfl ?_
        rw [ia, hA] at h49
        rw [ia] at h54
        refine ih.2.2 M51 b1 b2 b3 x55 b1 X52 ⟨by omega, by omega⟩ ⟨by omega, by omega⟩ ⟨by omega, by omega⟩ ⟨by omega, by omega⟩ ⟨by omega, by omega⟩ ⟨by omega, by omega, by omega, by omega, by omega⟩ ⟨⟨by omega, by omega⟩, hR, by omega, fun k k1 k2 => hC k (by omega) k2, hD⟩ ?_ (by omega)
        exact z_rvI0 ⟨by omega, by omega⟩ ((congrFun hA _).symm.trans h37) ((congrFun hA _).symm.trans h42) h49 h54 (by omega) (by omega)
      refine z_xN zt157 37 rfl rfl (fun (x57 : Int32) (h58 : x57.toInt = b3.toInt + (-1)) => ?_) (z_pAdd rfl rfl (by omega) (by omega))
      show z_ev (d + 1) 157 71 [some (.ref a0), some (.int b1), some (.int b2), some (.int x57), none, none] [] M _
      refine z_xP zt157 38 48 [some (.ref a0), some (.int b1), some (.int b2), some (.int x57), none, none] [] rfl rfl ?_
      have ne : b3.toInt.toNat ≠ b2.toInt.toNat + 1 := fun e => by
        rw [e] at hx27
        omega
      refine ih.2.1 M b1 b2 x57 X ⟨by omega, by omega⟩ ⟨by omega, by omega⟩ ⟨by omega, by omega⟩ hb1 ⟨by omega, by omega, by omega⟩ hA hR hD (fun k k1 k2 => ?_) (by omega)
      by_cases ck : k = b3.toInt.toNat
      · rw [ck]
        omega
      · exact hC k (by omega) k2
    · skip
      intro M b1 b2 b3 b4 b5 X hh0 hh1 hh2 hh3 hh4 hb hH hV hE
      have g0 := X.1.p3 k0
      refine z_xP zt157 44 92 [some (.ref a0), some (.int b1), some (.int b2), some (.int b3), some (.int b4), some (.int b5)] [.int b5, .int b4] rfl rfl ?_
      refine z_xJ zt157 45 rfl rfl (fun (h1 : b5.toInt ≤ b4.toInt) => ?_) (fun (h1 : b4.toInt < b5.toInt) => ?_)
      · skip
        exact z_xrv zt157 51 rfl zzr157 (kk M X (Or.inr ⟨_, _, hH, hV.fin (by have := hH.1; omega) (by omega)⟩))
      refine z_xP zt157 46 100 [some (.ref a0), some (.int b1), some (.int b2), some (.int b3), some (.int b4), some (.int b5)] [.int b5, .int b4, .ref a0] rfl rfl ?_
      refine z_xcV (vs := [.ref a0, .int b4, .int b5]) (r := []) (L2 := [some (.ref a0), some (.int b4), some (.int b5), none]) zt157 47 rfl zo157 zzcV3_132 (Or.inl rfl) rfl X k0 rfl rfl rfl (Nat.le_of_ble_eq_true rfl) zzm158 (Nat.le_of_ble_eq_true rfl) rfl ?_
      refine z_xP zt158 0 1 [some (.ref a0), some (.int b4), some (.int b5), none] [.ref a0] rfl rfl ?_
      refine z_xgR (κ := .inr (208, 0, 10, 0, ((q : Nat) : Int) - 1)) zt158 1 rfl zo158 zzf3_30 X k0 (by decide) (by decide) rfl (fun (a3 : Nat) h2 k4 => ?_)
      refine z_xP zt158 2 5 [some (.ref a0), some (.int b4), some (.int b5), none] [.int b4, .ref a3] rfl rfl ?_
      refine z_xil zt158 3 rfl X k4 (by decide) (by omega) (by omega) (fun (x5 : Int32) h6 (h7 : 0 ≤ x5.toInt) (h8 : x5.toInt ≤ ((q : Nat) : Int) - 1) => ?_)
      refine z_xP zt158 4 8 [some (.ref a0), some (.int b4), some (.int b5), some (.int x5)] [.ref a0] rfl rfl ?_
      refine z_xgv zt158 5 rfl zo158 zzf3_30 X k0 (by decide) h2 ?_
      refine z_xP zt158 6 13 [some (.ref a0), some (.int b4), some (.int b5), some (.int x5)] [.ref a0, .int b4, .ref a3] rfl rfl ?_
      refine z_xgv zt158 7 rfl zo158 zzf3_30 X k0 (by decide) h2 ?_
      refine z_xP zt158 8 17 [some (.ref a0), some (.int b4), some (.int b5), some (.int x5)] [.int b5, .ref a3, .int b4, .ref a3] rfl rfl ?_
      refine z_xil zt158 9 rfl X k4 (by decide) (by omega) (by omega) (fun (x9 : Int32) h10 (h11 : 0 ≤ x9.toInt) (h12 : x9.toInt ≤ ((q : Nat) : Int) - 1) => ?_)
      refine z_xis zt158 10 rfl X k4 (by decide) (X.1.g4 k4 (by decide)) (by omega) (by omega) (by omega) (by omega) (by decide) (fun M13 X14 e15 h16 => ?_)
      refine z_xP zt158 11 20 [some (.ref a0), some (.int b4), some (.int b5), some (.int x5)] [.ref a0] rfl rfl ?_
      have h17 := (e15.f k0 (by decide) h2)
      refine z_xgv zt158 12 rfl zo158 zzf3_30 X14 k0 (by decide) h17 ?_
      refine z_xP zt158 13 25 [some (.ref a0), some (.int b4), some (.int b5), some (.int x5)] [.int x5, .int b5, .ref a3] rfl rfl ?_
      refine z_xis zt158 14 rfl X14 k4 (by decide) (X14.1.g4 k4 (by decide)) (by omega) (by omega) (by omega) (by omega) (by decide) (fun M18 X19 e20 h21 => ?_)
      refine z_xrv zt158 15 rfl zzr158 ?_
      show z_ev (d + 1) 157 103 [some (.ref a0), some (.int b1), some (.int b2), some (.int b3), some (.int b4), some (.int b5)] [] M18 _
      refine z_xN zt157 48 rfl rfl (fun (x22 : Int32) (h23 : x22.toInt = b4.toInt + 1) => ?_) (z_pAdd rfl rfl (by omega) (by omega))
      show z_ev (d + 1) 157 106 [some (.ref a0), some (.int b1), some (.int b2), some (.int b3), some (.int x22), some (.int b5)] [] M18 _
      refine z_xN zt157 49 rfl rfl (fun (x24 : Int32) (h25 : x24.toInt = b5.toInt + (-1)) => ?_) (z_pAdd rfl rfl (by omega) (by omega))
      show z_ev (d + 1) 157 109 [some (.ref a0), some (.int b1), some (.int b2), some (.int b3), some (.int x22), some (.int x24)] [] M18 _
      refine z_xP zt157 50 88 [some (.ref a0), some (.int b1), some (.int b2), some (.int b3), some (.int x22), some (.int x24)] [] rfl rfl ?_
      have ia := z_rfe h2 (X.2.f k0 (by decide) (hbk _ _ _ _ _ k0).2.2.2.2.2.2.1)
      rw [ia] at h6 h10 h16 h21
      exact ih.2.2 M18 b1 b2 b3 x22 x24 X19 ⟨by omega, by omega⟩ ⟨by omega, by omega⟩ ⟨by omega, by omega⟩ ⟨by omega, by omega⟩ ⟨by omega, by omega⟩ ⟨by omega, by omega, by omega, by omega, by omega⟩ hH (hV.step (by omega) (by omega) h6 h10 h16 h21 (by omega) (by omega)) (by omega)
theorem zUC157 {T : List zK} {d : Nat} {K : Option Value → zH → Prop} {a0 : Nat} {q : Nat} {t : Nat} {m : Nat} {J : Nat} {M0 : zH} (hW : z_W M0 T) (k0 : T[a0]? = some (.inl (3, q, t, m, J))) (hbk : z_blk T M0) (kk : ∀ (M1 : zH), z_X T zw157 M0 M1 → z_nxP (z_Ar M0 (a0 + 7)) (z_Ar M1 (a0 + 7)) q → K none M1) : z_ev (d + 1) 157 0 [some (.ref a0), none, none, none, none, none] [] M0 K := by
  have X : z_X T zw157 M0 M0 := .refl hW
  have g0 := X.1.p3 k0
  refine z_xP zt157 0 1 [some (.ref a0), none, none, none, none, none] [.ref a0] rfl rfl ?_
  refine z_xgR (κ := .inl (2, q, t, m, 0)) zt157 1 rfl zo157 zzf3_39 X k0 (by decide) (by decide) rfl (fun (a2 : Nat) h1 k3 => ?_)
  have g4 := X.1.p2 k3
  refine z_xgI zt157 2 rfl zo157 zzf3_63 X k3 (by decide) (by decide) rfl (fun (x6 : Int32) h5 (h7 : (q : Int) ≤ x6.toInt) (h8 : x6.toInt ≤ (q : Int)) => ?_)
  refine z_xP zt157 3 8 [some (.ref a0), none, none, none, none, none] [.int 1, .int x6] rfl rfl ?_
  refine z_xI zt157 4 rfl rfl (fun (x9 : Int32) (h10 : x9.toInt = x6.toInt - 1) => ?_) (z_pSub rfl rfl (by omega) (by omega))
  refine z_xP zt157 5 12 [some (.ref a0), some (.int x9), none, none, none, none] [.int 1, .int x9] rfl rfl ?_
  refine z_xI zt157 6 rfl rfl (fun (x11 : Int32) (h12 : x11.toInt = x9.toInt - 1) => ?_) (z_pSub rfl rfl (by omega) (by omega))
  refine z_xP zt157 7 14 [some (.ref a0), some (.int x9), some (.int x11), none, none, none] [] rfl rfl ?_
  exact (zUB157 k0 hW hbk kk 40).1 M0 x9 x11 X ⟨by omega, by omega⟩ ⟨by omega, by omega⟩ (by omega) (by omega) rfl (fun k k1 k2 => by omega) (by omega)
/-! how many orders of the class, told -/
theorem z_mdb (x : Nat) {k : Nat} (hk : k < 10) : x % 1024 / 2 ^ k % 2 = x / 2 ^ k % 2 := by
  have e : 1024 = 2 ^ k * 2 ^ (10 - k) := by
    rw [← Nat.pow_add, show k + (10 - k) = 10 by omega]
  rw [e, Nat.mod_mul_right_div_self]
  refine Nat.mod_mod_of_dvd _ ?_
  rw [show 10 - k = (9 - k) + 1 by omega, Nat.pow_succ]
  exact Nat.dvd_mul_left _ _
theorem z_fcL {q : Nat} (q6 : q ≤ 6) : z_fc q ≤ 720 := by
  have h : ∀ q, q < 7 → z_fc q ≤ 720 := by decide
  exact h q (by omega)
/-- how many, or the first -/
def z_ordA (Y : List Nat → Prop) (q : Nat) (w : Int) (x : Int) : Prop := ∃ m f, z_tr Y (z_pm q q []) 0 (-2) m f ∧ ((w = 0 ∧ x = (m : Int)) ∨ (w ≠ 0 ∧ x = f))
theorem z_ordU {Y : List Nat → Prop} {q : Nat} {w x x2 : Int} (h : z_ordA Y q w x) (h2 : z_ordA Y q w x2) : x = x2 := by
  obtain ⟨m, f, a, b⟩ := h
  obtain ⟨m2, f2, a2, b2⟩ := h2
  obtain ⟨rfl, rfl⟩ := z_trU a a2
  rcases b with ⟨b, c⟩ | ⟨b, c⟩ <;> rcases b2 with ⟨b2, c2⟩ | ⟨b2, c2⟩
  · exact c.trans c2.symm
  · exact absurd b b2
  · exact absurd b2 b
  · exact c.trans c2.symm
/-- an order by which a question is yes -/
def z_isY (Y : List Nat → Prop) (B : Nat → Nat) (q : Nat) (L : Nat → Int) (u : Nat) : Prop := ∀ l : List Nat, l.length = q → (∀ v, v ∈ l → v < q) → ∀ y n, z_tuR B q L (fun _ => False) (fun i => l.getD i 0) q y n → (Y l ↔ y / 2 ^ u % 2 = 1)
theorem zUB155 {T : List zK} {d : Nat} {K : Option Value → zH → Prop} {a0 : Nat} {q : Nat} {t : Nat} {m : Nat} {J : Nat} {p1 : Int32} {p2 : Int32} {M0 : zH} (k0 : T[a0]? = some (.inl (3, q, t, m, J))) (u1 : 0 ≤ p1.toInt ∧ p1.toInt ≤ 9) (u2 : 0 ≤ p2.toInt ∧ p2.toInt ≤ 1) (hW0 : z_W M0 T) (hbk : z_blk T M0) {N t2 pr en : Nat} {B : Nat → Nat} (hN0 : z_F M0 a0 0 = some (.ref N)) (hag : z_AGO T M0 N q t2 m pr en B) (q6 : q ≤ 6) {Y : List Nat → Prop} (hY : z_isY Y B q (fun k => (z_Ar M0 (a0 + 4) k).toInt) p1.toInt.toNat) (hp1 : p1.toInt < (q : Int)) (kk : ∀ (x : Int32) (M1 : zH), z_X T zw155 M0 M1 → z_ordA Y q p2.toInt x.toInt → K (some (.int x)) M1) : ∀ n : Nat, (∀ (M : zH) (b3 : Int32) (b4 : Int32) (b5 : Int32), z_X T zw155 M0 M → 0 ≤ b3.toInt ∧ b3.toInt ≤ 0 → 2 ≤ b5.toInt ∧ b5.toInt ≤ 11 → b3.toInt = 0 → b5.toInt ≤ (q : Int) + 1 → b4.toInt = ((z_fc (b5.toInt.toNat - 1) : Nat) : Int) → z_rp (z_Ar M (a0 + 7)) q ((z_pm q q []).getD 0 []) → ((0) * 3 + 1) * 2147483648 + (11 - b5.toInt) < (n : Int) → z_ev (d + 3) 155 13 [some (.ref a0), some (.int p1), some (.int p2), some (.int b3), some (.int b4), some (.int b5)] [] M K) ∧ (∀ (M : zH) (b3 : Int32) (b4 : Int32) (b5 : Int32), z_X T zw155 M0 M → 0 ≤ b5.toInt ∧ b5.toInt ≤ 2147483647 → b4.toInt = ((z_fc q : Nat) : Int) → b5.toInt ≤ b4.toInt → (∃ (mm : Nat) (ff : Int), z_tr Y ((z_pm q q []).take b5.toInt.toNat) 0 (-2) mm ff ∧ (p2.toInt = 0 → b3.toInt = (mm : Int)) ∧ (p2.toInt ≠ 0 → mm = 0)) → (b5.toInt.toNat < z_fc q → z_rp (z_Ar M (a0 + 7)) q ((z_pm q q []).getD b5.toInt.toNat [])) → ((0) * 3 + 0) * 2147483648 + (2147483647 - b5.toInt) < (n : Int) → z_ev (d + 3) 155 41 [some (.ref a0), some (.int p1), some (.int p2), some (.int b3), some (.int b4), some (.int b5)] [] M K) := by
  intro n
  induction n with
  | zero => exact ⟨(by intros; exfalso; omega), (by intros; exfalso; omega)⟩
  | succ n ih =>
    refine ⟨?_, ?_⟩
    · skip
      intro M b3 b4 b5 X hh0 hh1 hb3 hb5 hb4 hrp hE
      have g0 := X.1.p3 k0
      refine z_xP zt155 3 16 [some (.ref a0), some (.int p1), some (.int p2), some (.int b3), some (.int b4), some (.int b5)] [.ref a0, .int b5] rfl rfl ?_
      refine z_xgR (κ := .inl (2, q, t, m, 0)) zt155 4 rfl zo155 zzf3_39 X k0 (by decide) (by decide) rfl (fun (a2 : Nat) h1 k3 => ?_)
      have g4 := X.1.p2 k3
      refine z_xgI zt155 5 rfl zo155 zzf3_63 X k3 (by decide) (by decide) rfl (fun (x6 : Int32) h5 (h7 : (q : Int) ≤ x6.toInt) (h8 : x6.toInt ≤ (q : Int)) => ?_)
      refine z_xJ zt155 6 rfl rfl (fun (h9 : x6.toInt < b5.toInt) => ?_) (fun (h9 : b5.toInt ≤ x6.toInt) => ?_)
      · skip
        refine z_xP zt155 12 41 [some (.ref a0), some (.int p1), some (.int p2), some (.int b3), some (.int b4), some (.int 0)] [] rfl rfl ?_
        have q0 : ((0 : Int32)).toInt = 0 := rfl
        have e5 : b5.toInt.toNat - 1 = q := by omega
        rw [e5] at hb4
        have hfc : 1 ≤ z_fc q := by
          have h : ∀ q, q < 7 → 1 ≤ z_fc q := by decide
          exact h q (by omega)
        exact ih.2 M b3 b4 (0) X (by decide) hb4 (by omega) ⟨0, -2, ⟨rfl, rfl⟩, fun _ => hb3, fun _ => rfl⟩ (fun _ => hrp) (by omega)
      refine z_xP zt155 7 29 [some (.ref a0), some (.int p1), some (.int p2), some (.int b3), some (.int b4), some (.int b5)] [.int b5, .int b4] rfl rfl ?_
      have h10 := z_b32 b4
      have h10b := z_fcL (q := b5.toInt.toNat - 1) (by omega)
      refine z_xI zt155 8 rfl rfl (fun (x11 : Int32) (h11 : x11.toInt = b4.toInt * b5.toInt ∧ 0 ≤ x11.toInt ∧ x11.toInt ≤ 5040) => ?_) (z_pMulB (a := 720) (b := 7) rfl rfl (by omega) (by omega) (by omega) (by omega) (by decide) (by decide))
      refine z_xP zt155 9 32 [some (.ref a0), some (.int p1), some (.int p2), some (.int b3), some (.int x11), some (.int b5)] [] rfl rfl ?_
      refine z_xN zt155 10 rfl rfl (fun (x13 : Int32) (h14 : x13.toInt = b5.toInt + 1) => ?_) (z_pAdd rfl rfl (by omega) (by omega))
      show z_ev (d + 3) 155 35 [some (.ref a0), some (.int p1), some (.int p2), some (.int b3), some (.int x11), some (.int x13)] [] M _
      refine z_xP zt155 11 13 [some (.ref a0), some (.int p1), some (.int p2), some (.int b3), some (.int x11), some (.int x13)] [] rfl rfl ?_
      have e11 : x11.toInt = ((z_fc (x13.toInt.toNat - 1) : Nat) : Int) := by
        obtain ⟨k, hk⟩ : ∃ k, b5.toInt.toNat = k + 1 := ⟨b5.toInt.toNat - 1, by omega⟩
        rw [show x13.toInt.toNat - 1 = k + 1 by omega, h11.1, hb4, hk]
        show ((z_fc k : Nat) : Int) * b5.toInt = (((k + 1) * z_fc k : Nat) : Int)
        rw [Int.natCast_mul, Int.mul_comm, show b5.toInt = ((k + 1 : Nat) : Int) by omega]
      exact ih.1 M b3 x11 x13 X ⟨by omega, by omega⟩ ⟨by omega, by omega⟩ hb3 (by omega) e11 hrp (by omega)
    · skip
      intro M b3 b4 b5 X hh0 hb4 hb5 hI hrp hE
      obtain ⟨mm, ff, hT, hm0, hm1⟩ := hI
      have hlen := z_pmsN q6
      have hfc := z_fcL q6
      have g0 := X.1.p3 k0
      refine z_xP zt155 13 45 [some (.ref a0), some (.int p1), some (.int p2), some (.int b3), some (.int b4), some (.int b5)] [.int b4, .int b5] rfl rfl ?_
      have h1 := z_b32 b5
      have h2 := z_b32 b4
      refine z_xJ zt155 14 rfl rfl (fun (h3 : b4.toInt ≤ b5.toInt) => ?_) (fun (h3 : b5.toInt < b4.toInt) => ?_)
      · skip
        refine z_xP zt155 32 83 [some (.ref a0), some (.int p1), some (.int p2), some (.int b3), some (.int b4), some (.int b5)] [.int p2] rfl rfl ?_
        refine z_xZ zt155 33 rfl rfl (fun (h4 : p2.toInt = 0) => ?_) (fun (h4 : p2.toInt ≠ 0) => ?_)
        · skip
          refine z_xP zt155 35 92 [some (.ref a0), some (.int p1), some (.int p2), some (.int b3), some (.int b4), some (.int b5)] [.int b3] rfl rfl ?_
          exact z_xri zt155 36 rfl zzr155 (kk b3 M X ⟨mm, ff, (by rw [List.take_of_length_le (by omega)] at hT; exact hT), Or.inl ⟨h4, hm0 h4⟩⟩)
        refine z_xP zt155 34 92 [some (.ref a0), some (.int p1), some (.int p2), some (.int b3), some (.int b4), some (.int b5)] [.int (-2)] rfl rfl ?_
        have qm2 : (((-2) : Int32)).toInt = (-2) := rfl
        have hz := z_tr0 hT (hm1 h4)
        exact z_xri zt155 36 rfl zzr155 (kk (-2) M X ⟨mm, ff, (by rw [List.take_of_length_le (by omega)] at hT; exact hT), Or.inr ⟨h4, hz.symm⟩⟩)
      refine z_xP zt155 15 50 [some (.ref a0), some (.int p1), some (.int p2), some (.int b3), some (.int b4), some (.int b5)] [.int 0, .ref a0] rfl rfl ?_
      refine z_xcV (vs := [.ref a0, .int 0]) (r := []) (L2 := [some (.ref a0), some (.int 0), none, none, none, none, none]) zt155 16 rfl zo155 zzcV3_123 (Or.inl rfl) rfl X k0 rfl rfl rfl (Nat.le_of_ble_eq_true rfl) zzm90 (Nat.le_of_ble_eq_true rfl) rfl ?_
      have q0 : ((0 : Int32)).toInt = 0 := rfl
      have q0 : ((0 : Int32)).toInt = 0 := rfl
      have hlt : b5.toInt.toNat < z_fc q := by omega
      have hr := hrp hlt
      obtain ⟨hl1, hl2⟩ := z_pmsL q6 hlt
      generalize hl : (z_pm q q []).getD b5.toInt.toNat [] = l at hr hl1 hl2
      refine zUC90 X.1 k0 X.1 (hbk.ke X.2 (by decide)) (X.2.f k0 (by decide) hN0) (hag.ke (fun _ _ h => h) X.2 (by decide)) (by decide) (fun x7 M5 X6 h8 h9 htw => ?_)
      rw [X.2.a (hbk.k4 hW0 k0) (by decide)] at htw
      have hyl := hY l hl1 hl2 _ _ (z_tuC q _ _ (fun k hk => by
        show (z_Ar M (a0 + 7) k).toInt.toNat = l.getD k 0
        rw [hr.2 k hk]
        exact Int.toNat_natCast _) (fun k _ => ⟨fun a => (by
          have e : (0 : Int32).toInt.toNat = 0 := rfl
          rw [e, Nat.zero_div] at a
          cases a), fun a => a.elim⟩) htw.2)
      rw [z_mdb _ (by omega)] at hyl
      have X10 := X.go X6 (z_sb (by decide))
      show z_ev (d + 3) 155 53 [some (.ref a0), some (.int p1), some (.int p2), some (.int b3), some (.int b4), some (.int b5)] [.int x7] M5 _
      refine z_xP zt155 17 54 [some (.ref a0), some (.int p1), some (.int p2), some (.int b3), some (.int b4), some (.int b5)] [.int p1, .int x7] rfl rfl ?_
      refine z_xI zt155 18 rfl rfl (fun (x12 : Int32) (h13 : x12 = x7 >>> (p1 &&& 31) ∧ 0 ≤ x12.toInt ∧ x12.toInt ≤ x7.toInt) => ?_) (⟨rfl, z_pShrN rfl (by omega)⟩)
      refine z_xP zt155 19 56 [some (.ref a0), some (.int p1), some (.int p2), some (.int b3), some (.int b4), some (.int b5)] [.int 1, .int x12] rfl rfl ?_
      refine z_xI zt155 20 rfl rfl (fun (x14 : Int32) (h15 : x14 = x12 &&& 1 ∧ 0 ≤ x14.toInt ∧ x14.toInt ≤ x12.toInt ∧ x14.toInt ≤ 1) => ?_) (⟨rfl, z_pAnd2 rfl rfl (by omega) (by omega)⟩)
      have hbit : x14.toInt ≠ 0 ↔ x7.toInt.toNat / 2 ^ p1.toInt.toNat % 2 = 1 := z_opb h13.1 h15.1 (by omega) ⟨by omega, by omega⟩ Iff.rfl
      rw [← hbit] at hyl
      have hk5 : b5.toInt.toNat < (z_pm q q []).length := by omega
      have hord5 : z_Ar M5 (a0 + 7) = z_Ar M (a0 + 7) := X6.2.a ((hbk.ke X.2 (by decide)).k7 X.1 k0) (by decide)
      refine z_xZ zt155 21 rfl rfl (fun (h16 : x14.toInt = 0) => ?_) (fun (h16 : x14.toInt ≠ 0) => ?_)
      · skip
        refine z_xP zt155 28 73 [some (.ref a0), some (.int p1), some (.int p2), some (.int b3), some (.int b4), some (.int b5)] [.ref a0] rfl rfl ?_
        refine z_xcV (vs := [.ref a0]) (r := []) (L2 := [some (.ref a0), none, none, none, none, none]) zt155 29 rfl zo155 zzcV3_129 (Or.inl rfl) rfl X10 k0 rfl rfl rfl (Nat.le_of_ble_eq_true rfl) zzm157 (Nat.le_of_ble_eq_true rfl) rfl ?_
        refine zUC157 X10.1 k0 (hbk.ke X10.2 (by decide)) (fun M17 X18 hnx => ?_)
        have X19 := X10.go X18 (z_sb (by decide))
        show z_ev (d + 3) 155 76 [some (.ref a0), some (.int p1), some (.int p2), some (.int b3), some (.int b4), some (.int b5)] [] M17 _
        refine z_xN zt155 30 rfl rfl (fun (x21 : Int32) (h22 : x21.toInt = b5.toInt + 1) => ?_) (z_pAdd rfl rfl (by omega) (by omega))
        show z_ev (d + 3) 155 79 [some (.ref a0), some (.int p1), some (.int p2), some (.int b3), some (.int b4), some (.int x21)] [] M17 _
        refine z_xP zt155 31 41 [some (.ref a0), some (.int p1), some (.int p2), some (.int b3), some (.int b4), some (.int x21)] [] rfl rfl ?_
        have h23 := z_b32 x21
        have es : x21.toInt.toNat = b5.toInt.toNat + 1 := by omega
        exact ih.2 M17 b3 b4 x21 X19 ⟨by omega, by omega⟩ hb4 (by omega) ⟨mm, ff, by rw [es]; exact z_trS hk5 hT (by rw [hl]; exact z_trN (fun hy => hyl.mp hy h16)), hm0, hm1⟩ (fun hlt2 => by
          rw [es] at hlt2 ⊢
          rw [hord5] at hnx
          exact z_nxR q6 hlt2 (by rw [hl]; exact hr) hnx) (by omega)
      refine z_xP zt155 22 61 [some (.ref a0), some (.int p1), some (.int p2), some (.int b3), some (.int b4), some (.int b5)] [.int p2] rfl rfl ?_
      refine z_xZ zt155 23 rfl rfl (fun (h24 : p2.toInt = 0) => ?_) (fun (h24 : p2.toInt ≠ 0) => ?_)
      · skip
        have h25 := z_b32 b3
        have hmb := z_trM hT
        rw [List.length_take] at hmb
        have hm0' := hm0 h24
        refine z_xN zt155 27 rfl rfl (fun (x26 : Int32) (h27 : x26.toInt = b3.toInt + 1) => ?_) (z_pAdd rfl rfl (by omega) (by omega))
        show z_ev (d + 3) 155 72 [some (.ref a0), some (.int p1), some (.int p2), some (.int x26), some (.int b4), some (.int b5)] [] M5 _
        refine z_xP zt155 28 73 [some (.ref a0), some (.int p1), some (.int p2), some (.int x26), some (.int b4), some (.int b5)] [.ref a0] rfl rfl ?_
        refine z_xcV (vs := [.ref a0]) (r := []) (L2 := [some (.ref a0), none, none, none, none, none]) zt155 29 rfl zo155 zzcV3_129 (Or.inl rfl) rfl X10 k0 rfl rfl rfl (Nat.le_of_ble_eq_true rfl) zzm157 (Nat.le_of_ble_eq_true rfl) rfl ?_
        refine zUC157 X10.1 k0 (hbk.ke X10.2 (by decide)) (fun M28 X29 hnx => ?_)
        have X30 := X10.go X29 (z_sb (by decide))
        show z_ev (d + 3) 155 76 [some (.ref a0), some (.int p1), some (.int p2), some (.int x26), some (.int b4), some (.int b5)] [] M28 _
        refine z_xN zt155 30 rfl rfl (fun (x32 : Int32) (h33 : x32.toInt = b5.toInt + 1) => ?_) (z_pAdd rfl rfl (by omega) (by omega))
        show z_ev (d + 3) 155 79 [some (.ref a0), some (.int p1), some (.int p2), some (.int x26), some (.int b4), some (.int x32)] [] M28 _
        refine z_xP zt155 31 41 [some (.ref a0), some (.int p1), some (.int p2), some (.int x26), some (.int b4), some (.int x32)] [] rfl rfl ?_
        have h34 := z_b32 x32
        have es : x32.toInt.toNat = b5.toInt.toNat + 1 := by omega
        exact ih.2 M28 x26 b4 x32 X30 ⟨by omega, by omega⟩ hb4 (by omega) ⟨mm + 1, _, by rw [es]; exact z_trS hk5 hT (by rw [hl]; exact z_trY (hyl.mpr h16)), fun _ => by omega, fun h => absurd h24 h⟩ (fun hlt2 => by
          rw [es] at hlt2 ⊢
          rw [hord5] at hnx
          exact z_nxR q6 hlt2 (by rw [hl]; exact hr) hnx) (by omega)
      refine z_xP zt155 24 65 [some (.ref a0), some (.int p1), some (.int p2), some (.int b3), some (.int b4), some (.int b5)] [.ref a0] rfl rfl ?_
      refine z_xcV (vs := [.ref a0]) (r := []) (L2 := [some (.ref a0), none, none]) zt155 25 rfl zo155 zzcV3_126 (Or.inl rfl) rfl X10 k0 rfl rfl rfl (Nat.le_of_ble_eq_true rfl) zzm156 (Nat.le_of_ble_eq_true rfl) rfl ?_
      refine zUC156 X10.1 k0 (hbk.ke X10.2 (by decide)) (by rw [hord5]; exact hr) q6 hl2 (fun x37 M35 X36 h37 => ?_)
      have X38 := X10.go X36 (z_sb (by decide))
      show z_ev (d + 3) 155 68 [some (.ref a0), some (.int p1), some (.int p2), some (.int b3), some (.int b4), some (.int b5)] [.int x37] M35 _
      have e0 := hm1 h24
      rw [e0] at hT
      obtain ⟨m3, h3⟩ := z_tr1 hk5 hT (by rw [hl]; exact hyl.mpr h16)
      rw [hl] at h3
      exact z_xri zt155 26 rfl zzr155 (kk x37 M35 X38 ⟨m3, _, h3, Or.inr ⟨h24, h37⟩⟩)
theorem zUC155 {T : List zK} {d : Nat} {K : Option Value → zH → Prop} {a0 : Nat} {q : Nat} {t : Nat} {m : Nat} {J : Nat} {p1 : Int32} {p2 : Int32} {M0 : zH} (hW : z_W M0 T) (k0 : T[a0]? = some (.inl (3, q, t, m, J))) (u1 : 0 ≤ p1.toInt ∧ p1.toInt ≤ 9) (u2 : 0 ≤ p2.toInt ∧ p2.toInt ≤ 1) (hbk : z_blk T M0) {N t2 pr en : Nat} {B : Nat → Nat} (hN0 : z_F M0 a0 0 = some (.ref N)) (hag : z_AGO T M0 N q t2 m pr en B) (q6 : q ≤ 6) {Y : List Nat → Prop} (hY : z_isY Y B q (fun k => (z_Ar M0 (a0 + 4) k).toInt) p1.toInt.toNat) (hp1 : p1.toInt < (q : Int)) (kk : ∀ (x : Int32) (M1 : zH), z_X T zw155 M0 M1 → z_ordA Y q p2.toInt x.toInt → K (some (.int x)) M1) : z_ev (d + 3) 155 0 [some (.ref a0), some (.int p1), some (.int p2), none, none, none] [] M0 K := by
  have X : z_X T zw155 M0 M0 := .refl hW
  have g0 := X.1.p3 k0
  refine z_xP zt155 0 2 [some (.ref a0), some (.int p1), some (.int p2), none, none, none] [.int 0, .ref a0] rfl rfl ?_
  refine z_xcV (vs := [.ref a0, .int 0]) (r := []) (L2 := [some (.ref a0), some (.int 0), none, none]) zt155 1 rfl zo155 zzcV3_119 (Or.inl rfl) rfl X k0 rfl rfl rfl (Nat.le_of_ble_eq_true rfl) zzm87 (Nat.le_of_ble_eq_true rfl) rfl ?_
  have q0 : ((0 : Int32)).toInt = 0 := rfl
  have q0 : ((0 : Int32)).toInt = 0 := rfl
  refine zUC87 X.1 hbk k0 (by decide) (fun M1 X2 ho => ?_)
  have X3 := X.go X2 (z_sb (by decide))
  show z_ev (d + 3) 155 5 [some (.ref a0), some (.int p1), some (.int p2), none, none, none] [] M1 _
  refine z_xP zt155 2 13 [some (.ref a0), some (.int p1), some (.int p2), some (.int 0), some (.int 1), some (.int 2)] [] rfl rfl ?_
  have q0 : ((0 : Int32)).toInt = 0 := rfl
  have q1 : ((1 : Int32)).toInt = 1 := rfl
  have q2 : ((2 : Int32)).toInt = 2 := rfl
  have hrp : z_rp (z_Ar M1 (a0 + 7)) q ((z_pm q q []).getD 0 []) := by
    rw [z_pms0 q6]
    refine ⟨List.length_range, fun i hi => ?_⟩
    rw [ho i hi, List.getD_eq_getElem?_getD, List.getElem?_range hi]
    show (((0 : Int32).toInt.toNat + i) % q : Nat) = ((i : Nat) : Int)
    have e : (0 : Int32).toInt.toNat = 0 := rfl
    rw [e, Nat.zero_add, Nat.mod_eq_of_lt hi]
  exact (zUB155 k0 u1 u2 hW hbk hN0 hag q6 hY hp1 kk 6442450944).1 M1 (0) (1) (2) X3 (by decide) (by decide) rfl (by omega) rfl hrp (by omega)
def z_vQ (M : zH) (p1 : Int32) : Prop := 0 ≤ p1.toInt ∧ p1.toInt < (z_Fv M 4 3).toInt
/-- an order by which the question is yes, at these judges -/
def z_oY (B : Nat → Nat) (q : Nat) (ww yy nn : Nat → Int32) (J u : Nat) (l : List Nat) : Prop := ∃ (L : Nat → Int) (y n : Nat), (∀ k, k < q → L k = z_LW ww yy nn J k) ∧ z_tuR B q L (fun _ => False) (fun i => l.getD i 0) q y n ∧ y / 2 ^ u % 2 = 1
theorem z_gdM {l : List Nat} {q i : Nat} (hl : l.length = q) (hq : ∀ v, v ∈ l → v < q) (hi : i < q) : l.getD i 0 < q := by
  rw [List.getD_eq_getElem?_getD, List.getElem?_eq_getElem (by omega)]
  exact hq _ (List.getElem_mem _)
theorem z_oYis {B : Nat → Nat} {q J u : Nat} {L : Nat → Int} {ww yy nn : Nat → Int32} (hL : ∀ k, k < q → L k = z_LW ww yy nn J k) : z_isY (z_oY B q ww yy nn J u) B q L u := fun l h1 h2 y n h => by
  constructor
  · rintro ⟨L2, y2, n2, g1, g2, g3⟩
    have e := z_tuU q y n y2 n2 (fun _ _ => rfl) (fun k hk => by
      have h4 : L (l.getD k 0) = L2 (l.getD k 0) := (hL _ (z_gdM h1 h2 hk)).trans (g1 _ (z_gdM h1 h2 hk)).symm
      rw [h4]
      exact ⟨Iff.rfl, Iff.rfl, Iff.rfl⟩) h g2
    rw [e.1]
    exact g3
  · exact fun h3 => ⟨L, y, n, hL, h, h3⟩
def z_wR (q : Nat) (p2 p3 : Int32) : Prop := (0 ≤ p2.toInt ∧ p2.toInt < (q : Int)) ∧ (p3.toInt = 0 ∨ p3.toInt = 1)
/-- what orders answers at a told bench -/
def z_aR (B : Nat → Nat) (q J : Nat) (ww yy nn : Nat → Int32) (p2 p3 : Int32) (x : Int) : Prop := (x = -1 ∧ ¬ z_wR q p2 p3) ∨ (z_wR q p2 p3 ∧ ((x = -4 ∧ 6 < q) ∨ (q ≤ 6 ∧ z_ordA (z_oY B q ww yy nn J p2.toInt.toNat) q p3.toInt x)))
theorem z_aRU {B : Nat → Nat} {q J : Nat} {ww yy nn : Nat → Int32} {p2 p3 : Int32} {x x2 : Int} (h : z_aR B q J ww yy nn p2 p3 x) (h2 : z_aR B q J ww yy nn p2 p3 x2) : x = x2 := by
  rcases h with ⟨h, a⟩ | ⟨a, h⟩ <;> rcases h2 with ⟨h2, a2⟩ | ⟨a2, h2⟩
  · exact h.trans h2.symm
  · exact absurd a2 a
  · exact absurd a a2
  · rcases h with ⟨h, b⟩ | ⟨b, h⟩ <;> rcases h2 with ⟨h2, b2⟩ | ⟨b2, h2⟩
    · exact h.trans h2.symm
    · omega
    · omega
    · exact z_ordU h h2
def z_cR (T : List zK) (M0 : zH) (p1 p2 p3 : Int32) (x : Int) : Prop := (x = -1 ∧ ¬ z_vQ M0 p1) ∨ (z_vQ M0 p1 ∧ ∃ (b N q t m pr en J : Nat) (B : Nat → Nat) (jv : Int32) (ww yy nn : Nat → Int32), z_tob T M0 p1.toNatClampNeg b N q t m pr en J B jv ww yy nn ∧ z_aR B q J ww yy nn p2 p3 x)
theorem z_cR0 {T : List zK} {M : zH} {p1 p2 p3 : Int32} {x : Int} (h : ¬ z_vQ M p1) (hx : x = -1) : z_cR T M p1 p2 p3 x := Or.inl ⟨hx, h⟩
theorem z_tobOf {T : List zK} {M : zH} {A p : Int32} {b q t m : Nat} (hW : z_W M T) (hR : z_RR T M) (h9 : z_R89 T M) (hA : z_F M 4 3 = some (.int A)) (hp : 0 ≤ p.toInt ∧ p.toInt < A.toInt) (ob : z_O M 10 p.toNatClampNeg = some b) (kb : T[b]? = some (.inl (3, q, t, m, 9))) : ∃ (N pr en J : Nat) (B : Nat → Nat) (jv : Int32) (ww yy nn : Nat → Int32), z_tob T M p.toNatClampNeg b N q t m pr en J B jv ww yy nn := by
  have hpa := z_pc hp
  have hbk := hR.2.2.1
  obtain ⟨b1, N, q1, t1, m1, pr, en, B, hAB⟩ := hR.2.1 A hA p.toNatClampNeg hpa
  obtain rfl : b = b1 := Option.some.inj (ob.symm.trans hAB.1)
  have e1 := hAB.2.1
  rw [kb] at e1
  cases e1
  obtain ⟨b2, q2, t2, m2, g1, g2, J, ww, yy, nn, J9, cb, yb, jok⟩ := (hR.2.2.2 A hA).1 p.toNatClampNeg hpa
  obtain rfl : b = b2 := Option.some.inj (ob.symm.trans g1)
  rw [kb] at g2
  cases g2
  obtain ⟨⟨jv, fj, ej⟩, cj⟩ := id cb
  have q10 : q ≤ 10 := by have := hW.p3 kb; omega
  have ok := z_jokJ q10 jok
  obtain ⟨jv2, fj2, j9, hL⟩ := (h9 b q t m kb).1
  have ejv := z_ivL fj fj2
  rw [← ejv] at j9 hL
  have eJ : jv.toInt.toNat = J := by omega
  rw [eJ] at hL
  have hLW : ∀ k : Nat, k < q → (z_Ar M (b + 4) k).toInt = z_LW ww yy nn J k ∧ -81 ≤ (z_Ar M (b + 4) k).toInt ∧ (z_Ar M (b + 4) k).toInt ≤ 81 := fun k hk => by
    have e := z_ofN k (by omega)
    have h1 := hL (Int32.ofNat k) (by omega) (by omega)
    have h2 : (Int32.ofNat k).toNatClampNeg = k := by
      show (Int32.ofNat k).toInt.toNat = k
      omega
    rw [h2] at h1
    have h3 : z_lj (z_Ar M (b + 1)) (z_Ar M (b + 2)) (z_Ar M (b + 3)) (Int32.ofNat k) J = z_lj ww yy nn (Int32.ofNat k) J := z_ljC fun j hj => cj j hj
    have h4 := z_ljI (k := Int32.ofNat k) (by omega) J J9 ok
    have h5 := z_ljV (k := Int32.ofNat k) (by omega) J9 ok
    rw [h3] at h1
    rw [h1]
    exact ⟨h5, by omega, by omega⟩
  have hans : ∀ j, j < jv.toInt.toNat → z_ans q (z_Ar M (b + 2) j) (z_Ar M (b + 3) j) := fun j hj => by
    obtain ⟨u1, u2, u3⟩ := cj j (by omega)
    rw [u2, u3]
    exact (jok j (by omega)).1
  have hY := hAB.2.2.2.2
  exact ⟨N, pr, en, J, B, jv, ww, yy, nn, hAB, ej, J9, fj, cb, yb, jok, fun k hk => (hLW k hk).1⟩
theorem zUC154 {T : List zK} {d : Nat} {K : Option Value → zH → Prop} {p1 : Int32} {p2 : Int32} {p3 : Int32} {M0 : zH} (hW : z_W M0 T) (hR : z_RR T M0) (hR9 : z_R89 T M0) (hG : z_GG T M0) (kk : ∀ (x : Int32) (M1 : zH), z_X T zw154 M0 M1 → z_cR T M0 p1 p2 p3 x.toInt → K (some (.int x)) M1) : z_ev (d + 4) 154 0 [some (.ref 4), some (.int p1), some (.int p2), some (.int p3), none] [] M0 K := by
  have X : z_X T zw154 M0 M0 := .refl hW
  refine z_xP zt154 0 2 [some (.ref 4), some (.int p1), some (.int p2), some (.int p3), none] [.int p1, .ref 4] rfl rfl ?_
  have f4 : T[4]? = some (.inl (0, 0, 0, 0, 0)) := X.1.k rfl (by decide)
  refine z_xcV (vs := [.ref 4, .int p1]) (r := []) (L2 := [some (.ref 4), some (.int p1)]) zt154 1 rfl zo154 zzcV0_85 (Or.inl rfl) rfl X f4 rfl rfl rfl (Nat.le_of_ble_eq_true rfl) zzm35 (Nat.le_of_ble_eq_true rfl) rfl ?_
  refine z_xP zt35 0 1 [some (.ref 4), some (.int p1)] [.int p1] rfl rfl ?_
  refine z_xZ zt35 1 rfl rfl (fun (h1 : p1.toInt < 0) => ?_) (fun (h1 : 0 ≤ p1.toInt) => ?_)
  · skip
    refine z_xP zt35 5 22 [some (.ref 4), some (.int p1)] [.null] rfl rfl ?_
    refine z_xrn zt35 10 rfl zzr35 ?_
    show z_ev (d + 4) 154 5 [some (.ref 4), some (.int p1), some (.int p2), some (.int p3), none] [.null] M0 _
    refine z_xP zt154 2 31 [some (.ref 4), some (.int p1), some (.int p2), some (.int p3), some (.null)] [] rfl rfl ?_
    refine z_xP zt154 11 32 [some (.ref 4), some (.int p1), some (.int p2), some (.int p3), some (.null)] [.int (-1)] rfl rfl ?_
    have qm1 : (((-1) : Int32)).toInt = (-1) := rfl
    exact z_xri zt154 12 rfl zzr154 (kk (-1) M0 X (z_cR0 (by unfold z_vQ; omega) rfl))
  refine z_xP zt35 2 6 [some (.ref 4), some (.int p1)] [.ref 4, .int p1] rfl rfl ?_
  refine z_xgI zt35 3 rfl zo35 zzf0_59 X f4 (by decide) (by decide) rfl (fun (x3 : Int32) h2 (h4 : 0 ≤ x3.toInt) (h5 : x3.toInt ≤ 8) => ?_)
  have ex3 : (z_Fv M0 4 3).toInt = x3.toInt := by rw [z_Fv.of h2]
  have h6 := z_b32 p1
  refine z_xJ zt35 4 rfl rfl (fun (h7 : p1.toInt < x3.toInt) => ?_) (fun (h7 : x3.toInt ≤ p1.toInt) => ?_)
  · skip
    refine z_xP zt35 6 17 [some (.ref 4), some (.int p1)] [.ref 4] rfl rfl ?_
    refine z_xgX (b := 10) zt35 7 rfl zo35 zzf0_18 X f4 (by decide) (by decide) rfl ?_
    refine z_xP zt35 8 21 [some (.ref 4), some (.int p1)] [.int p1, .ref 10] rfl rfl ?_
    have f10 : T[10]? = some (.inr (10, 2, 8, 9, 0)) := X.1.k rfl (by decide)
    refine z_xal zt35 9 rfl X f10 (by decide) (by decide) (by decide) (by omega) (by omega) (fun (a8 : Nat) h9 h10 => ?_) (fun h11 => absurd h11 (z_Gs (hG.go X (by decide)).2.1 h2 (by omega) (by omega)))
    obtain ⟨q12, t13, m14, k15⟩ : ∃ q t m, T[a8]? = some (.inl (3, q, t, m, 9)) := h10
    have hvQ : z_vQ M0 p1 := by unfold z_vQ; omega
    obtain ⟨N, pr, en, J, B, jv, ww, yy, nn, hTB⟩ := z_tobOf hW hR hR9 h2 ⟨by omega, by omega⟩ h9 k15
    have told : ∀ x : Int32, z_aR B q12 J ww yy nn p2 p3 x.toInt → z_cR T M0 p1 p2 p3 x.toInt := fun x h => Or.inr ⟨hvQ, a8, N, q12, t13, m14, pr, en, J, B, jv, ww, yy, nn, hTB, h⟩
    have hbk := hR.2.2.1
    have g16 := X.1.p3 k15
    refine z_xra zt35 10 rfl zzr35 ?_
    show z_ev (d + 4) 154 5 [some (.ref 4), some (.int p1), some (.int p2), some (.int p3), none] [.ref a8] M0 _
    refine z_xP zt154 2 12 [some (.ref 4), some (.int p1), some (.int p2), some (.int p3), some (.ref a8)] [] rfl rfl ?_
    refine z_xP zt154 3 14 [some (.ref 4), some (.int p1), some (.int p2), some (.int p3), some (.ref a8)] [.ref a8] rfl rfl ?_
    refine z_xgR (κ := .inl (2, q12, t13, m14, 0)) zt154 4 rfl zo154 zzf0_89 X k15 (by decide) (by decide) rfl (fun (a18 : Nat) h17 k19 => ?_)
    have g20 := X.1.p2 k19
    refine z_xP zt154 5 18 [some (.ref 4), some (.int p1), some (.int p2), some (.int p3), some (.ref a8)] [.int p2, .ref a18] rfl rfl ?_
    refine z_xcV (vs := [.ref a18, .int p2]) (r := []) (L2 := [some (.ref a18), some (.int p2)]) zt154 6 rfl zo154 zzcV0_129 (Or.inl rfl) rfl X k19 rfl rfl rfl (Nat.le_of_ble_eq_true rfl) zzm48 (Nat.le_of_ble_eq_true rfl) rfl ?_
    refine z_xP zt48 0 1 [some (.ref a18), some (.int p2)] [.int p2] rfl rfl ?_
    refine z_xZ zt48 1 rfl rfl (fun (h21 : p2.toInt < 0) => ?_) (fun (h21 : 0 ≤ p2.toInt) => ?_)
    · skip
      refine z_xP zt48 6 17 [some (.ref a18), some (.int p2)] [.int 0] rfl rfl ?_
      refine z_xrz zt48 7 rfl zzr48 (by decide) (by decide) ?_
      show z_ev (d + 4) 154 21 [some (.ref 4), some (.int p1), some (.int p2), some (.int p3), some (.ref a8)] [.int 0] M0 _
      refine z_xZ zt154 7 rfl rfl (fun (h22 : (0 : Int) = 0) => ?_) (fun (h22 : (0 : Int) ≠ 0) => absurd h22 (by omega))
      refine z_xP zt154 11 32 [some (.ref 4), some (.int p1), some (.int p2), some (.int p3), some (.ref a8)] [.int (-1)] rfl rfl ?_
      have qm1 : (((-1) : Int32)).toInt = (-1) := rfl
      exact z_xri zt154 12 rfl zzr154 (kk (-1) M0 X (told _ (Or.inl ⟨rfl, by unfold z_wR; omega⟩)))
    refine z_xP zt48 2 6 [some (.ref a18), some (.int p2)] [.ref a18, .int p2] rfl rfl ?_
    refine z_xgI zt48 3 rfl zo48 zzf2_15 X k19 (by decide) (by decide) rfl (fun (x24 : Int32) h23 (h25 : (q12 : Int) ≤ x24.toInt) (h26 : x24.toInt ≤ (q12 : Int)) => ?_)
    have h27 := z_b32 p2
    refine z_xJ zt48 4 rfl rfl (fun (h28 : x24.toInt ≤ p2.toInt) => ?_) (fun (h28 : p2.toInt < x24.toInt) => ?_)
    · skip
      refine z_xP zt48 6 17 [some (.ref a18), some (.int p2)] [.int 0] rfl rfl ?_
      refine z_xrz zt48 7 rfl zzr48 (by decide) (by decide) ?_
      show z_ev (d + 4) 154 21 [some (.ref 4), some (.int p1), some (.int p2), some (.int p3), some (.ref a8)] [.int 0] M0 _
      refine z_xZ zt154 7 rfl rfl (fun (h29 : (0 : Int) = 0) => ?_) (fun (h29 : (0 : Int) ≠ 0) => absurd h29 (by omega))
      refine z_xP zt154 11 32 [some (.ref 4), some (.int p1), some (.int p2), some (.int p3), some (.ref a8)] [.int (-1)] rfl rfl ?_
      have qm1 : (((-1) : Int32)).toInt = (-1) := rfl
      exact z_xri zt154 12 rfl zzr154 (kk (-1) M0 X (told _ (Or.inl ⟨rfl, by unfold z_wR; omega⟩)))
    refine z_xP zt48 5 17 [some (.ref a18), some (.int p2)] [.int 1] rfl rfl ?_
    refine z_xrz zt48 7 rfl zzr48 (by decide) (by decide) ?_
    show z_ev (d + 4) 154 21 [some (.ref 4), some (.int p1), some (.int p2), some (.int p3), some (.ref a8)] [.int 1] M0 _
    refine z_xZ zt154 7 rfl rfl (fun (h30 : (1 : Int) = 0) => absurd h30 (by omega)) (fun (h30 : (1 : Int) ≠ 0) => ?_)
    refine z_xP zt154 8 25 [some (.ref 4), some (.int p1), some (.int p2), some (.int p3), some (.ref a8)] [.int p3] rfl rfl ?_
    refine z_xcS (vs := [.int p3]) (r := []) (L2 := [some (.int p3)]) zt154 9 rfl zo154 zzcS0_172 (Or.inl rfl) (Nat.le_of_ble_eq_true rfl) rfl rfl (Nat.le_of_ble_eq_true rfl) zzm64 (Nat.le_of_ble_eq_true rfl) rfl ?_
    refine z_xP zt64 0 1 [some (.int p3)] [.int p3] rfl rfl ?_
    refine z_xZ zt64 1 rfl rfl (fun (h31 : p3.toInt = 0) => ?_) (fun (h31 : p3.toInt ≠ 0) => ?_)
    · skip
      refine z_xP zt64 4 14 [some (.int p3)] [.int 1] rfl rfl ?_
      refine z_xrz zt64 6 rfl zzr64 (by decide) (by decide) ?_
      show z_ev (d + 4) 154 28 [some (.ref 4), some (.int p1), some (.int p2), some (.int p3), some (.ref a8)] [.int 1] M0 _
      refine z_xZ zt154 10 rfl rfl (fun (h32 : (1 : Int) ≠ 0) => ?_) (fun (h32 : (1 : Int) = 0) => absurd h32 (by omega))
      refine z_xP zt154 13 35 [some (.ref 4), some (.int p1), some (.int p2), some (.int p3), some (.ref a8)] [.ref a8] rfl rfl ?_
      refine z_xgv zt154 14 rfl zo154 zzf0_89 X k15 (by decide) h17 ?_
      refine z_xgv zt154 15 rfl zo154 zzf0_93 X k19 (by decide) h23 ?_
      refine z_xP zt154 16 43 [some (.ref 4), some (.int p1), some (.int p2), some (.int p3), some (.ref a8)] [.int 6, .int x24] rfl rfl ?_
      refine z_xJ zt154 17 rfl rfl (fun (h33 : x24.toInt ≤ 6) => ?_) (fun (h33 : 6 < x24.toInt) => ?_)
      · skip
        refine z_xP zt154 20 54 [some (.ref 4), some (.int p1), some (.int p2), some (.int p3), some (.ref a8)] [.int 1, .int p3, .int p2, .ref a8] rfl rfl ?_
        refine z_xJ zt154 21 rfl rfl (fun (h34 : p3.toInt ≠ 1) => ?_) (fun (h34 : p3.toInt = 1) => absurd h34 (by omega))
        refine z_xP zt154 23 62 [some (.ref 4), some (.int p1), some (.int p2), some (.int p3), some (.ref a8)] [.int 0, .int p2, .ref a8] rfl rfl ?_
        refine z_xcV (vs := [.ref a8, .int p2, .int 0]) (r := []) (L2 := [some (.ref a8), some (.int p2), some (.int 0), none, none, none]) zt154 24 rfl zo154 zzcV0_291 (Or.inl rfl) rfl X k15 rfl rfl rfl (Nat.le_of_ble_eq_true rfl) zzm155 (Nat.le_of_ble_eq_true rfl) rfl ?_
        have q0 : ((0 : Int32)).toInt = 0 := rfl
        have q0 : ((0 : Int32)).toInt = 0 := rfl
        refine zUC155 X.1 k15 (by omega) (by decide) hbk hTB.1.2.2.1 hTB.1.2.2.2.1 (by omega) (z_oYis (u := p2.toInt.toNat) hTB.2.2.2.2.2.2.2) (by omega) (fun x37 M35 X36 hxa => ?_)
        have X38 := X.go X36 (z_sb (by decide))
        show z_ev (d + 4) 154 65 [some (.ref 4), some (.int p1), some (.int p2), some (.int p3), some (.ref a8)] [.int x37] M35 _
        exact z_xri zt154 25 rfl zzr154 (kk x37 M35 X38 (told _ (Or.inr ⟨by unfold z_wR; omega, Or.inr ⟨by omega, (by first | exact hxa | (rw [show p3.toInt = ((0 : Int32)).toInt by omega]; exact hxa) | (rw [show p3.toInt = ((1 : Int32)).toInt by omega]; exact hxa))⟩⟩)))
      refine z_xP zt154 18 48 [some (.ref 4), some (.int p1), some (.int p2), some (.int p3), some (.ref a8)] [.int (-4)] rfl rfl ?_
      have qm4 : (((-4) : Int32)).toInt = (-4) := rfl
      exact z_xri zt154 19 rfl zzr154 (kk (-4) M0 X (told _ (Or.inr ⟨by unfold z_wR; omega, Or.inl ⟨rfl, by omega⟩⟩)))
    refine z_xP zt64 2 6 [some (.int p3)] [.int 1, .int p3] rfl rfl ?_
    refine z_xJ zt64 3 rfl rfl (fun (h40 : p3.toInt ≠ 1) => ?_) (fun (h40 : p3.toInt = 1) => ?_)
    · skip
      refine z_xP zt64 5 14 [some (.int p3)] [.int 0] rfl rfl ?_
      refine z_xrz zt64 6 rfl zzr64 (by decide) (by decide) ?_
      show z_ev (d + 4) 154 28 [some (.ref 4), some (.int p1), some (.int p2), some (.int p3), some (.ref a8)] [.int 0] M0 _
      refine z_xZ zt154 10 rfl rfl (fun (h41 : (0 : Int) ≠ 0) => absurd h41 (by omega)) (fun (h41 : (0 : Int) = 0) => ?_)
      refine z_xP zt154 11 32 [some (.ref 4), some (.int p1), some (.int p2), some (.int p3), some (.ref a8)] [.int (-1)] rfl rfl ?_
      have qm1 : (((-1) : Int32)).toInt = (-1) := rfl
      exact z_xri zt154 12 rfl zzr154 (kk (-1) M0 X (told _ (Or.inl ⟨rfl, by unfold z_wR; omega⟩)))
    refine z_xP zt64 4 14 [some (.int p3)] [.int 1] rfl rfl ?_
    refine z_xrz zt64 6 rfl zzr64 (by decide) (by decide) ?_
    show z_ev (d + 4) 154 28 [some (.ref 4), some (.int p1), some (.int p2), some (.int p3), some (.ref a8)] [.int 1] M0 _
    refine z_xZ zt154 10 rfl rfl (fun (h42 : (1 : Int) ≠ 0) => ?_) (fun (h42 : (1 : Int) = 0) => absurd h42 (by omega))
    refine z_xP zt154 13 35 [some (.ref 4), some (.int p1), some (.int p2), some (.int p3), some (.ref a8)] [.ref a8] rfl rfl ?_
    refine z_xgv zt154 14 rfl zo154 zzf0_89 X k15 (by decide) h17 ?_
    refine z_xgv zt154 15 rfl zo154 zzf0_93 X k19 (by decide) h23 ?_
    refine z_xP zt154 16 43 [some (.ref 4), some (.int p1), some (.int p2), some (.int p3), some (.ref a8)] [.int 6, .int x24] rfl rfl ?_
    refine z_xJ zt154 17 rfl rfl (fun (h43 : x24.toInt ≤ 6) => ?_) (fun (h43 : 6 < x24.toInt) => ?_)
    · skip
      refine z_xP zt154 20 54 [some (.ref 4), some (.int p1), some (.int p2), some (.int p3), some (.ref a8)] [.int 1, .int p3, .int p2, .ref a8] rfl rfl ?_
      refine z_xJ zt154 21 rfl rfl (fun (h44 : p3.toInt ≠ 1) => absurd h44 (by omega)) (fun (h44 : p3.toInt = 1) => ?_)
      refine z_xP zt154 22 62 [some (.ref 4), some (.int p1), some (.int p2), some (.int p3), some (.ref a8)] [.int 1, .int p2, .ref a8] rfl rfl ?_
      refine z_xcV (vs := [.ref a8, .int p2, .int 1]) (r := []) (L2 := [some (.ref a8), some (.int p2), some (.int 1), none, none, none]) zt154 24 rfl zo154 zzcV0_291 (Or.inl rfl) rfl X k15 rfl rfl rfl (Nat.le_of_ble_eq_true rfl) zzm155 (Nat.le_of_ble_eq_true rfl) rfl ?_
      have q1 : ((1 : Int32)).toInt = 1 := rfl
      have q1 : ((1 : Int32)).toInt = 1 := rfl
      refine zUC155 X.1 k15 (by omega) (by decide) hbk hTB.1.2.2.1 hTB.1.2.2.2.1 (by omega) (z_oYis (u := p2.toInt.toNat) hTB.2.2.2.2.2.2.2) (by omega) (fun x47 M45 X46 hxa => ?_)
      have X48 := X.go X46 (z_sb (by decide))
      show z_ev (d + 4) 154 65 [some (.ref 4), some (.int p1), some (.int p2), some (.int p3), some (.ref a8)] [.int x47] M45 _
      exact z_xri zt154 25 rfl zzr154 (kk x47 M45 X48 (told _ (Or.inr ⟨by unfold z_wR; omega, Or.inr ⟨by omega, (by first | exact hxa | (rw [show p3.toInt = ((0 : Int32)).toInt by omega]; exact hxa) | (rw [show p3.toInt = ((1 : Int32)).toInt by omega]; exact hxa))⟩⟩)))
    refine z_xP zt154 18 48 [some (.ref 4), some (.int p1), some (.int p2), some (.int p3), some (.ref a8)] [.int (-4)] rfl rfl ?_
    have qm4 : (((-4) : Int32)).toInt = (-4) := rfl
    exact z_xri zt154 19 rfl zzr154 (kk (-4) M0 X (told _ (Or.inr ⟨by unfold z_wR; omega, Or.inl ⟨rfl, by omega⟩⟩)))
  refine z_xP zt35 5 22 [some (.ref 4), some (.int p1)] [.null] rfl rfl ?_
  refine z_xrn zt35 10 rfl zzr35 ?_
  show z_ev (d + 4) 154 5 [some (.ref 4), some (.int p1), some (.int p2), some (.int p3), none] [.null] M0 _
  refine z_xP zt154 2 31 [some (.ref 4), some (.int p1), some (.int p2), some (.int p3), some (.null)] [] rfl rfl ?_
  refine z_xP zt154 11 32 [some (.ref 4), some (.int p1), some (.int p2), some (.int p3), some (.null)] [.int (-1)] rfl rfl ?_
  have qm1 : (((-1) : Int32)).toInt = (-1) := rfl
  exact z_xri zt154 12 rfl zzr154 (kk (-1) M0 X (z_cR0 (by unfold z_vQ; omega) rfl))
