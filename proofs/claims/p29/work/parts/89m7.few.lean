/-! mend: the kept sets of an agenda without some ties, listed -/
theorem z_ntF {N k m : Nat} (e : N = 2 ^ (k + 1) * m + 2 ^ k) : N % 2 ^ k = 0 ∧ N / 2 ^ k % 2 = 1 := by
  have hP : 0 < 2 ^ k := Nat.two_pow_pos k
  have e2 : N = 2 ^ k * (2 * m + 1) := by
    rw [Nat.mul_add, Nat.mul_one, ← Nat.mul_assoc, ← Nat.pow_succ]
    exact e
  rw [e2, Nat.mul_mod_right, Nat.mul_div_cancel_left _ hP]
  exact ⟨rfl, by omega⟩
theorem z_ntLo {Y k m : Nat} (hk : k ≤ 31) (e : Y % 4294967296 = 2 ^ (k + 1) * m + 2 ^ k) : ∃ m, Y = 2 ^ (k + 1) * m + 2 ^ k := by
  refine ⟨2 ^ (31 - k) * (Y / 4294967296) + m, ?_⟩
  have h1 : 2 ^ (k + 1) * 2 ^ (31 - k) = 4294967296 := (Nat.pow_add 2 (k + 1) (31 - k)).symm.trans (congrArg (fun e => 2 ^ e) (show k + 1 + (31 - k) = 32 by omega))
  rw [Nat.mul_add, ← Nat.mul_assoc, h1]
  generalize 2 ^ (k + 1) * m = A at *
  generalize 2 ^ k = C at *
  omega
theorem z_ntHi {Y k m : Nat} (h0 : Y % 4294967296 = 0) (e : Y / 4294967296 = 2 ^ (k + 1) * m + 2 ^ k) : ∃ m, Y = 2 ^ (32 + k + 1) * m + 2 ^ (32 + k) := by
  refine ⟨m, ?_⟩
  have h1 : Y = 4294967296 * (Y / 4294967296) := by omega
  have h2 : 2 ^ (32 + k) = 4294967296 * 2 ^ k := Nat.pow_add 2 32 k
  have h3 : 2 ^ (32 + k + 1) = 4294967296 * 2 ^ (k + 1) := Nat.pow_add 2 32 (k + 1)
  rw [h3, h2, Nat.mul_assoc, ← Nat.mul_add, ← e]
  exact h1
theorem zX71b {d : Nat} {x : Int32} {M : zH} {K : Option Value → zH → Prop} (hx : x.toInt ≠ 0) (kk : ∀ r : Int32, 0 ≤ r.toInt → r.toInt ≤ 31 → (∃ m, x.toBitVec.toNat = 2 ^ (r.toInt.toNat + 1) * m + 2 ^ r.toInt.toNat) → K (some (.int r)) M) : z_ev d 71 0 [some (.int x), none] [] M K := by
  have hl := x.toBitVec.isLt
  have hz : x.toBitVec.toNat ≠ 0 := fun z => hx (by
    have h1 : x.toInt = x.toBitVec.toInt := rfl
    rw [h1, BitVec.toInt_eq_toNat_cond, z]; rfl)
  obtain ⟨k, m, hk, e⟩ := z_low1 32 _ hl (by omega)
  refine z_nt7 ?_
  rw [z_ntb hk e]
  have h := z_ntd k hk
  unfold z_ntc at h
  split at h
  · rename_i r hr
    have h2 := of_decide_eq_true h
    refine z_prx _ _ _ _ _ hr (kk r (by omega) (by omega) ⟨m, ?_⟩)
    rw [show r.toInt.toNat = k by omega]
    exact e
  · cases h
/-- Long.numberOfTrailingZeros, told -/
theorem zX150 {d : Nat} {y : Int64} {M : zH} {K : Option Value → zH → Prop} (hy : y.toInt ≠ 0) (kk : ∀ r : Int32, 0 ≤ r.toInt → r.toInt ≤ 63 → (∃ m, y.toBitVec.toNat = 2 ^ (r.toInt.toNat + 1) * m + 2 ^ r.toInt.toNat) → K (some (.int r)) M) : z_ev (d + 1) 150 0 [some (.long y), none, none] [] M K := by
  refine z_e1 (pc1 := 1) (L1 := [some (.long y), none, none]) (S1 := [.long y]) (show decode (z_b 150) 0 = .ok (.lload_n 0, 1) from by decide +kernel) rfl rfl rfl ?_
  refine z_e1 (pc1 := 2) (L1 := [some (.long y), none, none]) (S1 := [.int y.toInt32]) (show decode (z_b 150) 1 = .ok (.l2i, 1) from by decide +kernel) rfl rfl rfl ?_
  refine z_e1 (pc1 := 3) (L1 := [some (.long y), none, some (.int y.toInt32)]) (S1 := []) (show decode (z_b 150) 2 = .ok (.istore_n 2, 1) from by decide +kernel) rfl rfl rfl ?_
  refine z_e1 (pc1 := 4) (L1 := [some (.long y), none, some (.int y.toInt32)]) (S1 := [.int y.toInt32]) (show decode (z_b 150) 3 = .ok (.iload_n 2, 1) from by decide +kernel) rfl rfl rfl ?_
  have hd : decode (z_b 150) 4 = .ok (.ifCond .ne 17, 3) := by decide +kernel
  have hq : (z_find z_cS (z_oc 150) 311).map (·.1) = some (0, 1, [(0, 71)]) := by decide +kernel
  rcases @z_cmb .ne y.toInt32 0 21 (4 + 3) with ⟨h1, h2⟩ | ⟨h1, h2⟩
  · refine z_ez hd rfl h2 ?_
    refine z_e1 (pc1 := 22) (L1 := [some (.long y), none, some (.int y.toInt32)]) (S1 := [.int y.toInt32]) (show decode (z_b 150) 21 = .ok (.iload_n 2, 1) from by decide +kernel) rfl rfl rfl ?_
    refine z_ecS (vs := [.int y.toInt32]) (r := []) (L2 := [some (.int y.toInt32), none]) (show decode (z_b 150) 22 = .ok (.invokestatic 311, 3) from by decide +kernel) hq (Or.inl rfl) (Nat.le_of_ble_eq_true rfl) rfl rfl (Nat.le_of_ble_eq_true rfl) (show z_ml 71 = 2 from by decide +kernel) (Nat.le_of_ble_eq_true rfl) rfl ?_
    refine zX71b (show y.toInt32.toInt ≠ 0 from h1) fun r l u ⟨m, e⟩ => ?_
    rw [z_l32a] at e
    exact z_eri (show decode (z_b 150) 25 = .ok (.ireturn, 1) from by decide +kernel) (show z_rt 150 = some .int from by decide +kernel) (kk r l (by omega) (z_ntLo (by omega) e))
  · refine z_ez hd rfl h2 ?_
    refine z_e1 (pc1 := 9) (L1 := [some (.long y), none, some (.int y.toInt32)]) (S1 := [.int 32]) (show decode (z_b 150) 7 = .ok (.bipush 32, 2) from by decide +kernel) rfl rfl rfl ?_
    refine z_e1 (pc1 := 10) (L1 := [some (.long y), none, some (.int y.toInt32)]) (S1 := [.long y, .int 32]) (show decode (z_b 150) 9 = .ok (.lload_n 0, 1) from by decide +kernel) rfl rfl rfl ?_
    refine z_e1 (pc1 := 12) (L1 := [some (.long y), none, some (.int y.toInt32)]) (S1 := [.int 32, .long y, .int 32]) (show decode (z_b 150) 10 = .ok (.bipush 32, 2) from by decide +kernel) rfl rfl rfl ?_
    refine z_e1 (pc1 := 13) (L1 := [some (.long y), none, some (.int y.toInt32)]) (S1 := [.long ((y.toUInt64 >>> ((32 : Int32).toInt64.toUInt64 &&& Int64.toUInt64 63)).toInt64), .int 32]) (show decode (z_b 150) 12 = .ok (.lushr, 1) from by decide +kernel) rfl rfl rfl ?_
    refine z_e1 (pc1 := 14) (L1 := [some (.long y), none, some (.int y.toInt32)]) (S1 := [.int ((y.toUInt64 >>> ((32 : Int32).toInt64.toUInt64 &&& Int64.toUInt64 63)).toInt64).toInt32, .int 32]) (show decode (z_b 150) 13 = .ok (.l2i, 1) from by decide +kernel) rfl rfl rfl ?_
    refine z_ecS (vs := [.int ((y.toUInt64 >>> ((32 : Int32).toInt64.toUInt64 &&& Int64.toUInt64 63)).toInt64).toInt32]) (r := [.int 32]) (L2 := [some (.int ((y.toUInt64 >>> ((32 : Int32).toInt64.toUInt64 &&& Int64.toUInt64 63)).toInt64).toInt32), none]) (show decode (z_b 150) 14 = .ok (.invokestatic 311, 3) from by decide +kernel) hq (Or.inl rfl) (Nat.le_of_ble_eq_true rfl) rfl rfl (Nat.le_of_ble_eq_true rfl) (show z_ml 71 = 2 from by decide +kernel) (Nat.le_of_ble_eq_true rfl) rfl ?_
    refine zX71b (fun z => hy (z_l32 h1 z)) fun r l u ⟨m, e⟩ => ?_
    have hy64 := y.toBitVec.isLt
    have e0 : y.toBitVec.toNat % 4294967296 = 0 := by
      rw [← z_l32a]
      have h2 : y.toInt32 = 0 := z_sub (k := 0) (show y.toInt32.toInt = 0 from h1) rfl
      rw [h2]
      rfl
    rw [z_l32a, z_l32b, Nat.mod_eq_of_lt (show y.toBitVec.toNat / 4294967296 < 4294967296 by omega)] at e
    have h7 := z_ntHi e0 e
    show z_ev _ 150 17 _ [.int r, .int 32] M K
    refine z_e1 (pc1 := 18) (L1 := [some (.long y), none, some (.int y.toInt32)]) (S1 := [.int (32 + r)]) (show decode (z_b 150) 17 = .ok (.iadd, 1) from by decide +kernel) rfl rfl rfl ?_
    refine z_e1 (pc1 := 25) (L1 := [some (.long y), none, some (.int y.toInt32)]) (S1 := [.int (32 + r)]) (show decode (z_b 150) 18 = .ok (.goto 7, 3) from by decide +kernel) rfl rfl rfl ?_
    have h6 : (32 + r).toInt = 32 + r.toInt := z_pAdd (p := 32) rfl rfl (by omega) (by omega)
    exact z_eri (show decode (z_b 150) 25 = .ok (.ireturn, 1) from by decide +kernel) (show z_rt 150 = some .int from by decide +kernel) (kk _ (by omega) (by omega) (by rw [show (32 + r).toInt.toNat = 32 + r.toInt.toNat by omega]; exact h7))
def z_lfB (D : Nat → Nat) (b u : Nat) (x : Int64) : Prop := ∀ i, i < 64 → (x.toBitVec.getLsbD i = true ↔ u ≤ i ∧ D (64 * b + i) = 0)
def z_lfI (D : Nat → Nat) (b : Nat) (x : Int64) (k i : Int) (S : Nat → Int32) : Prop := ∃ u, u ≤ 64 ∧ z_lfB D b u x ∧ k = ((z_lc D (64 * b + u) : Nat) : Int) ∧ z_LS D (64 * b + u) S ∧ i ≤ k ∧ 0 ≤ i
theorem z_gbN (x : Int64) (i : Nat) : x.toBitVec.getLsbD i = true ↔ x.toBitVec.toNat / 2 ^ i % 2 = 1 := by
  show x.toBitVec.toNat.testBit i = true ↔ _
  rw [Nat.testBit_eq_decide_div_mod_eq, decide_eq_true_iff]
theorem z_lowZ {N v j : Nat} (h1 : N % 2 ^ v = 0) (hj : j < v) : N / 2 ^ j % 2 = 0 := by
  obtain ⟨k, hN⟩ : ∃ k, N = 2 ^ v * k := ⟨N / 2 ^ v, by
    have := Nat.div_add_mod N (2 ^ v)
    omega⟩
  have e1 : 2 ^ v = 2 ^ j * (2 * 2 ^ (v - j - 1)) := by
    rw [Nat.mul_comm 2, ← Nat.pow_succ, ← Nat.pow_add]
    congr 1
    omega
  rw [hN, e1, Nat.mul_assoc, Nat.mul_div_cancel_left _ (Nat.pow_pos (by decide)), Nat.mul_assoc]
  exact Nat.mul_mod_right 2 _
section ZFEW
variable {D : Nat → Nat} {N n u b : Nat} {S S1 : Nat → Int32}
theorem z_lsE (h : z_LS D n S) (hl : z_lc D N ≤ z_lc D n) : z_LS D N S := fun s hs h0 => h s (z_lcE hl hs h0) h0
theorem z_lsU {k : Nat} {w : Int32} (h : z_LS D n S) (hk : k = z_lc D n) (hu : S1 = upd S k w) (hw : w.toInt = (n : Int)) : z_LS D (n + 1) S1 := fun s hs h0 => by
  rw [hu]
  show (if z_lc D s = k then w else S (z_lc D s)).toInt = _
  by_cases c : s = n
  · rw [c, if_pos hk.symm, hw]
  · have h1 := z_lc_lt D (show s < n by omega) h0
    rw [if_neg (by omega)]
    exact h s (by omega) h0
theorem z_lcP : ∀ j, (∀ i, i < j → D (n + i) ≠ 0) → z_lc D (n + j) = z_lc D n
  | 0, _ => rfl
  | j + 1, h => (z_lcN (h j (Nat.lt_succ_self j))).trans (z_lcP j fun i hi => h i (by omega))
theorem z_lfB0 {q bl : Nat} {l : Nat → Int64} {x : Int64} (h : z_lwb D q bl l) (hD : ∀ s, D s = 0 → s < 2 ^ q) (hb : b < bl) (hx : l b = x) : z_lfB D b 0 x := fun i hi => by
  have h1 := h (64 * b + i) (by omega)
  rw [show (64 * b + i) / 64 = b by omega, show (64 * b + i) % 64 = i by omega, hx] at h1
  rw [h1]
  exact ⟨fun a => ⟨Nat.zero_le i, a.2⟩, fun a => ⟨hD _ a.2, a.2⟩⟩
theorem z_lfI0 {q bl : Nat} {l : Nat → Int64} {x : Int64} {k : Int} (h : z_lwb D q bl l) (hD : ∀ s, D s = 0 → s < 2 ^ q) (hb : b < bl) (hx : l b = x) (hk : k = ((z_lc D (64 * b) : Nat) : Int)) (hS : z_LS D (64 * b) S) : z_lfI D b x k 0 S := ⟨0, by omega, z_lfB0 h hD hb hx, hk, hS, by omega, by omega⟩
theorem z_lfS {x x1 xn : Int64} {k i k2 i2 : Int} {r w : Int32} (h : z_lfI D b x k i S) (hr : ∃ m, x.toBitVec.toNat = 2 ^ (r.toInt.toNat + 1) * m + 2 ^ r.toInt.toNat) (r0 : 0 ≤ r.toInt) (r63 : r.toInt ≤ 63) (h1 : x1 = x - 1) (h2 : xn = x &&& x1) (hw : w.toInt = 64 * (b : Int) + r.toInt) (hu : S1 = upd S k.toNat w) (hk : k2 = k + 1) (hi : i2 = i + 1) : z_lfI D b xn k2 i2 S1 := by
  obtain ⟨u, u64, hB, ek, hS, hi1, hi0⟩ := h
  obtain ⟨m, e⟩ := hr
  obtain ⟨n1, n2⟩ := z_ntF e
  have hv63 : r.toInt.toNat < 64 := by omega
  have er : r.toInt = ((r.toInt.toNat : Nat) : Int) := by omega
  generalize r.toInt.toNat = v at *
  have hv := (hB v hv63).mp ((z_gbN x v).mpr n2)
  have e3 : z_lc D (64 * b + v) = z_lc D (64 * b + u) := by
    have h3 := z_lcP (D := D) (n := 64 * b + u) (v - u) fun i hi h0 => by
      have h4 := (z_gbN x (u + i)).mp ((hB (u + i) (by omega)).mpr ⟨Nat.le_add_right u i, by rw [← Nat.add_assoc]; exact h0⟩)
      rw [z_lowZ n1 (show u + i < v by omega)] at h4
      cases h4
    rw [show 64 * b + u + (v - u) = 64 * b + v by omega] at h3
    exact h3
  have hx0 : x.toBitVec.toNat ≠ 0 := fun z => by
    rw [z, Nat.zero_div] at n2
    cases n2
  have hx64 := x.toBitVec.isLt
  have hs : (x - 1).toBitVec.toNat = x.toBitVec.toNat - 1 := by
    rw [Int64.toBitVec_sub, BitVec.toNat_sub]
    show (2 ^ 64 - 1 + x.toBitVec.toNat) % 2 ^ 64 = _
    omega
  have e4 : z_lc D (64 * b + (v + 1)) = z_lc D (64 * b + v) + 1 := z_lc1 hv.2
  refine ⟨v + 1, by omega, fun i hi2 => ?_, by omega, z_lsU (n := 64 * b + v) (z_lsE hS (Nat.le_of_eq e3)) (by omega) hu (by omega), by omega, by omega⟩
  have h5 := z_lowN n1 n2 i
  rw [h2, h1, Int64.toBitVec_and, BitVec.getLsbD_and, Bool.and_eq_true, z_gbN, z_gbN, hs, h5, ← z_gbN, hB i hi2]
  refine ⟨fun a => ⟨?_, a.1.2⟩, fun a => ⟨⟨by omega, a.2⟩, by omega⟩⟩
  by_cases c : v < i
  · omega
  · have h6 := (z_gbN x i).mp ((hB i hi2).mpr a.1)
    rw [z_lowZ n1 (show i < v by omega)] at h6
    cases h6
theorem z_lfE {x : Int64} {k i : Int} (h : z_lfI D b x k i S) (hx : 12 ≤ i ∨ x.toInt = 0 ∨ 12 ≤ k) (h12 : z_lc D (64 * (b + 1)) ≤ 12) : k = ((z_lc D (64 * (b + 1)) : Nat) : Int) ∧ z_LS D (64 * (b + 1)) S := by
  obtain ⟨u, u64, hB, ek, hS, hi1, hi0⟩ := h
  have hm := z_lc_mono D (64 * b + u) (64 * (b + 1)) (by omega)
  have key : z_lc D (64 * (b + 1)) ≤ z_lc D (64 * b + u) := by
    rcases hx with h1 | h1 | h1
    · omega
    · have x0 : x = 0 := Int64.toInt_inj.mp (h1.trans rfl)
      have h2 := z_lcP (D := D) (n := 64 * b + u) (64 - u) fun i hi h0 => by
        have h3 := (hB (u + i) (by omega)).mpr ⟨Nat.le_add_right u i, by rw [← Nat.add_assoc]; exact h0⟩
        rw [x0, z_nobit (u + i) (by omega)] at h3
        cases h3
      rw [show 64 * b + u + (64 - u) = 64 * (b + 1) by omega] at h2
      omega
    · omega
  exact ⟨by omega, z_lsE hS key⟩
theorem z_lcQ {q bl : Nat} (hD : ∀ s, D s = 0 → s < 2 ^ q) (hq : 2 ^ q ≤ 64 * bl) : z_lc D (64 * bl) = z_lc D (2 ^ q) := by
  have h := z_lcP (D := D) (n := 2 ^ q) (64 * bl - 2 ^ q) fun i _ h0 => by
    have := hD _ h0
    omega
  rw [show 2 ^ q + (64 * bl - 2 ^ q) = 64 * bl by omega] at h
  exact h
theorem z_lsQ {q bl : Nat} (hq : 2 ^ q ≤ 64 * bl) (h : z_LS D (64 * bl) S) : z_LS D (2 ^ q) S := fun s hs h0 => h s (by omega) h0
end ZFEW
