/-! distances and leanings -/
def z_bi (x : Int32) (k : Nat) : Int := ((x.toInt.toNat / 2 ^ k % 2 : Nat) : Int)
theorem z_biB (x : Int32) (k : Nat) : 0 ≤ z_bi x k ∧ z_bi x k ≤ 1 := by
  unfold z_bi
  omega
theorem z_b1I {x k : Int32} (hx : 0 ≤ x.toInt) (hk : 0 ≤ k.toInt ∧ k.toInt < 31) : (z_b1L x k).toInt = z_bi x k.toInt.toNat := z_sbit rfl rfl hx hk
theorem z_bw {a b w : Int} (ha : 0 ≤ a ∧ a ≤ 1) (hb : 0 ≤ b ∧ b ≤ 1) (hw : 0 ≤ w ∧ w ≤ 9) : -9 ≤ (a - b) * w ∧ (a - b) * w ≤ 9 := by
  have h : a - b = -1 ∨ a - b = 0 ∨ a - b = 1 := by omega
  rcases h with h | h | h <;> rw [h] <;> constructor <;> omega
theorem z_bw1 {a w : Int} (ha : 0 ≤ a ∧ a ≤ 1) (hw : 0 ≤ w ∧ w ≤ 9) : 0 ≤ a * w ∧ a * w ≤ 9 := by
  have h : a = 0 ∨ a = 1 := by omega
  rcases h with h | h <;> rw [h] <;> constructor <;> omega
def z_okJ (w y n : Nat → Int32) (J : Nat) : Prop := ∀ j, j < J → (0 ≤ (w j).toInt ∧ (w j).toInt ≤ 9) ∧ (0 ≤ (y j).toInt ∧ (y j).toInt < 1024) ∧ (0 ≤ (n j).toInt ∧ (n j).toInt < 1024) ∧ (y j &&& n j).toInt = 0
def z_liN (w y n : Nat → Int32) (k : Nat) : Nat → Int
  | 0 => 0
  | j + 1 => z_liN w y n k j + (z_bi (y j) k - z_bi (n j) k) * (w j).toInt
def z_vi (f w : Nat → Int32) (k : Nat) : Nat → Int
  | 0 => 0
  | j + 1 => z_vi f w k j + z_bi (f j) k * (w j).toInt
section ZBR
variable {w y n f : Nat → Int32} {k s : Int32} {J : Nat}
theorem z_ljI (hk : 0 ≤ k.toInt ∧ k.toInt < 31) : ∀ J : Nat, J ≤ 9 → z_okJ w y n J → (z_lj w y n k J).toInt = z_liN w y n k.toInt.toNat J ∧ -(9 * (J : Int)) ≤ z_liN w y n k.toInt.toNat J ∧ z_liN w y n k.toInt.toNat J ≤ 9 * (J : Int)
  | 0, _, _ => by
    have e : z_liN w y n k.toInt.toNat 0 = 0 := rfl
    exact ⟨rfl, by omega, by omega⟩
  | m + 1, hJ, ok => by
    obtain ⟨i1, i2, i3⟩ := z_ljI hk m (by omega) fun j hj => ok j (by omega)
    obtain ⟨hw, hy, hn, _⟩ := ok m (by omega)
    have b1 := z_biB (y m) k.toInt.toNat
    have b2 := z_biB (n m) k.toInt.toNat
    have e1 := z_pSub (z_b1I hy.1 hk) (z_b1I hn.1 hk) (by omega) (by omega)
    have b3 := z_bw b1 b2 hw
    have e2 := z_pMul e1 (y := w m) rfl (by omega) (by omega)
    have e3 := z_pAdd i1 e2 (by omega) (by omega)
    refine ⟨e3, ?_, ?_⟩
    · show _ ≤ z_liN w y n k.toInt.toNat m + (z_bi (y m) k.toInt.toNat - z_bi (n m) k.toInt.toNat) * (w m).toInt
      omega
    · show z_liN w y n k.toInt.toNat m + (z_bi (y m) k.toInt.toNat - z_bi (n m) k.toInt.toNat) * (w m).toInt ≤ _
      omega
theorem z_vsI (hk : 0 ≤ k.toInt ∧ k.toInt < 31) : ∀ J : Nat, J ≤ 9 → (∀ j, j < J → (0 ≤ (w j).toInt ∧ (w j).toInt ≤ 9) ∧ 0 ≤ (f j).toInt) → (z_vs f w k J).toInt = z_vi f w k.toInt.toNat J ∧ 0 ≤ z_vi f w k.toInt.toNat J ∧ z_vi f w k.toInt.toNat J ≤ 9 * (J : Int)
  | 0, _, _ => by
    have e : z_vi f w k.toInt.toNat 0 = 0 := rfl
    exact ⟨rfl, by omega, by omega⟩
  | m + 1, hJ, ok => by
    obtain ⟨i1, i2, i3⟩ := z_vsI hk m (by omega) fun j hj => ok j (by omega)
    obtain ⟨hw, hf⟩ := ok m (by omega)
    have b1 := z_biB (f m) k.toInt.toNat
    have b3 := z_bw1 b1 hw
    have e2 := z_pMul (z_b1I hf hk) (y := w m) rfl (by omega) (by omega)
    have e3 := z_pAdd i1 e2 (by omega) (by omega)
    refine ⟨e3, ?_, ?_⟩
    · show _ ≤ z_vi f w k.toInt.toNat m + z_bi (f m) k.toInt.toNat * (w m).toInt
      omega
    · show z_vi f w k.toInt.toNat m + z_bi (f m) k.toInt.toNat * (w m).toInt ≤ _
      omega
theorem z_liV (k : Nat) : ∀ J, z_liN w y n k J = z_vi y w k J - z_vi n w k J
  | 0 => rfl
  | m + 1 => by
    show z_liN w y n k m + (z_bi (y m) k - z_bi (n m) k) * (w m).toInt = (z_vi y w k m + z_bi (y m) k * (w m).toInt) - (z_vi n w k m + z_bi (n m) k * (w m).toInt)
    rw [z_liV k m, Int.sub_mul]
    omega
/-- the lean against the votes -/
theorem z_ljV (hk : 0 ≤ k.toInt ∧ k.toInt < 31) (hJ : J ≤ 9) (ok : z_okJ w y n J) : (z_lj w y n k J).toInt = (z_vs y w k J).toInt - (z_vs n w k J).toInt := by
  rw [(z_ljI hk J hJ ok).1, (z_vsI hk J hJ fun j hj => ⟨(ok j hj).1, (ok j hj).2.1.1⟩).1, (z_vsI hk J hJ fun j hj => ⟨(ok j hj).1, (ok j hj).2.2.1.1⟩).1]
  exact z_liV _ _
/-- sums over a set's questions -/
def z_sbi (g : Nat → Int) (s : Nat) : Nat → Int
  | 0 => 0
  | n + 1 => z_sbi g s n + (if s / 2 ^ n % 2 = 1 then g n else 0)
theorem z_sbiC {g g2 : Nat → Int} {s : Nat} : ∀ m, (∀ k, k < m → s / 2 ^ k % 2 = 1 → g k = g2 k) → z_sbi g s m = z_sbi g2 s m
  | 0, _ => rfl
  | m + 1, h => by
    show z_sbi g s m + (if s / 2 ^ m % 2 = 1 then g m else 0) = z_sbi g2 s m + (if s / 2 ^ m % 2 = 1 then g2 m else 0)
    rw [z_sbiC m fun k hk => h k (by omega)]
    by_cases c : s / 2 ^ m % 2 = 1
    · rw [if_pos c, if_pos c, h m (by omega) c]
    · rw [if_neg c, if_neg c]
theorem z_sbiL {a b : Nat → Int} {c : Int} {s : Nat} : ∀ m, z_sbi (fun k => a k + b k * c) s m = z_sbi a s m + z_sbi b s m * c
  | 0 => by
    show (0 : Int) = 0 + 0 * c
    rw [Int.zero_mul]
    rfl
  | m + 1 => by
    show z_sbi (fun k => a k + b k * c) s m + (if s / 2 ^ m % 2 = 1 then a m + b m * c else 0) = (z_sbi a s m + (if s / 2 ^ m % 2 = 1 then a m else 0)) + (z_sbi b s m + (if s / 2 ^ m % 2 = 1 then b m else 0)) * c
    rw [z_sbiL m, Int.add_mul]
    by_cases d : s / 2 ^ m % 2 = 1
    · rw [if_pos d, if_pos d, if_pos d]
      omega
    · rw [if_neg d, if_neg d, if_neg d, Int.zero_mul]
      omega
theorem z_sbI {s : Nat} : ∀ m : Nat, m ≤ 10 → (∀ k, k < m → s / 2 ^ k % 2 = 1 → -81 ≤ (f k).toInt ∧ (f k).toInt ≤ 81) → (z_sbL f s m).toInt = z_sbi (fun k => (f k).toInt) s m ∧ -(81 * (m : Int)) ≤ (z_sbL f s m).toInt ∧ (z_sbL f s m).toInt ≤ 81 * (m : Int)
  | 0, _, _ => by
    have e : (z_sbL f s 0).toInt = 0 := rfl
    exact ⟨rfl, by omega, by omega⟩
  | m + 1, hm, h => by
    obtain ⟨i1, i2, i3⟩ := z_sbI m (by omega) fun k hk => h k (by omega)
    show (z_sbL f s m + (if s / 2 ^ m % 2 = 1 then f m else 0)).toInt = z_sbi (fun k => (f k).toInt) s m + (if s / 2 ^ m % 2 = 1 then (f m).toInt else 0) ∧ _ ≤ (z_sbL f s m + (if s / 2 ^ m % 2 = 1 then f m else 0)).toInt ∧ (z_sbL f s m + (if s / 2 ^ m % 2 = 1 then f m else 0)).toInt ≤ _
    by_cases c : s / 2 ^ m % 2 = 1
    · have b := h m (by omega) c
      have e := z_pAdd (x := z_sbL f s m) (y := f m) rfl rfl (by omega) (by omega)
      rw [if_pos c, if_pos c, e]
      exact ⟨by omega, by omega, by omega⟩
    · rw [if_neg c, if_neg c, Int32.add_zero]
      exact ⟨by omega, by omega, by omega⟩
/-- one judge's distance -/
theorem z_ofN : ∀ k, k < 33 → (Int32.ofNat k).toInt = (k : Int) := by decide +kernel
theorem z_Wb {y n s W : Int32} (hy : 0 ≤ y.toInt ∧ y.toInt < 1024) (hn : 0 ≤ n.toInt ∧ n.toInt < 1024) (hs : 0 ≤ s.toInt ∧ s.toInt < 1024) (hW : W = (y &&& (s ^^^ (-1))) ||| (n &&& s)) : (0 ≤ W.toInt ∧ W.toInt < 1024) ∧ ∀ i, i < 10 → (W.toInt.toNat / 2 ^ i % 2 = 1 ↔ (y.toInt.toNat / 2 ^ i % 2 = 1 ∧ ¬ s.toInt.toNat / 2 ^ i % 2 = 1) ∨ (n.toInt.toNat / 2 ^ i % 2 = 1 ∧ s.toInt.toNat / 2 ^ i % 2 = 1)) := by
  have h1 := z_nn hy.1
  have h2 := z_nn hn.1
  have h3 := z_nn hs.1
  have h4 : W.toBitVec.toNat < 2 ^ 10 := by
    rw [hW, Int32.toBitVec_or, BitVec.toNat_or, Int32.toBitVec_and, BitVec.toNat_and, Int32.toBitVec_and, BitVec.toNat_and]
    exact Nat.or_lt_two_pow (Nat.lt_of_le_of_lt Nat.and_le_left (by omega)) (Nat.lt_of_le_of_lt Nat.and_le_left (by omega))
  have h5 : W.toInt = (W.toBitVec.toNat : Int) := BitVec.toInt_eq_toNat_of_lt (by omega)
  have h0 : 0 ≤ W.toInt ∧ W.toInt < 1024 := ⟨by omega, by omega⟩
  have hm : ((-1 : Int32)).toBitVec = BitVec.allOnes 32 := by decide
  refine ⟨h0, fun i hi => ?_⟩
  have hi2 : i < 32 := by omega
  rw [← z_bt32 h0.1, ← z_bt32 hy.1, ← z_bt32 hn.1, ← z_bt32 hs.1, hW, Int32.toBitVec_or, BitVec.getLsbD_or, Int32.toBitVec_and, BitVec.getLsbD_and, Int32.toBitVec_and, BitVec.getLsbD_and, Int32.toBitVec_xor, BitVec.getLsbD_xor, hm, BitVec.getLsbD_allOnes]
  rw [decide_eq_true hi2]
  cases y.toBitVec.getLsbD i <;> cases n.toBitVec.getLsbD i <;> cases s.toBitVec.getLsbD i <;> decide
def z_pop (y n s : Int32) : Int := ((z_cp ((y &&& (s ^^^ (-1))) ||| (n &&& s)).toInt.toNat 32 : Nat) : Int)
theorem z_popE {y n : Int32} (hy : 0 ≤ y.toInt ∧ y.toInt < 1024) (hn : 0 ≤ n.toInt ∧ n.toInt < 1024) (hs : 0 ≤ s.toInt ∧ s.toInt < 1024) : z_pop y n s = ((z_cp y.toInt.toNat 10 : Nat) : Int) - z_sbi (fun k => z_bi y k - z_bi n k) s.toInt.toNat 10 := by
  obtain ⟨hW, hb⟩ := z_Wb (W := (y &&& (s ^^^ (-1))) ||| (n &&& s)) hy hn hs rfl
  unfold z_pop
  generalize (y &&& (s ^^^ (-1))) ||| (n &&& s) = W at *
  rw [show (32 : Nat) = 10 + 22 from rfl, z_cp_hi (by omega)]
  have key : ∀ i, i ≤ 10 → ((z_cp W.toInt.toNat i : Nat) : Int) = ((z_cp y.toInt.toNat i : Nat) : Int) - z_sbi (fun k => z_bi y k - z_bi n k) s.toInt.toNat i := fun i => by
    induction i with
    | zero => exact fun _ => rfl
    | succ i ih =>
      intro hi
      have h1 := ih (by omega)
      have h2 := hb i (by omega)
      show ((z_cp W.toInt.toNat i + W.toInt.toNat / 2 ^ i % 2 : Nat) : Int) = ((z_cp y.toInt.toNat i + y.toInt.toNat / 2 ^ i % 2 : Nat) : Int) - (z_sbi (fun k => z_bi y k - z_bi n k) s.toInt.toNat i + (if s.toInt.toNat / 2 ^ i % 2 = 1 then z_bi y i - z_bi n i else 0))
      unfold z_bi
      have m1 := z_m2c (W.toInt.toNat / 2 ^ i)
      have m2 := z_m2c (y.toInt.toNat / 2 ^ i)
      have m3 := z_m2c (n.toInt.toNat / 2 ^ i)
      generalize W.toInt.toNat / 2 ^ i % 2 = a at *
      generalize y.toInt.toNat / 2 ^ i % 2 = b at *
      generalize n.toInt.toNat / 2 ^ i % 2 = c at *
      by_cases d : s.toInt.toNat / 2 ^ i % 2 = 1
      · rw [if_pos d]
        have h3 : a = 1 ↔ c = 1 := ⟨fun e => (h2.mp e).elim (fun x => absurd d x.2) fun x => x.1, fun e => h2.mpr (Or.inr ⟨e, d⟩)⟩
        have h4 : a = c := by omega
        unfold z_bi at h1
        omega
      · rw [if_neg d]
        have h3 : a = 1 ↔ b = 1 := ⟨fun e => (h2.mp e).elim (fun x => x.1) fun x => absurd x.2 d, fun e => h2.mpr (Or.inl ⟨e, d⟩)⟩
        have h4 : a = b := by omega
        unfold z_bi at h1
        omega
  exact key 10 (Nat.le_refl 10)
def z_di (w y n : Nat → Int32) (s : Int32) : Nat → Int
  | 0 => 0
  | j + 1 => z_di w y n s j + (w j).toInt * z_pop (y j) (n j) s
theorem z_dsI : ∀ J : Nat, J ≤ 9 → (∀ j, j < J → 0 ≤ (w j).toInt ∧ (w j).toInt ≤ 9) → (z_ds w y n s J).toInt = z_di w y n s J ∧ 0 ≤ z_di w y n s J ∧ z_di w y n s J ≤ 288 * (J : Int)
  | 0, _, _ => by
    have e : z_di w y n s 0 = 0 := rfl
    exact ⟨rfl, by omega, by omega⟩
  | m + 1, hJ, ok => by
    obtain ⟨i1, i2, i3⟩ := z_dsI m (by omega) fun j hj => ok j (by omega)
    have hw := ok m (by omega)
    have hc := z_cp_len ((y m &&& (s ^^^ (-1))) ||| (n m &&& s)).toInt.toNat 32
    have e1 : (z_cc ((y m &&& (s ^^^ (-1))) ||| (n m &&& s))).toInt = z_pop (y m) (n m) s := z_ofN _ (by omega)
    have p0 : 0 ≤ z_pop (y m) (n m) s ∧ z_pop (y m) (n m) s ≤ 32 := by
      unfold z_pop
      omega
    have e2 := z_pMulB (a := 9) (b := 32) (c := 288) (x := w m) rfl e1 hw.1 hw.2 p0.1 p0.2 (by decide) (by decide)
    obtain ⟨e2, e4, e5⟩ := e2
    rw [e2] at e4 e5
    have e3 := z_pAdd i1 e2 (by omega) (by omega)
    refine ⟨e3, ?_, ?_⟩
    · show _ ≤ z_di w y n s m + (w m).toInt * z_pop (y m) (n m) s
      omega
    · show z_di w y n s m + (w m).toInt * z_pop (y m) (n m) s ≤ _
      omega
def z_tot0 (w y : Nat → Int32) : Nat → Int
  | 0 => 0
  | j + 1 => z_tot0 w y j + (w j).toInt * ((z_cp (y j).toInt.toNat 10 : Nat) : Int)
theorem z_diE (hs : 0 ≤ s.toInt ∧ s.toInt < 1024) : ∀ J, z_okJ w y n J → z_di w y n s J = z_tot0 w y J - z_sbi (fun k => z_liN w y n k J) s.toInt.toNat 10
  | 0, _ => by
    show (0 : Int) = 0 - z_sbi (fun _ => 0) s.toInt.toNat 10
    have h : ∀ m, z_sbi (fun _ => (0 : Int)) s.toInt.toNat m = 0 := fun m => by
      induction m with
      | zero => rfl
      | succ m ih =>
        show z_sbi (fun _ => (0 : Int)) s.toInt.toNat m + (if s.toInt.toNat / 2 ^ m % 2 = 1 then 0 else 0) = 0
        rw [ih]
        by_cases c : s.toInt.toNat / 2 ^ m % 2 = 1
        · rw [if_pos c]; rfl
        · rw [if_neg c]; rfl
    rw [h]
    rfl
  | m + 1, ok => by
    obtain ⟨hw, hy, hn, _⟩ := ok m (by omega)
    have ih := z_diE hs m fun j hj => ok j (by omega)
    have hp := z_popE hy hn hs
    have hl := z_sbiL (a := fun k => z_liN w y n k m) (b := fun k => z_bi (y m) k - z_bi (n m) k) (c := (w m).toInt) (s := s.toInt.toNat) 10
    show z_di w y n s m + (w m).toInt * z_pop (y m) (n m) s = (z_tot0 w y m + (w m).toInt * ((z_cp (y m).toInt.toNat 10 : Nat) : Int)) - z_sbi (fun k => z_liN w y n k m + (z_bi (y m) k - z_bi (n m) k) * (w m).toInt) s.toInt.toNat 10
    rw [hl, ih, hp, Int.mul_sub, Int.mul_comm (z_sbi (fun k => z_bi (y m) k - z_bi (n m) k) s.toInt.toNat 10)]
    omega
/-- the farther, the less it leans so -/
theorem z_farL {LA : Nat → Int32} {q : Nat} (hs : 0 ≤ s.toInt ∧ s.toInt < ((2 ^ q : Nat) : Int)) (q10 : q ≤ 10) (hJ : J ≤ 9) (ok : z_okJ w y n J) (hL : ∀ k : Int32, 0 ≤ k.toInt → k.toInt < (q : Int) → LA k.toNatClampNeg = z_lj w y n k J) : (z_ds w y n s J).toInt = z_tot0 w y J - (z_sbL LA s.toInt.toNat 10).toInt := by
  have hP : 2 ^ q ≤ 1024 := Nat.pow_le_pow_right (n := 2) (by decide) q10
  have hb : ∀ k, k < 10 → s.toInt.toNat / 2 ^ k % 2 = 1 → k < q := fun k _ h => by
    by_cases c : k < q
    · exact c
    · have h3 : 2 ^ q ≤ 2 ^ k := Nat.pow_le_pow_right (n := 2) (by decide) (by omega)
      rw [Nat.div_eq_of_lt (by generalize 2 ^ q = P at *; omega)] at h
      cases h
  have hl : ∀ k, k < 10 → s.toInt.toNat / 2 ^ k % 2 = 1 → (LA k).toInt = z_liN w y n k J ∧ -81 ≤ (LA k).toInt ∧ (LA k).toInt ≤ 81 := fun k hk h => by
    have h1 := hb k hk h
    have e := z_ofN k (by omega)
    have h2 := hL (Int32.ofNat k) (by omega) (by omega)
    have h3 : (Int32.ofNat k).toNatClampNeg = k := by
      show (Int32.ofNat k).toInt.toNat = k
      omega
    rw [h3] at h2
    have h4 := z_ljI (k := Int32.ofNat k) (by omega) J hJ ok
    rw [← h2, show (Int32.ofNat k).toInt.toNat = k by omega] at h4
    exact ⟨h4.1, by omega, by omega⟩
  rw [(z_dsI J hJ fun j hj => (ok j hj).1).1, z_diE (by generalize 2 ^ q = P at *; omega) J ok, (z_sbI 10 (Nat.le_refl 10) fun k hk h => (hl k hk h).2).1, z_sbiC 10 fun k hk h => (hl k hk h).1]
end ZBR
