/-! methods of numbers alone, run as they stand -/
def z_pr : Nat → Nat → Nat → zL → zS → Option (Option Value)
  | 0, _, _, _, _ => none
  | n + 1, j, pc, L, S => match decode (z_b j) pc with
    | .error _ => none
    | .ok (i, len) => if len = z_len i len then
        match z_end j i S with
        | some r => some r
        | none => match z_s1 i pc L S with
          | some (pc1, L1, S1) => z_pr n j pc1 L1 S1
          | none => match i with
            | .ldc_w k => match (z_find z_ld (z_oc j) k).map (·.1) with
              | some y => z_pr n j (pc + 3) L (.int y :: S)
              | none => none
            | _ => none
      else none
theorem z_prx {d j : Nat} {M : zH} {K : Option Value → zH → Prop} : ∀ (n pc : Nat) (L : zL) (S : zS) (v : Option Value), z_pr n j pc L S = some v → K v M → z_ev d j pc L S M K
  | 0, pc, L, S, v, h, k => by cases h
  | n + 1, pc, L, S, v, h, k => by
    rw [z_pr] at h
    split at h
    · cases h
    · rename_i i len hd
      split at h
      · rename_i hl
        split at h
        · rename_i r he
          cases h
          exact z_eend hd hl he k
        · rename_i he
          split at h
          · rename_i pc1 L1 S1 hs
            exact z_e1 hd hl he hs (z_prx n pc1 L1 S1 v h k)
          · split at h
            · split at h
              · rename_i y hy
                have hl3 : len = 3 := hl
                subst hl3
                exact z_eldw hd hy (z_prx n (pc + 3) L (.int y :: S) v h k)
              · cases h
            · cases h
      · cases h
/-- the lowest one bit: ~x & (x - 1) is 2 ^ k - 1 -/
theorem z_low1 : ∀ (n x : Nat), x < 2 ^ n → 0 < x → ∃ k m, k < n ∧ x = 2 ^ (k + 1) * m + 2 ^ k
  | 0, x, h, h0 => by omega
  | n + 1, x, h, h0 => by
    by_cases e : x % 2 = 1
    · exact ⟨0, x / 2, by omega, by omega⟩
    · obtain ⟨k, m, h1, h2⟩ := z_low1 n (x / 2) (by rw [Nat.pow_succ] at h; omega) (by omega)
      refine ⟨k + 1, m, by omega, ?_⟩
      have e2 : x = 2 * (x / 2) := by omega
      rw [e2, h2, Nat.pow_succ 2 (k + 1), Nat.pow_succ 2 k]
      rw [Nat.mul_add, ← Nat.mul_assoc]
      congr 1
      · congr 1
        omega
      · omega
theorem z_low2 {x k m : Nat} (hk : k < 32) (hx : x < 2 ^ 32) (e : x = 2 ^ (k + 1) * m + 2 ^ k) : (2 ^ 32 - (x + 1)) &&& (x - 1) = 2 ^ k - 1 := by
  have p0 : 0 < 2 ^ k := Nat.two_pow_pos k
  have p1 : (2 : Nat) ^ (k + 1) = 2 ^ k + 2 ^ k := by rw [Nat.pow_succ]; omega
  have e1 : x - 1 = 2 ^ (k + 1) * m + (2 ^ k - 1) := by omega
  apply Nat.eq_of_testBit_eq
  intro i
  rw [Nat.testBit_and, Nat.testBit_two_pow_sub_succ hx, e1, Nat.testBit_two_pow_mul_add m (by omega), Nat.testBit_two_pow_sub_one]
  rw [show x.testBit i = if i < k + 1 then (2 ^ k).testBit i else m.testBit (i - (k + 1)) from by rw [e, Nat.testBit_two_pow_mul_add m (by omega)]]
  rw [Nat.testBit_two_pow]
  by_cases h1 : i < k + 1
  · rw [if_pos h1, if_pos h1]
    by_cases h2 : i < k
    · have : ¬ k = i := by omega
      simp [h2, this]
      omega
    · have : k = i := by omega
      simp [this]
  · rw [if_neg h1, if_neg h1]
    have : ¬ i < k := by omega
    simp [this]
/-- Integer.numberOfTrailingZeros, behind its first seven steps -/
def z_ntc (k : Nat) : Bool := match z_pr 60 71 8 [some (.int (Int32.ofNat (2 ^ k - 1))), none] [] with
  | some (some (.int r)) => decide (r.toInt = k)
  | _ => false
theorem z_ntd : ∀ k, k < 32 → z_ntc k = true := by decide +kernel
theorem z_ntz0 : (match z_pr 60 71 0 [some (.int 0), none] [] with
  | some (some (.int r)) => decide (r.toInt = 32)
  | _ => false) = true := by decide +kernel
theorem z_ntb {x : Int32} {k m : Nat} (hk : k < 32) (e : x.toBitVec.toNat = 2 ^ (k + 1) * m + 2 ^ k) : (x ^^^ (-1)) &&& (x - 1) = Int32.ofNat (2 ^ k - 1) := by
  have p0 : 0 < 2 ^ k := Nat.two_pow_pos k
  have hx := x.toBitVec.isLt
  have hl := z_low2 hk hx e
  have e1 : (x ^^^ (-1)).toBitVec.toNat = 2 ^ 32 - (x.toBitVec.toNat + 1) := by
    have h1 : (x ^^^ (-1)).toBitVec = ~~~ x.toBitVec := by
      rw [Int32.toBitVec_xor]
      show x.toBitVec ^^^ BitVec.allOnes 32 = _
      exact BitVec.xor_allOnes
    rw [h1, BitVec.toNat_not]
    omega
  have e2 : (x - 1).toBitVec.toNat = x.toBitVec.toNat - 1 := by
    rw [Int32.toBitVec_sub, BitVec.toNat_sub]
    show (2 ^ 32 - 1 + x.toBitVec.toNat) % 2 ^ 32 = _
    omega
  apply Int32.toBitVec_inj.mp
  apply BitVec.eq_of_toNat_eq
  rw [Int32.toBitVec_and, BitVec.toNat_and, e1, e2, hl]
  have p2 : 2 ^ k ≤ 2 ^ 31 := Nat.pow_le_pow_right (by decide) (by omega)
  show _ = (BitVec.ofNat 32 (2 ^ k - 1)).toNat
  rw [BitVec.toNat_ofNat]
  omega
theorem z_nt7 {d : Nat} {x : Int32} {M : zH} {K : Option Value → zH → Prop} (kk : z_ev d 71 8 [some (.int ((x ^^^ (-1)) &&& (x - 1))), none] [] M K) : z_ev d 71 0 [some (.int x), none] [] M K := by
  refine z_e1 (pc1 := 1) (L1 := [some (.int x), none]) (S1 := [.int x]) (show decode (z_b 71) 0 = .ok (.iload_n 0, 1) from by decide +kernel) rfl rfl rfl ?_
  refine z_e1 (pc1 := 2) (L1 := [some (.int x), none]) (S1 := [.int (-1), .int x]) (show decode (z_b 71) 1 = .ok (.iconst (-1), 1) from by decide +kernel) rfl rfl rfl ?_
  refine z_e1 (pc1 := 3) (L1 := [some (.int x), none]) (S1 := [.int (x ^^^ (-1))]) (show decode (z_b 71) 2 = .ok (.ixor, 1) from by decide +kernel) rfl rfl rfl ?_
  refine z_e1 (pc1 := 4) (L1 := [some (.int x), none]) (S1 := [.int x, .int (x ^^^ (-1))]) (show decode (z_b 71) 3 = .ok (.iload_n 0, 1) from by decide +kernel) rfl rfl rfl ?_
  refine z_e1 (pc1 := 5) (L1 := [some (.int x), none]) (S1 := [.int 1, .int x, .int (x ^^^ (-1))]) (show decode (z_b 71) 4 = .ok (.iconst 1, 1) from by decide +kernel) rfl rfl rfl ?_
  refine z_e1 (pc1 := 6) (L1 := [some (.int x), none]) (S1 := [.int (x - 1), .int (x ^^^ (-1))]) (show decode (z_b 71) 5 = .ok (.isub, 1) from by decide +kernel) rfl rfl rfl ?_
  refine z_e1 (pc1 := 7) (L1 := [some (.int x), none]) (S1 := [.int ((x ^^^ (-1)) &&& (x - 1))]) (show decode (z_b 71) 6 = .ok (.iand, 1) from by decide +kernel) rfl rfl rfl ?_
  refine z_e1 (pc1 := 8) (L1 := [some (.int ((x ^^^ (-1)) &&& (x - 1))), none]) (S1 := []) (show decode (z_b 71) 7 = .ok (.istore_n 0, 1) from by decide +kernel) rfl rfl rfl ?_
  exact kk
/-- what it gives -/
theorem zS71 {d : Nat} {x : Int32} {M : zH} {K : Option Value → zH → Prop} (kk : ∀ r : Int32, 0 ≤ r.toInt → r.toInt ≤ 32 → (x.toInt ≠ 0 → r.toInt ≤ 31) → (1 ≤ x.toInt → x.toInt ≤ 31 → r.toInt ≤ 4) → K (some (.int r)) M) : z_ev d 71 0 [some (.int x), none] [] M K := by
  by_cases h0 : x.toInt = 0
  · obtain rfl := z_sub (k := 0) h0 rfl
    have h := z_ntz0
    split at h
    · rename_i r hr
      have h2 := of_decide_eq_true h
      exact z_prx _ _ _ _ _ hr (kk r (by omega) (by omega) (fun z => absurd rfl z) (fun z => absurd z (by decide)))
    · cases h
  · have hx := x.toBitVec.isLt
    have hz : x.toBitVec.toNat ≠ 0 := fun z => h0 (by
      have h1 : x.toInt = x.toBitVec.toInt := rfl
      rw [h1, BitVec.toInt_eq_toNat_cond, z]; rfl)
    obtain ⟨k, m, hk, e⟩ := z_low1 32 _ hx (by omega)
    refine z_nt7 ?_
    rw [z_ntb hk e]
    have h := z_ntd k hk
    unfold z_ntc at h
    split at h
    · rename_i r hr
      have h2 := of_decide_eq_true h
      refine z_prx _ _ _ _ _ hr (kk r (by omega) (by omega) (fun _ => by omega) (fun l u => ?_))
      have e3 := (z_nn (x := x) (by omega)).1
      have e4 : 2 ^ k ≤ 31 := by
        have : 0 ≤ 2 ^ (k + 1) * m := Nat.zero_le _
        omega
      have e5 : k < 5 := by
        by_cases h5 : k < 5
        · exact h5
        · have : 2 ^ 5 ≤ 2 ^ k := Nat.pow_le_pow_right (by decide) (by omega)
          omega
      omega
    · cases h
/-- Long.numberOfTrailingZeros of what isn't 0 -/
theorem z_l32a (y : Int64) : y.toInt32.toBitVec.toNat = y.toBitVec.toNat % 4294967296 := by
  rw [Int64.toBitVec_toInt32, BitVec.signExtend_eq_setWidth_of_le _ (by decide), BitVec.toNat_setWidth]
theorem z_l32b (y : Int64) : (y.toUInt64 >>> ((32 : Int32).toInt64.toUInt64 &&& Int64.toUInt64 63)).toInt64.toBitVec.toNat = y.toBitVec.toNat / 4294967296 := by
  rw [show ((32 : Int32).toInt64.toUInt64 &&& Int64.toUInt64 63) = (32 : UInt64) from by decide]
  show (y.toUInt64 >>> (32 : UInt64)).toNat = _
  rw [UInt64.toNat_shiftRight, show (32 : UInt64).toNat % 64 = 32 from by decide, Nat.shiftRight_eq_div_pow]
  rfl
theorem z_l32 {y : Int64} (h1 : y.toInt32.toInt = 0) (h2 : ((y.toUInt64 >>> ((32 : Int32).toInt64.toUInt64 &&& Int64.toUInt64 63)).toInt64).toInt32.toInt = 0) : y.toInt = 0 := by
  have t : ∀ x : Int32, x.toInt = 0 → x.toBitVec.toNat = 0 := fun x hx => by
    obtain rfl := z_sub (k := 0) hx rfl
    rfl
  have a1 := t _ h1
  have a2 := t _ h2
  rw [z_l32a] at a1 a2
  rw [z_l32b] at a2
  have a3 := y.toBitVec.isLt
  have a4 : y.toBitVec = 0 := BitVec.eq_of_toNat_eq (by show y.toBitVec.toNat = 0; omega)
  have a5 : y.toInt = y.toBitVec.toInt := rfl
  rw [a5, a4]
  rfl
theorem zS150 {d : Nat} {y : Int64} {M : zH} {K : Option Value → zH → Prop} (hy : y.toInt ≠ 0) (kk : ∀ r : Int32, 0 ≤ r.toInt → r.toInt ≤ 63 → K (some (.int r)) M) : z_ev (d + 1) 150 0 [some (.long y), none, none] [] M K := by
  refine z_e1 (pc1 := 1) (L1 := [some (.long y), none, none]) (S1 := [.long y]) (show decode (z_b 150) 0 = .ok (.lload_n 0, 1) from by decide +kernel) rfl rfl rfl ?_
  refine z_e1 (pc1 := 2) (L1 := [some (.long y), none, none]) (S1 := [.int y.toInt32]) (show decode (z_b 150) 1 = .ok (.l2i, 1) from by decide +kernel) rfl rfl rfl ?_
  refine z_e1 (pc1 := 3) (L1 := [some (.long y), none, some (.int y.toInt32)]) (S1 := []) (show decode (z_b 150) 2 = .ok (.istore_n 2, 1) from by decide +kernel) rfl rfl rfl ?_
  refine z_e1 (pc1 := 4) (L1 := [some (.long y), none, some (.int y.toInt32)]) (S1 := [.int y.toInt32]) (show decode (z_b 150) 3 = .ok (.iload_n 2, 1) from by decide +kernel) rfl rfl rfl ?_
  have hd : decode (z_b 150) 4 = .ok (.ifCond .ne 17, 3) := by decide +kernel
  have hq : (z_find z_cS (z_oc 150) 311).map (·.1) = some (0, 1, [(0, 71)]) := by decide +kernel
  rcases @z_cmb .ne y.toInt32 0 21 (4 + 3) with ⟨h1, h2⟩ | ⟨h1, h2⟩
  · refine z_ez hd rfl h2 ?_
    refine z_e1 (pc1 := 22) (L1 := [some (.long y), none, some (.int y.toInt32)]) (S1 := [.int y.toInt32]) (show decode (z_b 150) 21 = .ok (.iload_n 2, 1) from by decide +kernel) rfl rfl rfl ?_
    refine z_ecS (vs := [.int y.toInt32]) (r := []) (L2 := [some (.int y.toInt32), none]) (show decode (z_b 150) 22 = .ok (.invokestatic 311, 3) from by decide +kernel) hq (Or.inl rfl) (Nat.le_of_ble_eq_true rfl) rfl rfl (Nat.le_of_ble_eq_true rfl) (show z_ml 71 = 2 from by decide +kernel) (Nat.le_of_ble_eq_true rfl) rfl ?_
    refine zS71 fun r l u _ _ => ?_
    exact z_eri (show decode (z_b 150) 25 = .ok (.ireturn, 1) from by decide +kernel) (show z_rt 150 = some .int from by decide +kernel) (kk r l (by omega))
  · refine z_ez hd rfl h2 ?_
    refine z_e1 (pc1 := 9) (L1 := [some (.long y), none, some (.int y.toInt32)]) (S1 := [.int 32]) (show decode (z_b 150) 7 = .ok (.bipush 32, 2) from by decide +kernel) rfl rfl rfl ?_
    refine z_e1 (pc1 := 10) (L1 := [some (.long y), none, some (.int y.toInt32)]) (S1 := [.long y, .int 32]) (show decode (z_b 150) 9 = .ok (.lload_n 0, 1) from by decide +kernel) rfl rfl rfl ?_
    refine z_e1 (pc1 := 12) (L1 := [some (.long y), none, some (.int y.toInt32)]) (S1 := [.int 32, .long y, .int 32]) (show decode (z_b 150) 10 = .ok (.bipush 32, 2) from by decide +kernel) rfl rfl rfl ?_
    refine z_e1 (pc1 := 13) (L1 := [some (.long y), none, some (.int y.toInt32)]) (S1 := [.long ((y.toUInt64 >>> ((32 : Int32).toInt64.toUInt64 &&& Int64.toUInt64 63)).toInt64), .int 32]) (show decode (z_b 150) 12 = .ok (.lushr, 1) from by decide +kernel) rfl rfl rfl ?_
    refine z_e1 (pc1 := 14) (L1 := [some (.long y), none, some (.int y.toInt32)]) (S1 := [.int ((y.toUInt64 >>> ((32 : Int32).toInt64.toUInt64 &&& Int64.toUInt64 63)).toInt64).toInt32, .int 32]) (show decode (z_b 150) 13 = .ok (.l2i, 1) from by decide +kernel) rfl rfl rfl ?_
    refine z_ecS (vs := [.int ((y.toUInt64 >>> ((32 : Int32).toInt64.toUInt64 &&& Int64.toUInt64 63)).toInt64).toInt32]) (r := [.int 32]) (L2 := [some (.int ((y.toUInt64 >>> ((32 : Int32).toInt64.toUInt64 &&& Int64.toUInt64 63)).toInt64).toInt32), none]) (show decode (z_b 150) 14 = .ok (.invokestatic 311, 3) from by decide +kernel) hq (Or.inl rfl) (Nat.le_of_ble_eq_true rfl) rfl rfl (Nat.le_of_ble_eq_true rfl) (show z_ml 71 = 2 from by decide +kernel) (Nat.le_of_ble_eq_true rfl) rfl ?_
    refine zS71 fun r l u h31 _ => ?_
    have h5 := h31 (fun z => hy (z_l32 h1 z))
    show z_ev _ 150 17 _ [.int r, .int 32] M K
    refine z_e1 (pc1 := 18) (L1 := [some (.long y), none, some (.int y.toInt32)]) (S1 := [.int (32 + r)]) (show decode (z_b 150) 17 = .ok (.iadd, 1) from by decide +kernel) rfl rfl rfl ?_
    refine z_e1 (pc1 := 25) (L1 := [some (.long y), none, some (.int y.toInt32)]) (S1 := [.int (32 + r)]) (show decode (z_b 150) 18 = .ok (.goto 7, 3) from by decide +kernel) rfl rfl rfl ?_
    have h6 : (32 + r).toInt = 32 + r.toInt := z_pAdd (p := 32) rfl rfl (by omega) (by omega)
    exact z_eri (show decode (z_b 150) 25 = .ok (.ireturn, 1) from by decide +kernel) (show z_rt 150 = some .int from by decide +kernel) (kk _ (by omega) (by omega))
