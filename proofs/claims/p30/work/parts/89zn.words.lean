/-! the class's words of what is decided -/
/-- a word's bits -/
def z_ib (x : Int32) (k : Nat) : Prop := x.toInt.toNat / 2 ^ k % 2 = 1
section ZWD
variable {x y z v A : Int32} {P Q P2 Q2 : Nat → Prop} {q k pr : Nat}
theorem z_ib_and (h : z = x &&& y) (hx : 0 ≤ x.toInt) (hy : 0 ≤ y.toInt) : 0 ≤ z.toInt ∧ z.toInt ≤ x.toInt ∧ ∀ k, z_ib z k ↔ z_ib x k ∧ z_ib y k := by
  obtain ⟨a1, a2⟩ := z_nn hx
  obtain ⟨b1, b2⟩ := z_nn hy
  have e : z.toBitVec.toNat = x.toBitVec.toNat &&& y.toBitVec.toNat := by rw [h, Int32.toBitVec_and, BitVec.toNat_and]
  have h1 : z.toBitVec.toNat ≤ x.toBitVec.toNat := by rw [e]; exact Nat.and_le_left
  have h2 : z.toInt = (z.toBitVec.toNat : Int) := BitVec.toInt_eq_toNat_of_lt (by omega)
  refine ⟨by omega, by omega, fun k => ?_⟩
  unfold z_ib
  rw [show z.toInt.toNat = x.toInt.toNat &&& y.toInt.toNat by rw [h2, a1, b1]; exact e]
  exact z_land_bit _ _ _
theorem z_ib_or (h : z = x ||| y) (hx : 0 ≤ x.toInt) (hy : 0 ≤ y.toInt) : 0 ≤ z.toInt ∧ ∀ k, z_ib z k ↔ z_ib x k ∨ z_ib y k := by
  obtain ⟨a1, a2⟩ := z_nn hx
  obtain ⟨b1, b2⟩ := z_nn hy
  have e : z.toBitVec.toNat = x.toBitVec.toNat ||| y.toBitVec.toNat := by rw [h, Int32.toBitVec_or, BitVec.toNat_or]
  have h1 : z.toBitVec.toNat < 2 ^ 31 := by rw [e]; exact Nat.or_lt_two_pow (by omega) (by omega)
  have h2 : z.toInt = (z.toBitVec.toNat : Int) := BitVec.toInt_eq_toNat_of_lt (by omega)
  refine ⟨by omega, fun k => ?_⟩
  unfold z_ib
  rw [show z.toInt.toNat = x.toInt.toNat ||| y.toInt.toNat by rw [h2, a1, b1]; exact e]
  exact z_lor_bit _ _ _
/-- without the bits of another -/
theorem z_ib_no (h1 : y = x ^^^ (-1 : Int32)) (h : z = v &&& y) (hv : 0 ≤ v.toInt) (hx : 0 ≤ x.toInt) : 0 ≤ z.toInt ∧ z.toInt ≤ v.toInt ∧ ∀ k, z_ib z k ↔ z_ib v k ∧ ¬ z_ib x k := by
  obtain ⟨a1, a2⟩ := z_nn hv
  have e : z.toBitVec.toNat = v.toBitVec.toNat &&& y.toBitVec.toNat := by rw [h, Int32.toBitVec_and, BitVec.toNat_and]
  have h3 : z.toBitVec.toNat ≤ v.toBitVec.toNat := by rw [e]; exact Nat.and_le_left
  have h2 : z.toInt = (z.toBitVec.toNat : Int) := BitVec.toInt_eq_toNat_of_lt (by omega)
  have z0 : 0 ≤ z.toInt := by omega
  refine ⟨z0, by omega, fun k => ?_⟩
  unfold z_ib
  rw [← z_bt32 z0, ← z_bt32 hv, ← z_bt32 hx, h, Int32.toBitVec_and, BitVec.getLsbD_and, Bool.and_eq_true]
  by_cases c : k < 32
  · rw [h1, Int32.toBitVec_xor, BitVec.getLsbD_xor, z_m1b k c, Bool.xor_true]
    cases x.toBitVec.getLsbD k with
    | false => exact ⟨fun a => ⟨a.1, fun b => by cases b⟩, fun a => ⟨a.1, rfl⟩⟩
    | true => exact ⟨fun a => (by cases a.2), fun a => absurd rfl a.2⟩
  · have e2 : v.toBitVec.getLsbD k = false := BitVec.getLsbD_of_ge _ _ (by omega)
    rw [e2]
    exact ⟨fun a => (by cases a.1), fun a => (by cases a.1)⟩
theorem z_hik (k : Nat) : 1024 ≤ 2 ^ (k + 10) := Nat.pow_le_pow_right (n := 2) (i := 10) (by decide) (by omega)
theorem z_ib_hi (h0 : 0 ≤ x.toInt) (h : x.toInt < 1024) (k : Nat) : ¬ z_ib x (k + 10) := fun a => by
  unfold z_ib at a
  have := z_hik k
  rw [Nat.div_eq_of_lt (by omega)] at a
  cases a
/-- ten places up -/
theorem z_ib_up (h : y.toInt = x.toInt * 1024) (h0 : 0 ≤ x.toInt) (k : Nat) (hk : k < 10) : ¬ z_ib y k ∧ (z_ib y (k + 10) ↔ z_ib x k) := by
  unfold z_ib
  have e : y.toInt.toNat = 1024 * x.toInt.toNat := by omega
  rw [e]
  refine ⟨fun a => ?_, ?_⟩
  · have hd : k = 0 ∨ k = 1 ∨ k = 2 ∨ k = 3 ∨ k = 4 ∨ k = 5 ∨ k = 6 ∨ k = 7 ∨ k = 8 ∨ k = 9 := by omega
    rcases hd with rfl | rfl | rfl | rfl | rfl | rfl | rfl | rfl | rfl | rfl <;> omega
  · rw [show 2 ^ (k + 10) = 1024 * 2 ^ k by rw [Nat.pow_add, Nat.mul_comm], Nat.mul_div_mul_left _ _ (by decide)]
theorem z_shl10 (h : y = x <<< ((10 : Int32) &&& 31)) (h0 : 0 ≤ x.toInt) (h1 : x.toInt < 1048576) : y.toInt = x.toInt * 1024 := by
  rw [h]
  exact z_pShl (c := 1024) 10 rfl rfl (by decide) (by decide) h0 rfl (by omega)
theorem z_ibN {w : Int32} (h : w.toInt = (pr : Int)) (k : Nat) : z_ib w k ↔ pr / 2 ^ k % 2 = 1 := by
  unfold z_ib
  rw [show w.toInt.toNat = pr by omega]
/-- the same questions, yes and no -/
theorem z_both (h6 : x.toInt = (pr : Int)) (hp : pr < 1024) (h9 : y = x <<< ((10 : Int32) &&& 31)) (h11 : z = x ||| y) : 0 ≤ z.toInt ∧ ∀ k, k < 10 → (z_ib z k ↔ pr / 2 ^ k % 2 = 1) ∧ (z_ib z (k + 10) ↔ pr / 2 ^ k % 2 = 1) := by
  have hy := z_shl10 h9 (by omega) (by omega)
  have hz := z_ib_or h11 (by omega) (by omega)
  refine ⟨hz.1, fun k hk => ?_⟩
  obtain ⟨u1, u2⟩ := z_ib_up hy (by omega) k hk
  have u3 := z_ib_hi (x := x) (by omega) (by omega) k
  have u4 := z_ibN h6 k
  rw [hz.2 k, hz.2 (k + 10), ← u4, u2]
  exact ⟨⟨fun a => a.elim id fun b => absurd b u1, Or.inl⟩, ⟨fun a => a.elim (fun b => absurd b u3) id, Or.inr⟩⟩
theorem z_w2B {w : Int} (h : z_w2 P Q q w) : z_wbo q P Q (w.toNat % 1024) (w.toNat / 1024) := by
  obtain ⟨h1, h2⟩ := h
  exact ⟨⟨by omega, by omega⟩, fun k hk => ⟨(z_md1024 _ k hk).trans (h2 k hk).1, by rw [z_md10]; exact (h2 k hk).2⟩⟩
/-- a word by its bits -/
theorem z_w2I (h0 : 0 ≤ x.toInt) (h1 : x.toInt < 1048576) (h : ∀ k, k < 10 → (z_ib x k ↔ k < q ∧ P k) ∧ (z_ib x (k + 10) ↔ k < q ∧ Q k)) : z_w2 P Q q x.toInt := ⟨⟨h0, h1⟩, h⟩
/-- told: those by heads among some -/
theorem z_w2M (h : z_w2 P Q q x.toInt) (hy : 0 ≤ y.toInt ∧ ∀ k, k < 10 → (z_ib y k ↔ pr / 2 ^ k % 2 = 1) ∧ (z_ib y (k + 10) ↔ pr / 2 ^ k % 2 = 1)) (hz : z = x &&& y) : z_w2 (fun k => pr / 2 ^ k % 2 = 1 ∧ P k) (fun k => pr / 2 ^ k % 2 = 1 ∧ Q k) q z.toInt := by
  obtain ⟨h1, h2⟩ := h
  obtain ⟨a1, a2, a3⟩ := z_ib_and hz h1.1 hy.1
  refine z_w2I a1 (by omega) fun k hk => ?_
  obtain ⟨b1, b2⟩ := h2 k hk
  obtain ⟨c1, c2⟩ := hy.2 k hk
  rw [a3 k, a3 (k + 10), c1, c2]
  unfold z_ib
  rw [b1, b2]
  exact ⟨⟨fun ⟨⟨d1, d2⟩, d3⟩ => ⟨d1, d3, d2⟩, fun ⟨d1, d3, d2⟩ => ⟨⟨d1, d2⟩, d3⟩⟩, ⟨fun ⟨⟨d1, d2⟩, d3⟩ => ⟨d1, d3, d2⟩, fun ⟨d1, d3, d2⟩ => ⟨⟨d1, d2⟩, d3⟩⟩⟩
/-- told, and others from another word -/
theorem z_w2J {m n o w : Int32} (h : z_w2 (fun k => pr / 2 ^ k % 2 = 1 ∧ P k) (fun k => pr / 2 ^ k % 2 = 1 ∧ Q k) q x.toInt) (hv : z_w2 P2 Q2 q v.toInt) (hm : 0 ≤ m.toInt ∧ ∀ k, k < 10 → (z_ib m k ↔ pr / 2 ^ k % 2 = 1) ∧ (z_ib m (k + 10) ↔ pr / 2 ^ k % 2 = 1)) (hn : n = m ^^^ (-1 : Int32)) (ho : o = v &&& n) (hw : w = x ||| o) : z_w2 (fun k => (pr / 2 ^ k % 2 = 1 ∧ P k) ∨ (¬ pr / 2 ^ k % 2 = 1 ∧ P2 k)) (fun k => (pr / 2 ^ k % 2 = 1 ∧ Q k) ∨ (¬ pr / 2 ^ k % 2 = 1 ∧ Q2 k)) q w.toInt := by
  obtain ⟨h1, h2⟩ := h
  obtain ⟨g1, g2⟩ := hv
  obtain ⟨a1, a2, a3⟩ := z_ib_no hn ho g1.1 hm.1
  obtain ⟨b1, b2⟩ := z_ib_or hw h1.1 a1
  have hb : w.toInt < 1048576 := by
    obtain ⟨u1, u2⟩ := z_nn h1.1
    obtain ⟨v1, v2⟩ := z_nn a1
    obtain ⟨w1, w2⟩ := z_nn b1
    have e : w.toBitVec.toNat = x.toBitVec.toNat ||| o.toBitVec.toNat := by rw [hw, Int32.toBitVec_or, BitVec.toNat_or]
    have h5 : w.toBitVec.toNat < 2 ^ 20 := by rw [e]; exact Nat.or_lt_two_pow (by omega) (by omega)
    omega
  refine z_w2I b1 hb fun k hk => ?_
  obtain ⟨c1, c2⟩ := h2 k hk
  obtain ⟨d1, d2⟩ := g2 k hk
  obtain ⟨e1, e2⟩ := hm.2 k hk
  rw [b2 k, b2 (k + 10), a3 k, a3 (k + 10), e1, e2]
  unfold z_ib
  rw [c1, c2, d1, d2]
  exact ⟨⟨fun a => a.elim (fun ⟨f1, f2⟩ => ⟨f1, Or.inl f2⟩) fun ⟨⟨f1, f2⟩, f3⟩ => ⟨f1, Or.inr ⟨f3, f2⟩⟩, fun ⟨f1, f2⟩ => f2.elim (fun f => Or.inl ⟨f1, f⟩) fun ⟨f3, f4⟩ => Or.inr ⟨⟨f1, f4⟩, f3⟩⟩, ⟨fun a => a.elim (fun ⟨f1, f2⟩ => ⟨f1, Or.inl f2⟩) fun ⟨⟨f1, f2⟩, f3⟩ => ⟨f1, Or.inr ⟨f3, f2⟩⟩, fun ⟨f1, f2⟩ => f2.elim (fun f => Or.inl ⟨f1, f⟩) fun ⟨f3, f4⟩ => Or.inr ⟨⟨f1, f4⟩, f3⟩⟩⟩
theorem z_allb (hA : A.toInt = ((2 ^ q : Nat) : Int) - 1) (q10 : q ≤ 10) (k : Nat) : z_ib A k ↔ k < q := by
  unfold z_ib
  have h1 : 0 < 2 ^ q := Nat.two_pow_pos q
  have e : A.toInt.toNat = 2 ^ q - 1 := by omega
  rw [e]
  have h := Nat.testBit_two_pow_sub_one q k
  rw [Nat.testBit_eq_decide_div_mod_eq] at h
  exact decide_eq_decide.mp h
/-- a set's answers to all questions -/
theorem z_answo {n o p w : Int32} (hA : A.toInt = ((2 ^ q : Nat) : Int) - 1) (q10 : q ≤ 10) (h0 : 0 ≤ v.toInt) (h1 : v.toInt < ((2 ^ q : Nat) : Int)) (hn : n = v ^^^ (-1 : Int32)) (ho : o = A &&& n) (hp : p = o <<< ((10 : Int32) &&& 31)) (hw : w = v ||| p) : z_w2 (fun k => v.toInt.toNat / 2 ^ k % 2 = 1) (fun k => ¬ v.toInt.toNat / 2 ^ k % 2 = 1) q w.toInt := by
  have hP : 2 ^ q ≤ 1024 := Nat.pow_le_pow_right (n := 2) (by decide) q10
  have hP1 : 0 < 2 ^ q := Nat.two_pow_pos q
  have A0 : 0 ≤ A.toInt := by omega
  obtain ⟨a1, a2, a3⟩ := z_ib_no hn ho A0 h0
  have hpv := z_shl10 hp a1 (by omega)
  obtain ⟨b1, b2⟩ := z_ib_or hw h0 (by omega)
  have hb : w.toInt < 1048576 := by
    obtain ⟨u1, u2⟩ := z_nn h0
    obtain ⟨v1, v2⟩ := z_nn (x := p) (by omega)
    obtain ⟨w1, w2⟩ := z_nn b1
    have e : w.toBitVec.toNat = v.toBitVec.toNat ||| p.toBitVec.toNat := by rw [hw, Int32.toBitVec_or, BitVec.toNat_or]
    have h5 : w.toBitVec.toNat < 2 ^ 20 := by rw [e]; exact Nat.or_lt_two_pow (by omega) (by omega)
    omega
  refine z_w2I b1 hb fun k hk => ?_
  obtain ⟨u1, u2⟩ := z_ib_up hpv a1 k hk
  have u3 := z_ib_hi h0 (by omega) k
  rw [b2 k, b2 (k + 10), u2, a3 k, z_allb hA q10 k]
  refine ⟨⟨fun a => a.elim (fun b => ⟨z_q2b (s := v.toInt.toNat) (by omega) b, b⟩) fun b => absurd b u1, fun a => Or.inl a.2⟩, ⟨fun a => a.elim (fun b => absurd b u3) id, Or.inr⟩⟩
end ZWD
