/-! by turns: words and spans -/
def z_twI (B : Nat → Nat) (q : Nat) (L : Nat → Int) (op : Nat → Prop) (o : Nat → Nat) (i : Nat) (w : Int) : Prop := (0 ≤ w ∧ w < 1048576) ∧ z_tuR B q L op o i (w.toNat % 1024) (w.toNat / 1024)
theorem z_p2bit (k j : Nat) : 2 ^ k / 2 ^ j % 2 = 1 ↔ k = j := by
  have h := Nat.testBit_two_pow (n := k) (m := j)
  rw [Nat.testBit_eq_decide_div_mod_eq] at h
  refine ⟨fun a => ?_, fun a => ?_⟩
  · rw [decide_eq_true a] at h
    exact of_decide_eq_true h.symm
  · rw [decide_eq_true a] at h
    exact of_decide_eq_true h
theorem z_hasY {s y n k : Nat} (hk : k < 10) : z_has s (y ||| 2 ^ k) n ↔ z_has s y n ∧ s / 2 ^ k % 2 = 1 := by
  refine ⟨fun h => ⟨fun j hj => ⟨fun a => (h j hj).1 ((z_lor_bit _ _ _).mpr (Or.inl a)), (h j hj).2⟩, (h k hk).1 ((z_lor_bit _ _ _).mpr (Or.inr ((z_p2bit k k).mpr rfl)))⟩, fun ⟨h, h2⟩ j hj => ⟨fun a => ?_, (h j hj).2⟩⟩
  rcases (z_lor_bit _ _ _).mp a with b | b
  · exact (h j hj).1 b
  · rw [← (z_p2bit k j).mp b]
    exact h2
theorem z_hasN {s y n k : Nat} (hk : k < 10) : z_has s y (n ||| 2 ^ k) ↔ z_has s y n ∧ s / 2 ^ k % 2 = 0 := by
  refine ⟨fun h => ⟨fun j hj => ⟨(h j hj).1, fun a => (h j hj).2 ((z_lor_bit _ _ _).mpr (Or.inl a))⟩, (h k hk).2 ((z_lor_bit _ _ _).mpr (Or.inr ((z_p2bit k k).mpr rfl)))⟩, fun ⟨h, h2⟩ j hj => ⟨(h j hj).1, fun a => ?_⟩⟩
  rcases (z_lor_bit _ _ _).mp a with b | b
  · exact (h j hj).2 b
  · rw [← (z_p2bit k j).mp b]
    exact h2
section ZTW
variable {B : Nat → Nat} {q y n b sp m k : Nat} {W W2 : Nat → Int64}
theorem z_lft0 {x0 : Int32} (h0 : x0.toInt = 0) : z_lft B q y n x0.toInt.toNat W := fun b hb => by
  rw [h0] at hb
  exact absurd hb (Nat.not_lt_zero b)
theorem z_lft00 {x0 : Int32} (h0 : x0.toInt = 0) : z_lft B q y n x0.toInt.toNat W := z_lft0 h0
theorem z_lft1 {x0 : Int32} (h0 : x0.toInt = 0) (h : z_lft B q 0 0 b W) (hb : sp ≤ b) : z_lft B q (x0.toInt.toNat % 1024) (x0.toInt.toNat / 1024) sp W := by
  rw [h0]
  exact fun c hc => h c (by omega)
theorem z_lfS {v : Int64} {idx : Nat} (hA : z_lft B q y n b W) (hw : ∀ i, i < 64 → (v.toBitVec.getLsbD i = true ↔ ∃ a, a < 2 ^ q ∧ B a = 0 ∧ z_lc B a = 64 * b + i ∧ z_has a y n)) (e : W2 = z_updL W idx v) (hi : idx = b) : z_lft B q y n (b + 1) W2 := fun c hc => by
  rw [e, hi]
  show ∀ i, i < 64 → ((if c = b then v else W c).toBitVec.getLsbD i = true ↔ _)
  by_cases d : c = b
  · rw [if_pos d, d]
    exact hw
  · rw [if_neg d]
    exact hA c (by omega)
theorem z_lftS {v : Int64} {idx x : Nat} {Q : Nat → Nat → Prop} (h : z_lft B q 0 0 b W) (hm : m = z_lc B (2 ^ q)) (hw : z_gv (fun j => 64 * b + j < m) Q 0 0 x v) (e : W2 = z_updL W idx v) (hi : idx = b) : z_lft B q 0 0 (b + 1) W2 := by
  refine z_lfS h (fun i h64 => ?_) e hi
  have z0 : ∀ k, ¬ 0 / 2 ^ k % 2 = 1 := fun k => by rw [Nat.zero_div]; decide
  rw [hw i h64]
  refine ⟨fun ⟨a, _⟩ => ?_, fun ⟨a, a1, a2, a3, _⟩ => ⟨?_, fun k _ => ⟨fun c => absurd c (z0 k), fun c => absurd c (z0 k)⟩⟩⟩
  · obtain ⟨s, s1, s2, s3⟩ := z_lc_ex (B := B) (2 ^ q) (64 * b + i) (by omega)
    exact ⟨s, s1, s2, s3, fun k _ => ⟨fun c => absurd c (z0 k), fun c => absurd c (z0 k)⟩⟩
  · have := z_lc_lt B a1 a2
    show 64 * b + i < m
    omega
theorem z_lfY {u l u2 : Int64} {Y : Nat → Int64} (hu : ∀ i, i < 64 → (u.toBitVec.getLsbD i = true ↔ ∃ a, a < 2 ^ q ∧ B a = 0 ∧ z_lc B a = 64 * b + i ∧ z_has a y n)) (hY : z_YO B (2 ^ q) 0 q sp Y) (hk : ∀ j, j < 64 → (l.toBitVec.getLsbD j = true ↔ z_yb Y sp k (64 * b + j))) (hi : k < q) (hb : b < sp) (hr : u2 = u &&& l) : ∀ i, i < 64 → (u2.toBitVec.getLsbD i = true ↔ ∃ a, a < 2 ^ q ∧ B a = 0 ∧ z_lc B a = 64 * b + i ∧ z_has a y n ∧ a / 2 ^ k % 2 = 1) := fun i h64 => by
  rw [hr, Int64.toBitVec_and, BitVec.getLsbD_and, Bool.and_eq_true, hu i h64]
  refine ⟨fun ⟨⟨a, a1, a2, a3, a4⟩, h⟩ => ⟨a, a1, a2, a3, a4, (z_imE hY hk hi hb a2 a1 ⟨by omega, by omega⟩).mp ?_⟩, fun ⟨a, a1, a2, a3, a4, a5⟩ => ⟨⟨a, a1, a2, a3, a4⟩, ?_⟩⟩
  · rw [show z_lc B a - 64 * b = i by omega]
    exact h
  · have h := (z_imE hY hk hi hb a2 a1 ⟨by omega, by omega⟩).mpr a5
    rw [show z_lc B a - 64 * b = i by omega] at h
    exact h
theorem z_lfN {u l l2 u2 : Int64} {Y : Nat → Int64} (hu : ∀ i, i < 64 → (u.toBitVec.getLsbD i = true ↔ ∃ a, a < 2 ^ q ∧ B a = 0 ∧ z_lc B a = 64 * b + i ∧ z_has a y n)) (hY : z_YO B (2 ^ q) 0 q sp Y) (hk : ∀ j, j < 64 → (l.toBitVec.getLsbD j = true ↔ z_yb Y sp k (64 * b + j))) (hi : k < q) (hb : b < sp) (hl : l2 = l ^^^ (-1)) (hr : u2 = u &&& l2) : ∀ i, i < 64 → (u2.toBitVec.getLsbD i = true ↔ ∃ a, a < 2 ^ q ∧ B a = 0 ∧ z_lc B a = 64 * b + i ∧ z_has a y n ∧ a / 2 ^ k % 2 = 0) := fun i h64 => by
  have hb2 : l2.toBitVec.getLsbD i = true ↔ ¬ l.toBitVec.getLsbD i = true := by
    rw [hl, Int64.toBitVec_xor, BitVec.getLsbD_xor, z_allbit i h64, Bool.xor_true]
    cases l.toBitVec.getLsbD i with
    | false => exact ⟨fun _ a => (by cases a), fun _ => rfl⟩
    | true => exact ⟨fun a => (by cases a), fun a => absurd rfl a⟩
  rw [hr, Int64.toBitVec_and, BitVec.getLsbD_and, Bool.and_eq_true, hu i h64, hb2]
  refine ⟨fun ⟨⟨a, a1, a2, a3, a4⟩, h⟩ => ⟨a, a1, a2, a3, a4, z_m2n fun c => h ?_⟩, fun ⟨a, a1, a2, a3, a4, a5⟩ => ⟨⟨a, a1, a2, a3, a4⟩, fun c => ?_⟩⟩
  · have h2 := (z_imE hY hk hi hb a2 a1 ⟨by omega, by omega⟩).mpr c
    rw [show z_lc B a - 64 * b = i by omega] at h2
    exact h2
  · have h2 := (z_imE hY hk hi hb a2 a1 ⟨by omega, by omega⟩).mp (by rw [show z_lc B a - 64 * b = i by omega]; exact c)
    rw [a5] at h2
    cases h2
theorem z_lfCY {v : Int64} {x5 : Int} (h : ∀ i, i < 64 → (v.toBitVec.getLsbD i = true ↔ ∃ a, a < 2 ^ q ∧ B a = 0 ∧ z_lc B a = 64 * b + i ∧ z_has a y n ∧ a / 2 ^ k % 2 = 1)) (h5 : x5 = 1 ∧ k < 10) : ∀ i, i < 64 → (v.toBitVec.getLsbD i = true ↔ ∃ a, a < 2 ^ q ∧ B a = 0 ∧ z_lc B a = 64 * b + i ∧ z_has a (if x5 = 1 then y ||| 2 ^ k else y) (if x5 = 1 then n else n ||| 2 ^ k)) := fun i h64 => by
  rw [if_pos h5.1, if_pos h5.1, h i h64]
  exact ⟨fun ⟨a, a1, a2, a3, a4, a5⟩ => ⟨a, a1, a2, a3, (z_hasY h5.2).mpr ⟨a4, a5⟩⟩, fun ⟨a, a1, a2, a3, a4⟩ => ⟨a, a1, a2, a3, (z_hasY h5.2).mp a4⟩⟩
theorem z_lfCN {v : Int64} {x5 : Int} (h : ∀ i, i < 64 → (v.toBitVec.getLsbD i = true ↔ ∃ a, a < 2 ^ q ∧ B a = 0 ∧ z_lc B a = 64 * b + i ∧ z_has a y n ∧ a / 2 ^ k % 2 = 0)) (h5 : x5 ≠ 1 ∧ k < 10) : ∀ i, i < 64 → (v.toBitVec.getLsbD i = true ↔ ∃ a, a < 2 ^ q ∧ B a = 0 ∧ z_lc B a = 64 * b + i ∧ z_has a (if x5 = 1 then y ||| 2 ^ k else y) (if x5 = 1 then n else n ||| 2 ^ k)) := fun i h64 => by
  rw [if_neg h5.1, if_neg h5.1, h i h64]
  exact ⟨fun ⟨a, a1, a2, a3, a4, a5⟩ => ⟨a, a1, a2, a3, (z_hasN h5.2).mpr ⟨a4, a5⟩⟩, fun ⟨a, a1, a2, a3, a4⟩ => ⟨a, a1, a2, a3, (z_hasN h5.2).mp a4⟩⟩
/-- a word and one more bit -/
theorem z_md10 (x : Nat) (k : Nat) : x / 1024 / 2 ^ k % 2 = x / 2 ^ (k + 10) % 2 := by rw [Nat.div_div_eq_div_mul, show 1024 * 2 ^ k = 2 ^ (k + 10) by rw [Nat.pow_add, Nat.mul_comm]]
theorem z_wdY {v c e x6 : Int32} (hv : 0 ≤ v.toInt ∧ v.toInt < 1048576) (hk : k < 10) (h6 : x6.toInt = (k : Int)) (hc : c = (1 : Int32) <<< (x6 &&& 31)) (he : e = v ||| c) : (0 ≤ e.toInt ∧ e.toInt < 1048576) ∧ e.toInt.toNat % 1024 = v.toInt.toNat % 1024 ||| 2 ^ k ∧ e.toInt.toNat / 1024 = v.toInt.toNat / 1024 := by
  obtain ⟨h1, h2⟩ := z_orW2 hv h6 (by omega) hc he
  have p : 2 ^ k < 2 ^ 10 := Nat.pow_lt_pow_right (by decide) hk
  refine ⟨h1, z_beq (t := 10) (by omega) (Nat.or_lt_two_pow (by omega) p) fun j hj => ?_, z_beq (t := 10) (by omega) (by omega) fun j hj => ?_⟩
  · rw [z_md1024 _ j hj, h2 j (by omega), z_lor_bit, z_md1024 _ j hj, z_p2bit]
    exact ⟨fun a => a.imp id fun b => b.symm, fun a => a.imp id fun b => b.symm⟩
  · rw [z_md10, z_md10, h2 (j + 10) (by omega)]
    exact ⟨fun a => a.elim id fun b => by omega, Or.inl⟩
theorem z_wdN {v c e x6 : Int32} (hv : 0 ≤ v.toInt ∧ v.toInt < 1048576) (hk : k < 10) (h6 : x6.toInt = (k : Int) + 10) (hc : c = (1 : Int32) <<< (x6 &&& 31)) (he : e = v ||| c) : (0 ≤ e.toInt ∧ e.toInt < 1048576) ∧ e.toInt.toNat % 1024 = v.toInt.toNat % 1024 ∧ e.toInt.toNat / 1024 = v.toInt.toNat / 1024 ||| 2 ^ k := by
  obtain ⟨h1, h2⟩ := z_orW2 (x := k + 10) hv (by omega) (by omega) hc he
  have p : 2 ^ k < 2 ^ 10 := Nat.pow_lt_pow_right (by decide) hk
  refine ⟨h1, z_beq (t := 10) (by omega) (by omega) fun j hj => ?_, z_beq (t := 10) (by omega) (Nat.or_lt_two_pow (by omega) p) fun j hj => ?_⟩
  · rw [z_md1024 _ j hj, h2 j (by omega), z_md1024 _ j hj]
    exact ⟨fun a => a.elim id fun b => by omega, Or.inl⟩
  · rw [z_md10, h2 (j + 10) (by omega), z_lor_bit, z_md10, z_p2bit]
    exact ⟨fun a => a.imp id fun b => by omega, fun a => a.imp id fun b => by omega⟩
theorem z_lfEY {v c e x6 : Int32} {x5 : Int} (hA : z_lft B q (if x5 = 1 then v.toInt.toNat % 1024 ||| 2 ^ k else v.toInt.toNat % 1024) (if x5 = 1 then v.toInt.toNat / 1024 else v.toInt.toNat / 1024 ||| 2 ^ k) b W) (hv : 0 ≤ v.toInt ∧ v.toInt < 1048576) (h5 : x5 = 1) (hb : sp ≤ b) (hk : k < 10) (h6 : x6.toInt = (k : Int)) (hc : c = (1 : Int32) <<< (x6 &&& 31)) (he : e = v ||| c) : z_lft B q (e.toInt.toNat % 1024) (e.toInt.toNat / 1024) sp W := by
  obtain ⟨_, h1, h2⟩ := z_wdY hv hk h6 hc he
  rw [if_pos h5, if_pos h5] at hA
  rw [h1, h2]
  exact fun c2 hc2 => hA c2 (by omega)
theorem z_lfEN {v c e x6 : Int32} {x5 : Int} (hA : z_lft B q (if x5 = 1 then v.toInt.toNat % 1024 ||| 2 ^ k else v.toInt.toNat % 1024) (if x5 = 1 then v.toInt.toNat / 1024 else v.toInt.toNat / 1024 ||| 2 ^ k) b W) (hv : 0 ≤ v.toInt ∧ v.toInt < 1048576) (h5 : x5 ≠ 1) (hb : sp ≤ b) (hk : k < 10) (h6 : x6.toInt = (k : Int) + 10) (hc : c = (1 : Int32) <<< (x6 &&& 31)) (he : e = v ||| c) : z_lft B q (e.toInt.toNat % 1024) (e.toInt.toNat / 1024) sp W := by
  obtain ⟨_, h1, h2⟩ := z_wdN hv hk h6 hc he
  rw [if_neg h5, if_neg h5] at hA
  rw [h1, h2]
  exact fun c2 hc2 => hA c2 (by omega)
end ZTW
section ZTV
variable {B : Nat → Nat} {q i : Nat} {L : Nat → Int} {op : Nat → Prop} {oo : Nat → Int32}
theorem z_tw0 {o : Nat → Nat} {i0 w0 : Int32} (h : i0.toInt = 0) (hw : w0.toInt = 0) : z_twI B q L op o i0.toInt.toNat w0.toInt := by
  rw [h, hw]
  exact ⟨⟨by decide, by decide⟩, rfl, rfl⟩
theorem z_twY {v c e x6 k4 : Int32} {x5 : Int} (hd : z_twI B q L op (fun i => (oo i).toInt.toNat) i v.toInt) (hq : (oo i).toInt = k4.toInt) (hR : (x5 = 1 ∧ z_tuY B q (L k4.toInt.toNat) (op k4.toInt.toNat) (v.toInt.toNat % 1024) (v.toInt.toNat / 1024) k4.toInt.toNat) ∨ (x5 = 0 ∧ ¬ z_tuY B q (L k4.toInt.toNat) (op k4.toInt.toNat) (v.toInt.toNat % 1024) (v.toInt.toNat / 1024) k4.toInt.toNat)) (h5 : x5 = 1) (hk : k4.toInt.toNat < 10) (h6 : x6.toInt = ((k4.toInt.toNat : Nat) : Int)) (hc : c = (1 : Int32) <<< (x6 &&& 31)) (he : e = v ||| c) : z_twI B q L op (fun i => (oo i).toInt.toNat) (i + 1) e.toInt := by
  obtain ⟨hv, hr⟩ := hd
  obtain ⟨h1, h2, h3⟩ := z_wdY hv hk h6 hc he
  have ho : (oo i).toInt.toNat = k4.toInt.toNat := by rw [hq]
  refine ⟨h1, _, _, hr, Or.inl ?_⟩
  dsimp only
  rw [ho, h2, h3]
  rcases hR with ⟨_, a⟩ | ⟨a, _⟩
  · exact ⟨a, rfl, rfl⟩
  · omega
theorem z_twN {v c e x6 k4 : Int32} {x5 : Int} (hd : z_twI B q L op (fun i => (oo i).toInt.toNat) i v.toInt) (hq : (oo i).toInt = k4.toInt) (hR : (x5 = 1 ∧ z_tuY B q (L k4.toInt.toNat) (op k4.toInt.toNat) (v.toInt.toNat % 1024) (v.toInt.toNat / 1024) k4.toInt.toNat) ∨ (x5 = 0 ∧ ¬ z_tuY B q (L k4.toInt.toNat) (op k4.toInt.toNat) (v.toInt.toNat % 1024) (v.toInt.toNat / 1024) k4.toInt.toNat)) (h5 : x5 ≠ 1) (hk : k4.toInt.toNat < 10) (h6 : x6.toInt = ((k4.toInt.toNat : Nat) : Int) + 10) (hc : c = (1 : Int32) <<< (x6 &&& 31)) (he : e = v ||| c) : z_twI B q L op (fun i => (oo i).toInt.toNat) (i + 1) e.toInt := by
  obtain ⟨hv, hr⟩ := hd
  obtain ⟨h1, h2, h3⟩ := z_wdN hv hk h6 hc he
  have ho : (oo i).toInt.toNat = k4.toInt.toNat := by rw [hq]
  refine ⟨h1, _, _, hr, Or.inr ?_⟩
  dsimp only
  rw [ho, h2, h3]
  rcases hR with ⟨a, _⟩ | ⟨_, a⟩
  · exact absurd a h5
  · exact ⟨a, rfl, rfl⟩
theorem z_opb {p1 r w q4 p2 : Int32} (h1 : r = p1 >>> (q4 &&& 31)) (h2 : w = r &&& 1) (h0 : 0 ≤ p1.toInt) (hk : 0 ≤ q4.toInt ∧ q4.toInt < 31) (hz : p2.toInt ≠ 0 ↔ w.toInt ≠ 0) : p2.toInt ≠ 0 ↔ p1.toInt.toNat / 2 ^ q4.toInt.toNat % 2 = 1 := by
  have h := z_sbit h1 h2 h0 hk
  rw [hz]
  omega
theorem z_twB {M M0 : zH} {c y n : Nat} {p p2 : Int32} {x : Int} {P : Prop} (h : (x = 1 ∧ z_tuY B q (z_Ar M c p.toNatClampNeg).toInt (p2.toInt ≠ 0) y n p.toInt.toNat) ∨ (x = 0 ∧ ¬ z_tuY B q (z_Ar M c p.toNatClampNeg).toInt (p2.toInt ≠ 0) y n p.toInt.toNat)) (e : z_Ar M c = z_Ar M0 c) (ho : p2.toInt ≠ 0 ↔ P) : (x = 1 ∧ z_tuY B q (z_Ar M0 c p.toInt.toNat).toInt P y n p.toInt.toNat) ∨ (x = 0 ∧ ¬ z_tuY B q (z_Ar M0 c p.toInt.toNat).toInt P y n p.toInt.toNat) := by
  have h2 : z_tuY B q (z_Ar M c p.toNatClampNeg).toInt (p2.toInt ≠ 0) y n p.toInt.toNat ↔ z_tuY B q (z_Ar M0 c p.toInt.toNat).toInt P y n p.toInt.toNat := by
    rw [e]
    unfold z_tuY
    rw [ho]
    exact Iff.rfl
  rw [h2] at h
  exact h
end ZTV
theorem z_blk.k7 {T : List zK} {M : zH} {b q t m J : Nat} (h : z_blk T M) (hW : z_W M T) (hb : T[b]? = some (.inl (3, q, t, m, J))) : T[b + 7]? = some (.inr (208, 0, 10, 0, (q : Int) - 1)) := z_obf hW hb (h b q t m J hb).2.2.2.2.2.2.1
