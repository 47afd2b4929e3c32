/-! what the class decides, as words -/
def z_dq (c : Nat) (M : zH) (b : Nat) (B : Nat → Nat) (q pr en sh J ch : Nat) (x : Int) : Prop := (0 ≤ x ∧ x < 1048576) ∧ z_wout c B q pr en (fun k => (z_Ar M (b + 4) k).toInt) sh J ch (fun j => (z_Ar M (b + 2) j).toInt.toNat) (fun j => (z_Ar M (b + 3) j).toInt.toNat) (x.toNat % 1024) (x.toNat / 1024)
/-- a way and a bench to decide for -/
def z_DP (T : List zK) (M : zH) (w b N q t m J pr en : Nat) (B : Nat → Nat) (sh jv ch : Int32) : Prop := (z_W M T ∧ z_blk T M) ∧ T[b]? = some (.inl (3, q, t, m, J)) ∧ z_F M b 0 = some (.ref N) ∧ z_AGO T M N q t m pr en B ∧ (pr < 1024 ∧ en < 1024) ∧ z_lz M b ∧ (∀ k, k < q → -81 ≤ (z_Ar M (b + 4) k).toInt ∧ (z_Ar M (b + 4) k).toInt ≤ 81) ∧ (z_F M b 4 = some (.int jv) ∧ (0 ≤ jv.toInt ∧ jv.toInt ≤ 9) ∧ ∀ j, j < jv.toInt.toNat → z_ans q (z_Ar M (b + 2) j) (z_Ar M (b + 3) j)) ∧ z_F M w 1 = some (.int sh) ∧ z_F M w 2 = some (.int ch)
section ZDQ
variable {M : zH} {b q pr en sh J ch m : Nat} {B : Nat → Nat} {x v w : Int32} {P Q : Nat → Prop}
theorem z_w2L {i : Int} (h : z_w2 P Q q i) : i.toNat % 1024 < 2 ^ q ∧ i.toNat / 1024 < 2 ^ q := by
  obtain ⟨⟨h1, h2⟩, h3⟩ := z_w2B h
  have key : ∀ a : Nat, a < 1024 → (∀ k, k < 10 → a / 2 ^ k % 2 = 1 → k < q) → a < 2 ^ q := fun a ha hk => by
    refine Nat.lt_pow_two_of_testBit _ fun i hi => ?_
    rw [Nat.testBit_eq_decide_div_mod_eq]
    refine decide_eq_false fun c => ?_
    by_cases d : i < 10
    · have := hk i d c
      omega
    · have h3 : 2 ^ 10 ≤ 2 ^ i := Nat.pow_le_pow_right (n := 2) (by decide) (by omega)
      rw [Nat.div_eq_of_lt (by omega)] at c
      cases c
  exact ⟨key _ h1 fun k hk c => ((h3 k hk).1.mp c).1, key _ h2 fun k hk c => ((h3 k hk).2.mp c).1⟩
theorem z_dq4 : z_dq 4 M b B q pr en sh J ch (0 : Int32).toInt := ⟨⟨by decide, by decide⟩, Or.inl ⟨rfl, by decide, by decide⟩⟩
theorem z_dq5 (h : z_w2 (fun k => 0 < (z_Ar M (b + 4) k).toInt) (fun k => (z_Ar M (b + 4) k).toInt < 0) q x.toInt) : z_dq 5 M b B q pr en sh J ch x.toInt := ⟨h.1, Or.inr (Or.inl ⟨rfl, z_w2B h⟩)⟩
theorem z_efcs {y n k c : Nat} (h : z_ef B q y n k c) : z_cs B q y n := by
  obtain ⟨s, h1, h2, h3, _⟩ := h
  exact ⟨s, h1, h2, h3⟩
theorem z_dq6a (h : z_w2 (fun k => pr / 2 ^ k % 2 = 1 ∧ 0 < (z_Ar M (b + 4) k).toInt) (fun k => pr / 2 ^ k % 2 = 1 ∧ (z_Ar M (b + 4) k).toInt < 0) q x.toInt) (hi : z_imp B q (x.toInt.toNat % 1024) (x.toInt.toNat / 1024) v.toInt) (hv : v.toInt < 0) : z_dq 6 M b B q pr en sh J ch x.toInt := by
  refine ⟨h.1, Or.inr (Or.inr (Or.inl ⟨rfl, _, _, z_w2B h, z_boC (z_w2B h) fun k _ => ?_⟩))⟩
  have hn : ¬ z_cs B q (x.toInt.toNat % 1024) (x.toInt.toNat / 1024) := by
    rcases hi with ⟨_, h2⟩ | ⟨_, h2, _⟩
    · exact h2
    · omega
  exact ⟨⟨Or.inl, fun a => a.elim id fun c => absurd (z_efcs c.2.1) hn⟩, ⟨Or.inl, fun a => a.elim id fun c => absurd (z_efcs c.2.1) hn⟩⟩
theorem z_dq6b {z9 n o : Int32} (h : z_w2 (fun k => pr / 2 ^ k % 2 = 1 ∧ 0 < (z_Ar M (b + 4) k).toInt) (fun k => pr / 2 ^ k % 2 = 1 ∧ (z_Ar M (b + 4) k).toInt < 0) q x.toInt) (hi : z_imp B q (x.toInt.toNat % 1024) (x.toInt.toNat / 1024) v.toInt) (hv : 0 ≤ v.toInt) (hm : 0 ≤ z9.toInt ∧ ∀ k, k < 10 → (z_ib z9 k ↔ pr / 2 ^ k % 2 = 1) ∧ (z_ib z9 (k + 10) ↔ pr / 2 ^ k % 2 = 1)) (hn : n = z9 ^^^ (-1 : Int32)) (ho : o = v &&& n) (hw : w = x ||| o) : z_dq 6 M b B q pr en sh J ch w.toInt := by
  have h2 : z_w2 (fun k => z_F1 B q (x.toInt.toNat % 1024) (x.toInt.toNat / 1024) k) (fun k => z_F0 B q (x.toInt.toNat % 1024) (x.toInt.toNat / 1024) k) q v.toInt := by
    rcases hi with ⟨h2, _⟩ | ⟨_, h2⟩
    · omega
    · exact h2
  have h3 := z_w2J h h2 hm hn ho hw
  exact ⟨h3.1, Or.inr (Or.inr (Or.inl ⟨rfl, _, _, z_w2B h, z_w2B h3⟩))⟩
/-- told answers as words: a set that has them -/
theorem z_hasW {s p : Int32} (h0 : 0 ≤ s.toInt ∧ s.toInt < 1024) (hp : 0 ≤ p.toInt ∧ p.toInt < 1048576) (hd : ∀ k, k < 10 → z_ib p k → ¬ z_ib p (k + 10)) : (s &&& ((p &&& 1023) ||| (p >>> ((10 : Int32) &&& 31)))).toInt = (p &&& 1023).toInt ↔ z_has s.toInt.toNat (p.toInt.toNat % 1024) (p.toInt.toNat / 1024) := by
  have a1 := z_and1023 (x := p &&& 1023) rfl hp.1
  have a2 : (p >>> ((10 : Int32) &&& 31)).toInt = p.toInt / 1024 := z_pShr (c := 1024) 10 rfl rfl (by decide)
  generalize p &&& 1023 = Y at *
  generalize p >>> ((10 : Int32) &&& 31) = N at *
  obtain ⟨b1, b2⟩ := z_ib_or (x := Y) (y := N) rfl (by omega) (by omega)
  obtain ⟨c1, c2, c3⟩ := z_ib_and (x := s) (y := Y ||| N) rfl h0.1 b1
  generalize s &&& (Y ||| N) = W at *
  have eY : Y.toInt.toNat = p.toInt.toNat % 1024 := by omega
  have eN : N.toInt.toNat = p.toInt.toNat / 1024 := by omega
  have hd2 : ∀ k, k < 10 → z_ib Y k → ¬ z_ib N k := fun k hk hy hn => by
    unfold z_ib at hy hn
    rw [eY, z_md1024 _ k hk] at hy
    rw [eN, z_md10] at hn
    exact hd k hk hy hn
  rw [← eY, ← eN]
  refine ⟨fun e k hk => ⟨fun hy => ?_, fun hn => ?_⟩, fun h => ?_⟩
  · have h1 : z_ib W k := by unfold z_ib; rw [e]; exact hy
    exact ((c3 k).mp h1).1
  · refine z_m2n fun hs => ?_
    have h1 : z_ib W k := (c3 k).mpr ⟨hs, (b2 k).mpr (Or.inr hn)⟩
    have h2 : z_ib Y k := by unfold z_ib at h1 ⊢; rw [← e]; exact h1
    exact hd2 k hk h2 hn
  · have h1 : W.toInt.toNat = Y.toInt.toNat := by
      refine z_beq (t := 10) (by omega) (by omega) fun k hk => ?_
      refine (c3 k).trans ⟨fun ⟨d1, d2⟩ => ?_, fun d => ⟨(h k hk).1 d, (b2 k).mpr (Or.inl d)⟩⟩
      rcases (b2 k).mp d2 with d | d
      · exact d
      · have d3 := (h k hk).2 d
        have d4 : s.toInt.toNat / 2 ^ k % 2 = 1 := d1
        omega
    omega
theorem z_w2.tos {L : Nat → Int32} (h : z_w2 (fun k => pr / 2 ^ k % 2 = 1 ∧ 0 < (L k).toInt) (fun k => pr / 2 ^ k % 2 = 1 ∧ (L k).toInt < 0) q x.toInt) : z_tos L q x := ⟨h.1, fun k hk => ⟨fun a => ⟨((h.2 k hk).1.mp a).1, ((h.2 k hk).1.mp a).2.2⟩, fun a => ⟨((h.2 k hk).2.mp a).1, ((h.2 k hk).2.mp a).2.2⟩⟩⟩
theorem z_tos.dis {L : Nat → Int32} (h : z_tos L q x) : ∀ k, k < 10 → z_ib x k → ¬ z_ib x (k + 10) := fun k hk a c => by
  have h1 := ((h.2 k hk).1 a).2
  have h2 := ((h.2 k hk).2 c).2
  omega
theorem z_tos0 {L : Nat → Int32} : z_tos L q 0 := by
  have e : (0 : Int32).toInt.toNat = 0 := rfl
  refine ⟨⟨by decide, by decide⟩, fun k _ => ⟨fun a => ?_, fun a => ?_⟩⟩
  · rw [e, Nat.zero_div] at a
    cases a
  · rw [e, Nat.zero_div] at a
    cases a
/-- the nearest that the class finds -/
theorem z_cnr {T : List zK} {M0 : zH} {N t sa : Nat} {LA : Nat → Int32} {i : Int} (hag : z_AGO T M0 N q t m pr en B) (hsa : z_F M0 N 5 = some (.ref sa)) (q10 : q ≤ 10) (hlb : ∀ k, k < q → -81 ≤ (LA k).toInt ∧ (LA k).toInt ≤ 81) (ht : z_tos LA q x) (h : z_nofD (fun s : Int32 => -(z_sbL LA s.toInt.toNat 10).toInt) (z_Ar M0 sa) (fun s : Int32 => (s &&& ((x &&& 1023) ||| (x >>> ((10 : Int32) &&& 31)))).toInt = (x &&& 1023).toInt) m i) : (i = -1 ∧ ∀ s, s < 2 ^ q → B s = 0 → ¬ z_has s (x.toInt.toNat % 1024) (x.toInt.toNat / 1024)) ∨ (0 ≤ i ∧ z_nrst B q (fun s => z_sbi (fun k => (LA k).toInt) s 10) (x.toInt.toNat % 1024) (x.toInt.toNat / 1024) i.toNat) := by
  obtain ⟨-, -, hm, -, -, -, ⟨sa2, f5, -, hS⟩, -⟩ := hag
  obtain rfl : sa = sa2 := z_rfe hsa f5
  have hP : 2 ^ q ≤ 1024 := Nat.pow_le_pow_right (n := 2) (by decide) q10
  refine z_nofN (C := 0) hm hS (fun s v hs _ hv => ?_) (fun s v hs _ hv => ?_) h
  · have e : v.toInt.toNat = s := by omega
    show -(z_sbL LA v.toInt.toNat 10).toInt = 0 - z_sbi (fun k => (LA k).toInt) s 10
    rw [e, (z_sbI 10 (Nat.le_refl 10) fun k _ hb => hlb k (z_q2b hs hb)).1]
    omega
  · have e : v.toInt.toNat = s := by omega
    have h2 := z_hasW (s := v) (p := x) ⟨by omega, by omega⟩ ht.1 ht.dis
    rw [e] at h2
    exact h2
theorem z_dq7a (h : z_w2 (fun k => en / 2 ^ k % 2 = 1 ∧ 0 < (z_Ar M (b + 4) k).toInt) (fun k => en / 2 ^ k % 2 = 1 ∧ (z_Ar M (b + 4) k).toInt < 0) q x.toInt) (hi : (v.toInt = -1 ∧ ∀ s, s < 2 ^ q → B s = 0 → ¬ z_has s (x.toInt.toNat % 1024) (x.toInt.toNat / 1024)) ∨ (0 ≤ v.toInt ∧ z_nrst B q (fun s => z_sbi (fun k => (z_Ar M (b + 4) k).toInt) s 10) (x.toInt.toNat % 1024) (x.toInt.toNat / 1024) v.toInt.toNat)) (hv : v.toInt < 0) : z_dq 7 M b B q pr en sh J ch x.toInt := by
  rcases hi with ⟨_, h2⟩ | ⟨h2, _⟩
  · exact ⟨h.1, Or.inr (Or.inr (Or.inr (Or.inl ⟨rfl, _, _, z_w2B h, Or.inl ⟨h2, rfl, rfl⟩⟩)))⟩
  · omega
theorem z_dq7b {z9 n o u : Int32} (h : z_w2 (fun k => en / 2 ^ k % 2 = 1 ∧ 0 < (z_Ar M (b + 4) k).toInt) (fun k => en / 2 ^ k % 2 = 1 ∧ (z_Ar M (b + 4) k).toInt < 0) q x.toInt) (hi : (v.toInt = -1 ∧ ∀ s, s < 2 ^ q → B s = 0 → ¬ z_has s (x.toInt.toNat % 1024) (x.toInt.toNat / 1024)) ∨ (0 ≤ v.toInt ∧ z_nrst B q (fun s => z_sbi (fun k => (z_Ar M (b + 4) k).toInt) s 10) (x.toInt.toNat % 1024) (x.toInt.toNat / 1024) v.toInt.toNat)) (hv : 0 ≤ v.toInt) (hu : z_w2 (fun k => v.toInt.toNat / 2 ^ k % 2 = 1) (fun k => ¬ v.toInt.toNat / 2 ^ k % 2 = 1) q u.toInt) (hm : 0 ≤ z9.toInt ∧ ∀ k, k < 10 → (z_ib z9 k ↔ en / 2 ^ k % 2 = 1) ∧ (z_ib z9 (k + 10) ↔ en / 2 ^ k % 2 = 1)) (hn : n = z9 ^^^ (-1 : Int32)) (ho : o = u &&& n) (hw : w = x ||| o) : z_dq 7 M b B q pr en sh J ch w.toInt := by
  rcases hi with ⟨h2, _⟩ | ⟨_, h2⟩
  · omega
  · have h3 := z_w2J h hu hm hn ho hw
    exact ⟨h3.1, Or.inr (Or.inr (Or.inr (Or.inl ⟨rfl, _, _, z_w2B h, Or.inr ⟨_, h2, z_w2B h3⟩⟩)))⟩
theorem z_dq8 {u : Int32} (hi : z_nrst B q (fun s => z_sbi (fun k => (z_Ar M (b + 4) k).toInt) s 10) 0 0 v.toInt.toNat) (hu : z_w2 (fun k => v.toInt.toNat / 2 ^ k % 2 = 1) (fun k => ¬ v.toInt.toNat / 2 ^ k % 2 = 1) q u.toInt) : z_dq 8 M b B q pr en sh J ch u.toInt := ⟨hu.1, Or.inr (Or.inr (Or.inr (Or.inr (Or.inl ⟨rfl, _, hi, z_w2B hu⟩))))⟩
theorem z_tuC {L : Nat → Int} {op op2 : Nat → Prop} {o o2 : Nat → Nat} : ∀ i y n, (∀ k, k < i → o k = o2 k) → (∀ k, k < i → (op (o k) ↔ op2 (o k))) → z_tuR B q L op o i y n → z_tuR B q L op2 o2 i y n
  | 0, _, _, _, _, h => h
  | i + 1, y, n, ho, hp, h => by
    obtain ⟨y0, n0, h1, h2⟩ := h
    refine ⟨y0, n0, z_tuC i y0 n0 (fun k hk => ho k (by omega)) (fun k hk => hp k (by omega)) h1, ?_⟩
    have e : z_tuY B q (L (o i)) (op (o i)) y0 n0 (o i) ↔ z_tuY B q (L (o i)) (op2 (o i)) y0 n0 (o i) := by
      unfold z_tuY
      rw [hp i (Nat.lt_succ_self i)]
    rw [← ho i (Nat.lt_succ_self i), ← e]
    exact h2
theorem z_dq9 (h : z_twI B q (fun k => (z_Ar M (b + 4) k).toInt) (fun k => (0 : Int32).toInt.toNat / 2 ^ k % 2 = 1) (fun i => (sh + i) % q) q x.toInt) : z_dq 9 M b B q pr en sh J ch x.toInt := ⟨h.1, Or.inr (Or.inr (Or.inr (Or.inr (Or.inr (Or.inl ⟨rfl, z_tuC q _ _ (fun _ _ => rfl) (fun k _ => ⟨fun a => (by
  rw [show (0 : Int32).toInt.toNat = 0 from rfl, Nat.zero_div] at a
  cases a), fun a => a.elim⟩) h.2⟩)))))⟩
theorem z_dq10 (h : z_twI B q (fun k => (z_Ar M (b + 4) k).toInt) (fun k => v.toInt.toNat / 2 ^ k % 2 = 1) (fun i => (sh + i) % q) q x.toInt) (hv : (ch < J ∧ z_Ar M (b + 2) ch = v) ∨ (¬ ch < J ∧ v.toInt = 0)) : z_dq 10 M b B q pr en sh J ch x.toInt := ⟨h.1, Or.inr (Or.inr (Or.inr (Or.inr (Or.inr (Or.inr (Or.inl ⟨rfl, z_tuC q _ _ (fun _ _ => rfl) (fun k _ => by
  rcases hv with ⟨h1, h2⟩ | ⟨h1, h2⟩
  · show v.toInt.toNat / 2 ^ _ % 2 = 1 ↔ ch < J ∧ (z_Ar M (b + 2) ch).toInt.toNat / 2 ^ _ % 2 = 1
    rw [h2]
    exact ⟨fun a => ⟨h1, a⟩, fun a => a.2⟩
  · refine ⟨fun a => ?_, fun a => absurd a.1 h1⟩
    rw [h2, show (0 : Int).toNat = 0 from rfl, Nat.zero_div] at a
    cases a) h.2⟩))))))⟩
theorem z_dq11n (h : ¬ ch < J) : z_dq 11 M b B q pr en sh J ch (0 : Int32).toInt := ⟨⟨by decide, by decide⟩, Or.inr (Or.inr (Or.inr (Or.inr (Or.inr (Or.inr (Or.inr ⟨rfl, Or.inr ⟨h, by decide, by decide⟩⟩))))))⟩
/-- the leader's answers as a word -/
theorem z_ldw {Y N p : Int32} (ha : z_ans q Y N) (q10 : q ≤ 10) (hp : p = N <<< ((10 : Int32) &&& 31)) (hx : x = Y ||| p) : (0 ≤ x.toInt ∧ x.toInt < 1048576) ∧ x.toInt.toNat % 1024 = Y.toInt.toNat ∧ x.toInt.toNat / 1024 = N.toInt.toNat := by
  obtain ⟨⟨y0, y1⟩, ⟨n0, n1⟩, _⟩ := ha
  have hP : 2 ^ q ≤ 1024 := Nat.pow_le_pow_right (n := 2) (by decide) q10
  have hpv := z_shl10 hp n0 (by omega)
  obtain ⟨b1, b2⟩ := z_ib_or hx y0 (by omega)
  have hb : x.toInt < 1048576 := by
    obtain ⟨u1, u2⟩ := z_nn y0
    obtain ⟨v1, v2⟩ := z_nn (x := p) (by omega)
    obtain ⟨w1, w2⟩ := z_nn b1
    have e : x.toBitVec.toNat = Y.toBitVec.toNat ||| p.toBitVec.toNat := by rw [hx, Int32.toBitVec_or, BitVec.toNat_or]
    have h5 : x.toBitVec.toNat < 2 ^ 20 := by rw [e]; exact Nat.or_lt_two_pow (by omega) (by omega)
    omega
  refine ⟨⟨b1, hb⟩, z_beq (t := 10) (by omega) (by omega) fun k hk => ?_, z_beq (t := 10) (by omega) (by omega) fun k hk => ?_⟩
  · obtain ⟨u1, _⟩ := z_ib_up hpv n0 k hk
    rw [z_md1024 _ k hk]
    exact (b2 k).trans ⟨fun a => a.elim id fun c => absurd c u1, Or.inl⟩
  · obtain ⟨_, u2⟩ := z_ib_up hpv n0 k hk
    have u3 := z_ib_hi y0 (by omega) k
    rw [z_md10]
    exact (b2 (k + 10)).trans ⟨fun a => u2.mp (a.elim (fun c => absurd c u3) id), fun a => Or.inr (u2.mpr a)⟩
theorem z_dq11 {Y N p : Int32} (hc : ch < J) (hY : z_Ar M (b + 2) ch = Y) (hN : z_Ar M (b + 3) ch = N) (ha : z_ans q Y N) (q10 : q ≤ 10) (hp : p = N <<< ((10 : Int32) &&& 31)) (hx : x = Y ||| p) (hi : z_imp B q (x.toInt.toNat % 1024) (x.toInt.toNat / 1024) v.toInt) (hw : (0 ≤ v.toInt ∧ w = v) ∨ (v.toInt < 0 ∧ w = x)) : z_dq 11 M b B q pr en sh J ch w.toInt := by
  obtain ⟨hx0, eY, eN⟩ := z_ldw ha q10 hp hx
  obtain ⟨⟨y0, y1⟩, ⟨n0, n1⟩, _⟩ := ha
  rw [eY, eN] at hi
  have hP : 2 ^ q ≤ 1024 := Nat.pow_le_pow_right (n := 2) (by decide) q10
  have lt : ∀ k : Nat, (Y.toInt.toNat / 2 ^ k % 2 = 1 → k < q) ∧ (N.toInt.toNat / 2 ^ k % 2 = 1 → k < q) := fun k => ⟨z_q2b (by omega), z_q2b (by omega)⟩
  rcases hi with ⟨h1, h2⟩ | ⟨h1, h2, h3⟩
  · rcases hw with ⟨h4, _⟩ | ⟨_, rfl⟩
    · omega
    · refine ⟨hx0, Or.inr (Or.inr (Or.inr (Or.inr (Or.inr (Or.inr (Or.inr ⟨rfl, Or.inl ⟨hc, ?_⟩⟩))))))⟩
      show z_wbo q (fun k => (z_Ar M (b + 2) ch).toInt.toNat / 2 ^ k % 2 = 1 ∨ (¬ (z_Ar M (b + 2) ch).toInt.toNat / 2 ^ k % 2 = 1 ∧ ¬ (z_Ar M (b + 3) ch).toInt.toNat / 2 ^ k % 2 = 1 ∧ z_F1 B q (z_Ar M (b + 2) ch).toInt.toNat (z_Ar M (b + 3) ch).toInt.toNat k)) (fun k => (z_Ar M (b + 3) ch).toInt.toNat / 2 ^ k % 2 = 1 ∨ (¬ (z_Ar M (b + 2) ch).toInt.toNat / 2 ^ k % 2 = 1 ∧ ¬ (z_Ar M (b + 3) ch).toInt.toNat / 2 ^ k % 2 = 1 ∧ z_F0 B q (z_Ar M (b + 2) ch).toInt.toNat (z_Ar M (b + 3) ch).toInt.toNat k)) _ _
      rw [hY, hN, eY, eN]
      exact ⟨⟨by omega, by omega⟩, fun k _ => ⟨⟨fun a => ⟨(lt k).1 a, Or.inl a⟩, fun a => a.2.elim id fun c => absurd (z_efcs c.2.2.1) h2⟩, ⟨fun a => ⟨(lt k).2 a, Or.inl a⟩, fun a => a.2.elim id fun c => absurd (z_efcs c.2.2.1) h2⟩⟩⟩
  · rcases hw with ⟨_, rfl⟩ | ⟨h4, _⟩
    · have h3' : z_w2 (fun k => z_F1 B q Y.toInt.toNat N.toInt.toNat k) (fun k => z_F0 B q Y.toInt.toNat N.toInt.toNat k) q w.toInt := ⟨h2, h3⟩
      refine ⟨h2, Or.inr (Or.inr (Or.inr (Or.inr (Or.inr (Or.inr (Or.inr ⟨rfl, Or.inl ⟨hc, ?_⟩⟩))))))⟩
      show z_wbo q (fun k => (z_Ar M (b + 2) ch).toInt.toNat / 2 ^ k % 2 = 1 ∨ (¬ (z_Ar M (b + 2) ch).toInt.toNat / 2 ^ k % 2 = 1 ∧ ¬ (z_Ar M (b + 3) ch).toInt.toNat / 2 ^ k % 2 = 1 ∧ z_F1 B q (z_Ar M (b + 2) ch).toInt.toNat (z_Ar M (b + 3) ch).toInt.toNat k)) (fun k => (z_Ar M (b + 3) ch).toInt.toNat / 2 ^ k % 2 = 1 ∨ (¬ (z_Ar M (b + 2) ch).toInt.toNat / 2 ^ k % 2 = 1 ∧ ¬ (z_Ar M (b + 3) ch).toInt.toNat / 2 ^ k % 2 = 1 ∧ z_F0 B q (z_Ar M (b + 2) ch).toInt.toNat (z_Ar M (b + 3) ch).toInt.toNat k)) _ _
      rw [hY, hN]
      obtain ⟨s, s1, s2, s3⟩ := h1
      refine z_boC (z_w2B h3') fun k hk => ?_
      have hf : ∀ c : Nat, (s / 2 ^ k % 2 = c → z_ef B q Y.toInt.toNat N.toInt.toNat k c) := fun c e => ⟨s, s1, s2, s3, e⟩
      have k10 : k < 10 := by omega
      by_cases cy : Y.toInt.toNat / 2 ^ k % 2 = 1
      · have f1 : z_F1 B q Y.toInt.toNat N.toInt.toNat k := ⟨hf 1 ((s3 k k10).1 cy), fun ⟨a, _, _, a3, a4⟩ => by have := (a3 k k10).1 cy; omega⟩
        have nn : ¬ N.toInt.toNat / 2 ^ k % 2 = 1 := fun cn => by
          have u1 := (s3 k k10).1 cy
          have u2 := (s3 k k10).2 cn
          omega
        exact ⟨⟨fun _ => Or.inl cy, fun _ => f1⟩, ⟨fun a => absurd f1.1 a.2, fun a => a.elim (fun cn => absurd cn nn) fun c => absurd cy c.1⟩⟩
      · by_cases cn : N.toInt.toNat / 2 ^ k % 2 = 1
        · have f0 : z_F0 B q Y.toInt.toNat N.toInt.toNat k := ⟨hf 0 ((s3 k k10).2 cn), fun ⟨a, _, _, a3, a4⟩ => by have := (a3 k k10).2 cn; omega⟩
          exact ⟨⟨fun a => absurd f0.1 a.2, fun a => a.elim (fun c => absurd c cy) fun c => absurd cn c.2.1⟩, ⟨fun _ => Or.inl cn, fun _ => f0⟩⟩
        · exact ⟨⟨fun a => Or.inr ⟨cy, cn, a⟩, fun a => a.elim (fun c => absurd c cy) fun c => c.2.2⟩, ⟨fun a => Or.inr ⟨cy, cn, a⟩, fun a => a.elim (fun c => absurd c cn) fun c => c.2.2⟩⟩
    · omega
end ZDQ
