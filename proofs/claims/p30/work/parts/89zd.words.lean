/-! outcomes as words, the easiest set -/
def z_w2 (P Q : Nat → Prop) (x : Nat) (w : Int) : Prop := (0 ≤ w ∧ w < 1048576) ∧ ∀ k : Nat, k < 10 → ((w.toNat / 2 ^ k % 2 = 1 ↔ k < x ∧ P k) ∧ (w.toNat / 2 ^ (k + 10) % 2 = 1 ↔ k < x ∧ Q k))
section ZW2
variable {P Q : Nat → Prop} {x : Nat}
theorem z_w20 {w : Int} {x0 : Int32} (hx : x0.toInt = 0) (hw : w = 0) : z_w2 P Q x0.toInt.toNat w := by
  rw [hx, hw]
  refine ⟨⟨by decide, by decide⟩, fun k hk => ⟨⟨fun h => ?_, fun h => absurd h.1 (Nat.not_lt_zero k)⟩, ⟨fun h => ?_, fun h => absurd h.1 (Nat.not_lt_zero k)⟩⟩⟩
  · rw [show ((0 : Int).toNat) = 0 from rfl, Nat.zero_div] at h
    exact absurd h (by decide)
  · rw [show ((0 : Int).toNat) = 0 from rfl, Nat.zero_div] at h
    exact absurd h (by decide)
theorem z_w2P {v c e x6 : Int32} (h : z_w2 P Q x v.toInt) (hx : x < 10) (hP : P x) (hQ : ¬ Q x) (h6 : x6.toInt = (x : Int)) (hc : c = (1 : Int32) <<< (x6 &&& 31)) (he : e = v ||| c) : z_w2 P Q (x + 1) e.toInt := by
  obtain ⟨h1, h2⟩ := h
  have h5 := z_orW2 h1 h6 (by omega) hc he
  refine ⟨h5.1, fun k hk => ⟨?_, ?_⟩⟩
  · rw [h5.2 k (by omega), (h2 k hk).1]
    refine ⟨fun a => ?_, fun ⟨a1, a2⟩ => ?_⟩
    · rcases a with a | a
      · exact ⟨by omega, a.2⟩
      · rw [a]
        exact ⟨by omega, hP⟩
    · by_cases d : k = x
      · exact Or.inr d
      · exact Or.inl ⟨by omega, a2⟩
  · rw [h5.2 (k + 10) (by omega), (h2 k hk).2]
    refine ⟨fun a => ?_, fun ⟨a1, a2⟩ => ?_⟩
    · rcases a with a | a
      · exact ⟨by omega, a.2⟩
      · exfalso; omega
    · by_cases d : k = x
      · rw [d] at a2
        exact absurd a2 hQ
      · exact Or.inl ⟨by omega, a2⟩
theorem z_w2Q {v c e x6 : Int32} (h : z_w2 P Q x v.toInt) (hx : x < 10) (hP : ¬ P x) (hQ : Q x) (h6 : x6.toInt = (x : Int) + 10) (hc : c = (1 : Int32) <<< (x6 &&& 31)) (he : e = v ||| c) : z_w2 P Q (x + 1) e.toInt := by
  obtain ⟨h1, h2⟩ := h
  have h5 := z_orW2 (x := x + 10) h1 (by omega) (by omega) hc he
  refine ⟨h5.1, fun k hk => ⟨?_, ?_⟩⟩
  · rw [h5.2 k (by omega), (h2 k hk).1]
    refine ⟨fun a => ?_, fun ⟨a1, a2⟩ => ?_⟩
    · rcases a with a | a
      · exact ⟨by omega, a.2⟩
      · exfalso; omega
    · by_cases d : k = x
      · rw [d] at a2
        exact absurd a2 hP
      · exact Or.inl ⟨by omega, a2⟩
  · rw [h5.2 (k + 10) (by omega), (h2 k hk).2]
    refine ⟨fun a => ?_, fun ⟨a1, a2⟩ => ?_⟩
    · rcases a with a | a
      · exact ⟨by omega, a.2⟩
      · have e2 : k = x := by omega
        rw [e2]
        exact ⟨by omega, hQ⟩
    · by_cases d : k = x
      · exact Or.inr (by omega)
      · exact Or.inl ⟨by omega, a2⟩
theorem z_w2N {w : Int} (h : z_w2 P Q x w) (hP : ¬ P x) (hQ : ¬ Q x) : z_w2 P Q (x + 1) w := by
  obtain ⟨h1, h2⟩ := h
  refine ⟨h1, fun k hk => ⟨?_, ?_⟩⟩
  · rw [(h2 k hk).1]
    refine ⟨fun a => ⟨by omega, a.2⟩, fun ⟨a1, a2⟩ => ?_⟩
    by_cases d : k = x
    · rw [d] at a2
      exact absurd a2 hP
    · exact ⟨by omega, a2⟩
  · rw [(h2 k hk).2]
    refine ⟨fun a => ⟨by omega, a.2⟩, fun ⟨a1, a2⟩ => ?_⟩
    by_cases d : k = x
    · rw [d] at a2
      exact absurd a2 hQ
    · exact ⟨by omega, a2⟩
end ZW2
/-- told answers are among those by heads -/
def z_tos (L : Nat → Int32) (q : Nat) (p : Int32) : Prop := (0 ≤ p.toInt ∧ p.toInt < 1048576) ∧ ∀ k : Nat, k < 10 → (p.toInt.toNat / 2 ^ k % 2 = 1 → k < q ∧ 0 < (L k).toInt) ∧ (p.toInt.toNat / 2 ^ (k + 10) % 2 = 1 → k < q ∧ (L k).toInt < 0)
theorem z_low.lz {M0 M : zH} {b q : Nat} (h : z_low M0 M b q) : z_lz M b := ⟨(h.1 0 (Nat.two_pow_pos _)).trans (z_sb0 5), (h.2 0 (Nat.two_pow_pos _)).trans (z_sb0 5)⟩
def z_nfm (F : Int32 → Int) (S : Nat → Int32) (H : Int32 → Prop) (k : Nat) (b : Int32) (mo : Int) : Prop := z_nofD F S H k b.toInt ∧ (0 ≤ b.toInt → F b = -mo)
section ZNM
variable {F : Int32 → Int} {S : Nat → Int32} {H : Int32 → Prop} {k : Nat} {s b : Int32} {mo l : Int}
theorem z_nofM0 {i0 b0 : Int32} (hi : i0.toInt = 0) (hb : b0.toInt = -1) : z_nfm F S H i0.toInt.toNat b0 mo := ⟨z_nof0 hi hb, fun h => by omega⟩
theorem z_nfmK (h : z_nfm F S H k b mo) (hs : S k = s) (hH : ¬ H s) : z_nfm F S H (k + 1) b mo := ⟨z_nofK h.1 hs hH, h.2⟩
theorem z_nfmT (h : z_nfm F S H k b mo) (hs : S k = s) (s0 : 0 ≤ s.toInt) (hH : H s) (hF : F s = -l) (hc : b.toInt < 0 ∨ mo < l) : z_nfm F S H (k + 1) s l := by
  refine ⟨z_nofT h.1 hs s0 hH ?_, fun _ => hF⟩
  by_cases c : b.toInt < 0
  · exact Or.inl c
  · have := h.2 (by omega)
    exact Or.inr (by omega)
theorem z_nfmL (h : z_nfm F S H k b mo) (hs : S k = s) (hF : F s = -l) (hc : 0 ≤ b.toInt ∧ l ≤ mo) : z_nfm F S H (k + 1) b mo := by
  have := h.2 hc.1
  exact ⟨z_nofL h.1 hs hc.1 (by omega), h.2⟩
end ZNM
/-- a set's bit among the lawful ones -/
theorem z_sh63 : ∀ k, k < 64 → ((Int32.ofNat k).toInt64.toUInt64 &&& Int64.toUInt64 63) = UInt64.ofNat k := by decide +kernel
theorem z_lawB {T : List zK} {M : zH} {N q t m pr en lb : Nat} {B : Nat → Nat} {e i k : Int32} {y z w : Int64} (hag : z_AGO T M N q t m pr en B) (hf : z_F M N 9 = some (.ref lb)) (hl : z_Lg M lb i.toNatClampNeg = y) (he : 0 ≤ e.toInt ∧ e.toInt < 64 * ((z_bl q : Nat) : Int)) (hi : i.toInt = e.toInt / 64) (hk : k = e &&& 63) (hz : z = (y.toUInt64 >>> (k.toInt64.toUInt64 &&& Int64.toUInt64 63)).toInt64) (hw : w = z &&& 1) (hc : w.toInt ≠ 0) : e.toInt.toNat < 2 ^ q ∧ B e.toInt.toNat = 0 := by
  obtain ⟨k0, -, -, -, -, -, -, ⟨lb2, f9, k9, hb⟩, -⟩ := hag
  obtain rfl : lb = lb2 := z_rfe hf f9
  have k63 : k.toInt = e.toInt % 64 := by
    have h1 := z_nn he.1
    have h0 : (e &&& 63).toBitVec.toNat = e.toBitVec.toNat % 64 := by
      rw [Int32.toBitVec_and, BitVec.toNat_and]
      exact Nat.and_two_pow_sub_one_eq_mod e.toBitVec.toNat 6
    have h2 : (e &&& 63).toInt = ((e &&& 63).toBitVec.toNat : Int) := by
      show (e &&& 63).toBitVec.toInt = _
      exact BitVec.toInt_eq_toNat_of_lt (by rw [h0]; omega)
    rw [hk, h2, h0]
    omega
  have kN : k.toInt.toNat < 64 := by omega
  have hu := z_sh63 k.toInt.toNat kN
  rw [← z_of32 (x := k) (k := k.toInt.toNat) (by omega) (by omega)] at hu
  have e1 : z_un z = z_un y / 2 ^ k.toInt.toNat := by
    rw [hz]
    exact z_unshr y hu (by rw [show (UInt64.ofNat k.toInt.toNat).toNat = k.toInt.toNat from by rw [UInt64.toNat_ofNat']; omega, Nat.mod_eq_of_lt kN])
  have e2 : z_un w = z_un z % 2 := by
    rw [hw, z_unand]
    exact Nat.and_two_pow_sub_one_eq_mod (z_un z) 1
  have e3 : z_un w = 1 := by
    rcases z_m2c (z_un z) with h | h
    · exfalso
      apply hc
      have h3 : z_un w = 0 := by omega
      have h4 : w.toBitVec.toNat = 0 := h3
      show w.toBitVec.toInt = 0
      rw [BitVec.toInt_eq_toNat_cond, h4]
      rfl
    · omega
  have e4 : y.toBitVec.getLsbD k.toInt.toNat = true := by
    rw [z_bt]
    omega
  have hbl := (hb e.toInt.toNat (by omega)).mp (by
    rw [show e.toInt.toNat / 64 = i.toInt.toNat by omega, show e.toInt.toNat % 64 = k.toInt.toNat by omega]
    show (z_Lg M lb i.toNatClampNeg).toBitVec.getLsbD k.toInt.toNat = true
    rw [hl]
    exact e4)
  exact hbl
theorem z_md1024 (x : Nat) : ∀ k, k < 10 → (x % 1024 / 2 ^ k % 2 = 1 ↔ x / 2 ^ k % 2 = 1) := fun k hk => by
  rcases k with _ | _ | _ | _ | _ | _ | _ | _ | _ | _ | k <;> omega
/-- told answers among those by heads: the easiest set has them -/
theorem z_easyH {L : Nat → Int32} {q : Nat} {p1 e : Int32} (hto : z_tos L q p1) (heb : ∀ k, k < 10 → (e.toInt.toNat / 2 ^ k % 2 = 1 ↔ k < q ∧ 0 < (L k).toInt)) (he : 0 ≤ e.toInt ∧ e.toInt < 1024) : (e &&& ((p1 &&& 1023) ||| (p1 >>> ((10 : Int32) &&& 31)))).toInt = (p1 &&& 1023).toInt := by
  obtain ⟨p0, hp⟩ := hto
  have h1 := z_nn p0.1
  have h2 := z_nn he.1
  have a1 := z_and1023 (x := p1 &&& 1023) rfl p0.1
  have a2 : (p1 >>> ((10 : Int32) &&& 31)).toInt = p1.toInt / 1024 := z_pShr (c := 1024) 10 rfl rfl (by decide)
  generalize hy : p1 &&& 1023 = y at *
  generalize hn : p1 >>> ((10 : Int32) &&& 31) = n at *
  refine congrArg Int32.toInt ?_
  apply Int32.toBitVec_inj.mp
  apply BitVec.eq_of_getLsbD_eq
  intro i hi
  rw [Int32.toBitVec_and, BitVec.getLsbD_and, Int32.toBitVec_or, BitVec.getLsbD_or]
  have be := z_bt32 (x := e) he.1 i
  have by' := z_bt32 (x := y) (by omega) i
  have bn := z_bt32 (x := n) (by omega) i
  by_cases c : i < 10
  · have k1 := (hp i c).1
    have k2 := (hp i c).2
    have k3 := heb i c
    rw [show y.toInt.toNat = p1.toInt.toNat % 1024 by omega, z_md1024 _ i c] at by'
    rw [show n.toInt.toNat = p1.toInt.toNat / 2 ^ 10 by omega, Nat.div_div_eq_div_mul, ← Nat.pow_add, Nat.add_comm 10 i] at bn
    cases hE : e.toBitVec.getLsbD i <;> cases hY : y.toBitVec.getLsbD i <;> cases hN : n.toBitVec.getLsbD i
    · rfl
    · rfl
    · exact absurd (be.mpr (k3.mpr (k1 (by'.mp hY)))) (by rw [hE]; decide)
    · exact absurd (be.mpr (k3.mpr (k1 (by'.mp hY)))) (by rw [hE]; decide)
    · rfl
    · have u1 := (k3.mp (be.mp hE)).2
      have u2 := (k2 (bn.mp hN)).2
      omega
    · rfl
    · rfl
  · have hz : y.toBitVec.getLsbD i = false := by
      cases hY : y.toBitVec.getLsbD i
      · rfl
      · have h5 := by'.mp hY
        have h3 : 2 ^ 10 ≤ 2 ^ i := Nat.pow_le_pow_right (n := 2) (by decide) (by omega)
        rw [Nat.div_eq_of_lt (by omega)] at h5
        cases h5
    have hE : e.toBitVec.getLsbD i = false := by
      cases hE : e.toBitVec.getLsbD i
      · rfl
      · have h5 := be.mp hE
        have h3 : 2 ^ 10 ≤ 2 ^ i := Nat.pow_le_pow_right (n := 2) (by decide) (by omega)
        rw [Nat.div_eq_of_lt (by omega)] at h5
        cases h5
    rw [hz, hE]
    rfl
/-- the yes ones by heads, where they are lawful: no set leans more, none that leans so is less -/
theorem z_sumle {g : Nat → Int} {s e : Nat} : ∀ m, (∀ k, k < m → (if s / 2 ^ k % 2 = 1 then g k else 0) ≤ (if e / 2 ^ k % 2 = 1 then g k else 0)) → z_sbi g s m ≤ z_sbi g e m
  | 0, _ => Int.le_refl _
  | m + 1, h => by
    have h1 := z_sumle m fun k hk => h k (by omega)
    have h2 := h m (by omega)
    show z_sbi g s m + (if s / 2 ^ m % 2 = 1 then g m else 0) ≤ z_sbi g e m + (if e / 2 ^ m % 2 = 1 then g m else 0)
    generalize (if s / 2 ^ m % 2 = 1 then g m else 0) = u at *
    generalize (if e / 2 ^ m % 2 = 1 then g m else 0) = v at *
    omega
theorem z_sumlt {g : Nat → Int} {s e j : Nat} : ∀ m, j < m → (∀ k, k < m → (if s / 2 ^ k % 2 = 1 then g k else 0) ≤ (if e / 2 ^ k % 2 = 1 then g k else 0)) → (if s / 2 ^ j % 2 = 1 then g j else 0) < (if e / 2 ^ j % 2 = 1 then g j else 0) → z_sbi g s m < z_sbi g e m
  | 0, hj, _, _ => absurd hj (Nat.not_lt_zero j)
  | m + 1, hj, h, hs => by
    show z_sbi g s m + (if s / 2 ^ m % 2 = 1 then g m else 0) < z_sbi g e m + (if e / 2 ^ m % 2 = 1 then g m else 0)
    have h2 := h m (by omega)
    by_cases c : j = m
    · subst c
      have h1 := z_sumle (g := g) (s := s) (e := e) j fun k hk => h k (by omega)
      generalize (if s / 2 ^ j % 2 = 1 then g j else 0) = u at *
      generalize (if e / 2 ^ j % 2 = 1 then g j else 0) = v at *
      omega
    · have h1 := z_sumlt m (by omega) (fun k hk => h k (by omega)) hs
      generalize (if s / 2 ^ m % 2 = 1 then g m else 0) = u at *
      generalize (if e / 2 ^ m % 2 = 1 then g m else 0) = v at *
      omega
theorem z_notsub {s e : Nat} (h : s < e) (he : e < 1024) : ∃ j, j < 10 ∧ e / 2 ^ j % 2 = 1 ∧ ¬ s / 2 ^ j % 2 = 1 := by
  by_cases c : ∃ j, j < 10 ∧ e / 2 ^ j % 2 = 1 ∧ ¬ s / 2 ^ j % 2 = 1
  · exact c
  · exfalso
    have hp : z_pof e s := fun k a => by
      by_cases d : s / 2 ^ k % 2 = 1
      · exact d
      · by_cases d2 : k < 10
        · exact absurd ⟨k, d2, a, d⟩ c
        · have h3 : 2 ^ 10 ≤ 2 ^ k := Nat.pow_le_pow_right (n := 2) (by decide) (by omega)
          rw [Nat.div_eq_of_lt (by omega)] at a
          cases a
    have := hp.le
    omega
theorem z_easy {T : List zK} {M : zH} {N q t m pr en sa : Nat} {B : Nat → Nat} {L : Nat → Int32} {p1 x e : Int32} (hag : z_AGO T M N q t m pr en B) (hsa : z_F M N 5 = some (.ref sa)) (hto : z_tos L q p1) (hlb : ∀ k, k < q → -81 ≤ (L k).toInt ∧ (L k).toInt ≤ 81) (q10 : q ≤ 10) (hx : z_w2 (fun k => 0 < (L k).toInt) (fun k => (L k).toInt < 0) q x.toInt) (he : e = x &&& 1023) (hB : e.toInt.toNat < 2 ^ q ∧ B e.toInt.toNat = 0) : z_nofD (fun s : Int32 => -(z_sbL L s.toInt.toNat 10).toInt) (z_Ar M sa) (fun s : Int32 => (s &&& ((p1 &&& 1023) ||| (p1 >>> ((10 : Int32) &&& 31)))).toInt = (p1 &&& 1023).toInt) m e.toInt := by
  have hP : 2 ^ q ≤ 1024 := Nat.pow_le_pow_right (n := 2) (by decide) q10
  obtain ⟨x0, hx⟩ := hx
  obtain ⟨e0, e1⟩ := hB
  have hee := z_and1023 he x0.1
  have heb : ∀ k, k < 10 → (e.toInt.toNat / 2 ^ k % 2 = 1 ↔ k < q ∧ 0 < (L k).toInt) := fun k hk => by
    rw [← (hx k hk).1, show e.toInt.toNat = x.toInt.toNat % 1024 by omega]
    exact z_md1024 x.toInt.toNat k hk
  obtain ⟨-, -, hm, -, -, -, ⟨sa2, f5, -, hS⟩, -⟩ := hag
  obtain rfl : sa = sa2 := z_rfe hsa f5
  have hk := hS e.toInt.toNat e0 e1
  have hkm : z_lc B e.toInt.toNat < m := by rw [hm]; exact z_lc_lt B e0 e1
  have hse : z_Ar M sa (z_lc B e.toInt.toNat) = e := Int32.toInt_inj.mp (by omega)
  have all : ∀ i, i < m → ∃ s, s < 2 ^ q ∧ B s = 0 ∧ z_lc B s = i ∧ (z_Ar M sa i).toInt = (s : Int) := fun i hi => by
    obtain ⟨s, s1, s2, s3⟩ := z_lc_ex (B := B) (2 ^ q) i (by omega)
    exact ⟨s, s1, s2, s3, by rw [← s3]; exact hS s s1 s2⟩
  have bnd : ∀ s, s < 2 ^ q → ∀ k, k < 10 → s / 2 ^ k % 2 = 1 → -81 ≤ (L k).toInt ∧ (L k).toInt ≤ 81 := fun s hs k _ h => by
    refine hlb k ?_
    by_cases c : k < q
    · exact c
    · have h3 : 2 ^ q ≤ 2 ^ k := Nat.pow_le_pow_right (n := 2) (by decide) (by omega)
      rw [Nat.div_eq_of_lt (by omega)] at h
      cases h
  have lnI : ∀ s, s < 2 ^ q → (z_sbL L s 10).toInt = z_sbi (fun k => (L k).toInt) s 10 := fun s hs => (z_sbI 10 (Nat.le_refl 10) (bnd s hs)).1
  have term : ∀ s, s < 2 ^ q → ∀ k, k < 10 → (if s / 2 ^ k % 2 = 1 then (L k).toInt else 0) ≤ (if e.toInt.toNat / 2 ^ k % 2 = 1 then (L k).toInt else 0) := fun s hs k hk2 => by
    have h := heb k hk2
    by_cases c : e.toInt.toNat / 2 ^ k % 2 = 1
    · rw [if_pos c]
      have := (h.mp c).2
      by_cases d : s / 2 ^ k % 2 = 1
      · rw [if_pos d]; exact Int.le_refl _
      · rw [if_neg d]; omega
    · rw [if_neg c]
      by_cases d : s / 2 ^ k % 2 = 1
      · rw [if_pos d]
        have hkq : k < q := by
          by_cases c2 : k < q
          · exact c2
          · have h3 : 2 ^ q ≤ 2 ^ k := Nat.pow_le_pow_right (n := 2) (by decide) (by omega)
            rw [Nat.div_eq_of_lt (by omega)] at d
            cases d
        have : ¬ 0 < (L k).toInt := fun a => c (h.mpr ⟨hkq, a⟩)
        omega
      · rw [if_neg d]; exact Int.le_refl _
  refine Or.inr ⟨z_lc B e.toInt.toNat, hkm, by rw [hse], by omega, ?_, fun i hi _ => ?_, fun i hi _ => ?_⟩
  · rw [hse]
    exact z_easyH hto heb ⟨by omega, by omega⟩
  · obtain ⟨s, s1, s2, s3, s4⟩ := all i hi
    show -(z_sbL L (z_Ar M sa (z_lc B e.toInt.toNat)).toInt.toNat 10).toInt ≤ -(z_sbL L (z_Ar M sa i).toInt.toNat 10).toInt
    rw [hse, show (z_Ar M sa i).toInt.toNat = s by omega, lnI s s1, lnI _ e0]
    have := z_sumle (g := fun k => (L k).toInt) 10 (term s s1)
    omega
  · obtain ⟨s, s1, s2, s3, s4⟩ := all i (by omega)
    have hlt : s < e.toInt.toNat := by
      by_cases c : s < e.toInt.toNat
      · exact c
      · have := z_lc_mono B e.toInt.toNat s (by omega)
        omega
    obtain ⟨j, j1, j2, j3⟩ := z_notsub hlt (by omega)
    show -(z_sbL L (z_Ar M sa (z_lc B e.toInt.toNat)).toInt.toNat 10).toInt < -(z_sbL L (z_Ar M sa i).toInt.toNat 10).toInt
    rw [hse, show (z_Ar M sa i).toInt.toNat = s by omega, lnI s s1, lnI _ e0]
    have := z_sumlt (g := fun k => (L k).toInt) (j := j) 10 j1 (term s s1) (by
      rw [if_neg j3, if_pos j2]
      exact ((heb j j1).mp j2).2)
    omega
