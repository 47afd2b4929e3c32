/-! what a making leaves of the older cells; sets and their numbers -/
/-- sums -/
def z_su (f : Nat → Nat) : Nat → Nat
  | 0 => 0
  | n + 1 => z_su f n + f n
theorem z_su_add (f : Nat → Nat) (a : Nat) : ∀ b, z_su f (a + b) = z_su f a + z_su (fun i => f (a + i)) b
  | 0 => rfl
  | b + 1 => by
    show z_su f (a + b) + f (a + b) = z_su f a + (z_su (fun i => f (a + i)) b + f (a + b))
    rw [z_su_add f a b]
    omega
theorem z_su_eq {f g : Nat → Nat} : ∀ n, (∀ i, i < n → f i = g i) → z_su f n = z_su g n
  | 0, _ => rfl
  | n + 1, h => by
    show z_su f n + f n = z_su g n + g n
    rw [z_su_eq n (fun i hi => h i (by omega)), h n (Nat.lt_succ_self n)]
theorem z_su_z {f : Nat → Nat} {a : Nat} : ∀ n, a ≤ n → (∀ i, a ≤ i → i < n → f i = 0) → z_su f n = z_su f a
  | 0, h, _ => by rw [Nat.le_zero.mp h]
  | n + 1, h, h0 => by
    by_cases c : a = n + 1
    · rw [c]
    · show z_su f n + f n = z_su f a
      rw [z_su_z n (by omega) (fun i h1 h2 => h0 i h1 (by omega)), h0 n (by omega) (Nat.lt_succ_self n)]
      rfl
theorem z_pc8s (N : Nat) : z_pc8 (N % 256) = z_su (fun i => N / 2 ^ i % 2) 8 := by
  have s0 : N / 2 ^ 0 % 2 = N % 256 % 2 := by show N / 1 % 2 = _; omega
  have s1 : N / 2 ^ 1 % 2 = N % 256 / 2 % 2 := by show N / 2 % 2 = _; omega
  have s2 : N / 2 ^ 2 % 2 = N % 256 / 4 % 2 := by show N / 4 % 2 = _; omega
  have s3 : N / 2 ^ 3 % 2 = N % 256 / 8 % 2 := by show N / 8 % 2 = _; omega
  have s4 : N / 2 ^ 4 % 2 = N % 256 / 16 % 2 := by show N / 16 % 2 = _; omega
  have s5 : N / 2 ^ 5 % 2 = N % 256 / 32 % 2 := by show N / 32 % 2 = _; omega
  have s6 : N / 2 ^ 6 % 2 = N % 256 / 64 % 2 := by show N / 64 % 2 = _; omega
  have s7 : N / 2 ^ 7 % 2 = N % 256 / 128 % 2 := by show N / 128 % 2 = _; omega
  show z_pc8 (N % 256) = 0 + N / 2 ^ 0 % 2 + N / 2 ^ 1 % 2 + N / 2 ^ 2 % 2 + N / 2 ^ 3 % 2 + N / 2 ^ 4 % 2 + N / 2 ^ 5 % 2 + N / 2 ^ 6 % 2 + N / 2 ^ 7 % 2
  rw [s0, s1, s2, s3, s4, s5, s6, s7, Nat.zero_add]
  rfl
theorem z_pcs_su : ∀ k N, z_pcs k N = z_su (fun i => N / 2 ^ i % 2) (8 * k)
  | 0, _ => rfl
  | k + 1, N => by
    have e : z_pcs (k + 1) N = z_pc8 (N % 256) + z_pcs k (N / 256) := rfl
    have e2 : 8 * (k + 1) = 8 + 8 * k := by omega
    rw [e, e2, z_su_add, z_pcs_su k (N / 256), z_pc8s]
    rw [z_su_eq (f := fun i => N / 256 / 2 ^ i % 2) (g := fun i => N / 2 ^ (8 + i) % 2) (8 * k) (fun i _ => by
      show N / 256 / 2 ^ i % 2 = N / 2 ^ (8 + i) % 2
      rw [Nat.div_div_eq_div_mul, Nat.pow_add])]
/-- a word's bits -/
theorem z_bt (x : Int64) (i : Nat) : x.toBitVec.getLsbD i = true ↔ z_un x / 2 ^ i % 2 = 1 := by
  show (z_un x).testBit i = true ↔ _
  rw [Nat.testBit_eq_decide_div_mod_eq, decide_eq_true_eq]
theorem z_sm_su (l : Nat → Int64) : ∀ n, z_sm l n = z_su (fun s => z_un (l (s / 64)) / 2 ^ (s % 64) % 2) (64 * n)
  | 0 => rfl
  | n + 1 => by
    have e : z_sm l (n + 1) = z_sm l n + z_pcs 8 (z_un (l n)) := rfl
    have e2 : 64 * (n + 1) = 64 * n + 64 := by omega
    rw [e, e2, z_su_add, ← z_sm_su l n, z_pcs_su]
    rw [z_su_eq (f := fun i => z_un (l n) / 2 ^ i % 2) (g := fun i => z_un (l ((64 * n + i) / 64)) / 2 ^ ((64 * n + i) % 64) % 2) (8 * 8) (fun i hi => by
      have hi : i < 64 := hi
      show z_un (l n) / 2 ^ i % 2 = z_un (l ((64 * n + i) / 64)) / 2 ^ ((64 * n + i) % 64) % 2
      rw [show (64 * n + i) / 64 = n from by omega, show (64 * n + i) % 64 = i from by omega])]
theorem z_lc_su (B : Nat → Nat) : ∀ n, z_lc B n = z_su (fun s => if B s = 0 then 1 else 0) n
  | 0 => rfl
  | n + 1 => by
    show z_lc B n + (if B n = 0 then 1 else 0) = z_su (fun s => if B s = 0 then 1 else 0) n + (if B n = 0 then 1 else 0)
    rw [z_lc_su B n]
theorem z_many {B : Nat → Nat} {q bl : Nat} {l : Nat → Int64} (h : z_lwb B q bl l) (hq : 2 ^ q ≤ 64 * bl) : z_sm l bl = z_lc B (2 ^ q) := by
  have hz : ∀ i, 2 ^ q ≤ i → i < 64 * bl → z_un (l (i / 64)) / 2 ^ (i % 64) % 2 = 0 := fun i h1 h2 => by
    have h3 := h i h2
    rw [z_bt] at h3
    have h4 := Nat.mod_lt (z_un (l (i / 64)) / 2 ^ (i % 64)) (show 0 < 2 by decide)
    generalize z_un (l (i / 64)) / 2 ^ (i % 64) % 2 = v at *
    by_cases c : v = 1
    · exact absurd (h3.mp c).1 (by omega)
    · omega
  rw [z_sm_su, z_lc_su, z_su_z (f := fun s => z_un (l (s / 64)) / 2 ^ (s % 64) % 2) (64 * bl) hq hz]
  refine z_su_eq _ (fun i hi => ?_)
  show z_un (l (i / 64)) / 2 ^ (i % 64) % 2 = if B i = 0 then 1 else 0
  have h3 := h i (Nat.lt_of_lt_of_le hi hq)
  rw [z_bt] at h3
  have h4 := Nat.mod_lt (z_un (l (i / 64)) / 2 ^ (i % 64)) (show 0 < 2 by decide)
  generalize z_un (l (i / 64)) / 2 ^ (i % 64) % 2 = v at *
  by_cases c : B i = 0
  · rw [if_pos c]
    exact h3.mpr ⟨hi, c⟩
  · rw [if_neg c]
    by_cases c2 : v = 1
    · exact absurd (h3.mp c2).2 c
    · omega
theorem z_blq {q : Nat} : (6 < q → 64 * z_bl q = 2 ^ q ∧ 64 ≤ 2 ^ q) ∧ (q ≤ 6 → z_bl q = 1 ∧ 2 ^ q ≤ 64) := by
  refine ⟨fun h => ?_, fun h => ⟨z_blle h, Nat.pow_le_pow_right (by decide) h⟩⟩
  rw [z_blgt h]
  have e : 2 ^ q = 2 ^ 6 * 2 ^ (q - 6) := by rw [← Nat.pow_add]; congr 1; omega
  have hp : 0 < 2 ^ (q - 6) := Nat.pow_pos (by decide)
  have e6 : (2 : Nat) ^ 6 = 64 := rfl
  rw [e, e6]
  exact ⟨rfl, by omega⟩
theorem z_blq2 {q : Nat} : 2 ^ q ≤ 64 * z_bl q := by
  by_cases c : q ≤ 6
  · have := z_blq.2 c; omega
  · have := (z_blq (q := q)).1 (by omega); omega
theorem z_hi2 {q s : Nat} (hs : s < 64 * z_bl q) : s % 64 < 2 ^ q ↔ s < 2 ^ q := by
  by_cases c : q ≤ 6
  · have := z_blq.2 c
    rw [show s % 64 = s from by omega]
  · have := (z_blq (q := q)).1 (by omega)
    exact ⟨fun _ => by omega, fun _ => by omega⟩
/-- the words of an agenda's making say which sets are lawful -/
theorem z_lwb_of {bb : Nat → Int} {nn : Nat} {nu : Int → Int} {ts : Nat → Nat} {w wv : Int64} {t q : Nat} {g l : Nat → Int64} (hw : z_whb q w) (hwv : z_whb q wv) (hk : z_kw bb nn nu ts w (z_bl q) t g (z_bl q) 0) (hl : z_lbk wv g (z_bl q) t l (z_bl q)) : z_lwb (z_brk bb nn nu ts t) q (z_bl q) l := fun s hs => by
  have hb : s / 64 < z_bl q := by omega
  have hi : s % 64 < 64 := Nat.mod_lt _ (by decide)
  have h1 := hl (s / 64) hb (s % 64) hi
  have es : 64 * (s / 64) + s % 64 = s := by omega
  have hi2 := z_hi2 hs
  rw [h1, hwv _ hi, hi2, z_brk_0]
  refine ⟨fun a => ⟨a.1, fun i hit => ?_⟩, fun a => ⟨a.1, fun t' ht => ?_⟩⟩
  · have h2 := (hk i (s / 64) hit hb (Or.inl hb) (s % 64) hi).mp (a.2 i hit)
    rw [es] at h2
    exact h2.1
  · refine (hk t' (s / 64) ht hb (Or.inl hb) (s % 64) hi).mpr ⟨?_, (hw _ hi).mpr (hi2.mpr a.1)⟩
    rw [es]
    exact a.2 t' ht
theorem z_brk_bit {bb : Nat → Int} {nn : Nat} {nu : Int → Int} {ts : Nat → Nat} : ∀ (t s i : Nat), i < t → (z_brk bb nn nu ts t s / 2 ^ i % 2 = 0 ↔ z_tv bb nn nu (ts i) s = 1) := by
  intro t
  induction t with
  | zero => intro s i hi; exact absurd hi (Nat.not_lt_zero i)
  | succ t ih =>
    intro s i hi
    have e : z_brk bb nn nu ts (t + 1) s = z_brk bb nn nu ts t s + (if z_tv bb nn nu (ts t) s = 1 then 0 else 2 ^ t) := rfl
    have hlt := z_brk_lt (bb := bb) (nn := nn) (nu := nu) (ts := ts) t s
    have hp : ∀ k, 0 < 2 ^ k := fun k => Nat.pow_pos (by decide)
    rw [e]
    by_cases c : i = t
    · subst c
      by_cases c2 : z_tv bb nn nu (ts i) s = 1
      · rw [if_pos c2, Nat.add_zero, Nat.div_eq_of_lt hlt]
        exact ⟨fun _ => c2, fun _ => rfl⟩
      · rw [if_neg c2, Nat.add_div_right _ (hp i), Nat.div_eq_of_lt hlt]
        exact ⟨fun h => absurd h (by decide), fun h => absurd h c2⟩
    · rw [← ih s i (by omega)]
      by_cases c2 : z_tv bb nn nu (ts t) s = 1
      · rw [if_pos c2, Nat.add_zero]
      · have e2 : 2 ^ t = 2 ^ i * (2 * 2 ^ (t - 1 - i)) := by rw [← Nat.pow_succ', ← Nat.pow_add]; congr 1; omega
        rw [if_neg c2, e2, Nat.add_mul_div_left _ _ (hp i), Nat.add_mul_mod_self_left]
/-- the words of the ties -/
theorem z_tb_of {bb : Nat → Int} {nn : Nat} {nu : Int → Int} {ts : Nat → Nat} {w : Int64} {t q : Nat} {g : Nat → Int64} (hw : z_whb q w) (hk : z_kw bb nn nu ts w (z_bl q) t g (z_bl q) 0) : z_tbt (z_brk bb nn nu ts t) t q (z_bl q) g := fun i hi s hs => by
  have hb : s / 64 < z_bl q := by omega
  have h1 := hk i (s / 64) hi hb (Or.inl hb) (s % 64) (Nat.mod_lt _ (by decide))
  rw [show 64 * (s / 64) + s % 64 = s from by omega] at h1
  rw [h1, hw _ (Nat.mod_lt _ (by decide)), z_hi2 hs, z_brk_bit t s i hi]
  exact And.comm
theorem z_LS0 {B : Nat → Nat} {S : Nat → Int32} : z_LS B 0 S := fun s hs => absurd hs (Nat.not_lt_zero s)
theorem z_LSS {B : Nat → Nat} {n k : Nat} {S S2 : Nat → Int32} {v : Int32} (h : z_LS B n S) (hB : B n = 0) (e : S2 = upd S k v) (hk : k = z_lc B n) (hv : v.toInt = (n : Int)) : z_LS B (n + 1) S2 := fun s hs h0 => by
  rw [e]
  show (if z_lc B s = k then v else S (z_lc B s)).toInt = _
  by_cases c : s = n
  · rw [c, if_pos hk.symm]
    exact hv
  · have h2 := z_lc_lt B (show s < n by omega) h0
    rw [if_neg (by omega)]
    exact h s (by omega) h0
theorem z_LSN {B : Nat → Nat} {n : Nat} {S : Nat → Int32} (h : z_LS B n S) (hB : B n ≠ 0) : z_LS B (n + 1) S := fun s hs h0 => by
  by_cases c : s = n
  · exact absurd (c ▸ h0) hB
  · exact h s (by omega) h0
theorem z_lcE {B : Nat → Nat} {n N : Nat} (h2 : z_lc B N ≤ z_lc B n) {s : Nat} (hs : s < N) (h0 : B s = 0) : s < n := by
  by_cases c : s < n
  · exact c
  · have h3 := z_lc_lt B hs h0
    have h4 := z_lc_mono B n s (by omega)
    omega
theorem z_LSE {B : Nat → Nat} {n N : Nat} {S : Nat → Int32} (h : z_LS B n S) (h2 : z_lc B N ≤ z_lc B n) : z_LS B N S := fun s hs h0 => h s (z_lcE h2 hs h0) h0
theorem z_lc1 {B : Nat → Nat} {n : Nat} (h : B n = 0) : z_lc B (n + 1) = z_lc B n + 1 := by
  show z_lc B n + (if B n = 0 then 1 else 0) = _
  rw [if_pos h]
theorem z_lcN {B : Nat → Nat} {n : Nat} (h : B n ≠ 0) : z_lc B (n + 1) = z_lc B n := by
  show z_lc B n + (if B n = 0 then 1 else 0) = _
  rw [if_neg h]
  rfl
theorem z_YO0 {B : Nat → Nat} {q sp : Nat} {Y : Nat → Int64} (h : Y = fun _ => 0) : z_YO B 0 0 q sp Y := fun i _ j _ => by
  rw [h]
  refine ⟨fun a => ?_, fun ⟨s, h1, _⟩ => ?_⟩
  · have e := z_nobit (j % 64) (Nat.mod_lt _ (by decide))
    have a : ((0 : Int64)).toBitVec.getLsbD (j % 64) = true := a
    rw [e] at a
    cases a
  · rcases h1 with h1 | ⟨_, h1⟩
    · exact absurd h1 (Nat.not_lt_zero _)
    · exact absurd h1 (Nat.not_lt_zero _)
theorem z_YON {B : Nat → Nat} {n x q sp : Nat} {Y : Nat → Int64} (h : z_YO B n x q sp Y) (hx : q ≤ x) : z_YO B (n + 1) 0 q sp Y := fun i hi j hj => by
  rw [h i hi j hj]
  refine ⟨fun ⟨s, h1, h2⟩ => ⟨s, Or.inl ?_, h2⟩, fun ⟨s, h1, h2⟩ => ⟨s, ?_, h2⟩⟩
  · rcases h1 with h1 | ⟨h1, _⟩
    · omega
    · omega
  · rcases h1 with h1 | ⟨_, h1⟩
    · by_cases c : s = n
      · exact Or.inr ⟨c, by omega⟩
      · exact Or.inl (by omega)
    · exact absurd h1 (Nat.not_lt_zero _)
theorem z_YOM {B : Nat → Nat} {n q sp : Nat} {Y : Nat → Int64} (h : z_YO B n 0 q sp Y) (hB : B n ≠ 0) : z_YO B (n + 1) 0 q sp Y := fun i hi j hj => by
  rw [h i hi j hj]
  refine ⟨fun ⟨s, h1, h2⟩ => ⟨s, Or.inl ?_, h2⟩, fun ⟨s, h1, h2⟩ => ⟨s, Or.inl ?_, h2⟩⟩
  · rcases h1 with h1 | ⟨_, h1⟩
    · omega
    · exact absurd h1 (Nat.not_lt_zero _)
  · rcases h1 with h1 | ⟨_, h1⟩
    · by_cases c : s = n
      · exact absurd (c ▸ h2.1) hB
      · omega
    · exact absurd h1 (Nat.not_lt_zero _)
theorem z_YOZ {B : Nat → Nat} {n x q sp : Nat} {Y : Nat → Int64} (h : z_YO B n x q sp Y) (hb : n / 2 ^ x % 2 ≠ 1) : z_YO B n (x + 1) q sp Y := fun i hi j hj => by
  rw [h i hi j hj]
  refine ⟨fun ⟨s, h1, h2⟩ => ⟨s, ?_, h2⟩, fun ⟨s, h1, h2⟩ => ⟨s, ?_, h2⟩⟩
  · rcases h1 with h1 | ⟨h1, h3⟩
    · exact Or.inl h1
    · exact Or.inr ⟨h1, by omega⟩
  · rcases h1 with h1 | ⟨h1, h3⟩
    · exact Or.inl h1
    · by_cases c : i = x
      · rw [c, h1] at h2
        exact absurd h2.2.2 hb
      · exact Or.inr ⟨h1, by omega⟩
theorem z_YOS {B : Nat → Nat} {n x q sp k : Nat} {Y Y2 : Nat → Int64} {v : Int64} (h : z_YO B n x q sp Y) (hB : B n = 0) (hb : n / 2 ^ x % 2 = 1) (hL : z_lc B n < 64 * sp) (e : Y2 = z_updL Y k v) (hk : k = x * sp + z_lc B n / 64) (hv : ∀ i, i < 64 → (v.toBitVec.getLsbD i = true ↔ ((Y k).toBitVec.getLsbD i = true ∨ i = z_lc B n % 64))) : z_YO B n (x + 1) q sp Y2 := fun i hi j hj => by
  have hj1 : j / 64 < sp := by omega
  have hL1 : z_lc B n / 64 < sp := by omega
  rw [e]
  show ((if i * sp + j / 64 = k then v else Y (i * sp + j / 64)).toBitVec.getLsbD (j % 64) = true ↔ _)
  by_cases c : i * sp + j / 64 = k
  · obtain ⟨c1, c2⟩ := z_mix hj1 hL1 (c.trans hk)
    rw [if_pos c, hv _ (Nat.mod_lt _ (by decide)), ← c, h i hi j hj]
    refine ⟨fun a => ?_, fun ⟨s, h1, h2⟩ => ?_⟩
    · rcases a with ⟨s, h1, h2⟩ | a
      · refine ⟨s, ?_, h2⟩
        rcases h1 with h1 | ⟨h1, h3⟩
        · exact Or.inl h1
        · exact Or.inr ⟨h1, by omega⟩
      · exact ⟨n, Or.inr ⟨rfl, by omega⟩, hB, by omega, by rw [c1]; exact hb⟩
    · by_cases c3 : s = n
      · refine Or.inr ?_
        rw [← h2.2.1, c3]
      · refine Or.inl ⟨s, Or.inl ?_, h2⟩
        rcases h1 with h1 | ⟨h1, _⟩
        · exact h1
        · exact absurd h1 c3
  · rw [if_neg c, h i hi j hj]
    refine ⟨fun ⟨s, h1, h2⟩ => ⟨s, ?_, h2⟩, fun ⟨s, h1, h2⟩ => ⟨s, ?_, h2⟩⟩
    · rcases h1 with h1 | ⟨h1, h3⟩
      · exact Or.inl h1
      · exact Or.inr ⟨h1, by omega⟩
    · rcases h1 with h1 | ⟨h1, h3⟩
      · exact Or.inl h1
      · by_cases c3 : i = x
        · refine absurd ?_ c
          rw [hk, c3, ← h2.2.1, h1]
        · exact Or.inr ⟨h1, by omega⟩
theorem z_YOE {B : Nat → Nat} {n N q sp : Nat} {Y : Nat → Int64} (h : z_YO B n 0 q sp Y) (h2 : z_lc B N ≤ z_lc B n) (hn : n ≤ N) : z_YO B N 0 q sp Y := fun i hi j hj => by
  rw [h i hi j hj]
  refine ⟨fun ⟨s, h1, h3⟩ => ⟨s, Or.inl ?_, h3⟩, fun ⟨s, h1, h3⟩ => ⟨s, Or.inl ?_, h3⟩⟩
  · rcases h1 with h1 | ⟨_, h1⟩
    · omega
    · exact absurd h1 (Nat.not_lt_zero _)
  · rcases h1 with h1 | ⟨_, h1⟩
    · exact z_lcE h2 h1 h3.1
    · exact absurd h1 (Nat.not_lt_zero _)
/-- a bit by its number -/
theorem z_and63 (r : Int32) : (r &&& 63).toInt = ((r.toBitVec.toNat % 64 : Nat) : Int) := by
  have h : (r &&& 63).toBitVec.toNat = r.toBitVec.toNat % 64 := by
    rw [Int32.toBitVec_and, BitVec.toNat_and]
    exact Nat.and_two_pow_sub_one_eq_mod r.toBitVec.toNat 6
  have h2 : (r &&& 63).toInt = ((r &&& 63).toBitVec.toNat : Int) := by
    show (r &&& 63).toBitVec.toInt = _
    exact BitVec.toInt_eq_toNat_of_lt (by rw [h]; omega)
  rw [h2, h]
theorem z_and63n {r x : Int32} (hx : x = r &&& 63) (h : 0 ≤ r.toInt) : x.toInt = r.toInt % 64 := by
  have h1 := z_nn h
  rw [hx, z_and63]
  omega
theorem z_1shT : ∀ k : Nat, k < 64 → ∀ i : Nat, i < 64 → ((1 : Int64) <<< ((Int32.ofNat k).toInt64 &&& 63)).toBitVec.getLsbD i = decide (i = k) := by decide +kernel
theorem z_of32 {x : Int32} {k : Nat} (h : x.toInt = (k : Int)) (hk : k < 2147483648) : x = Int32.ofNat k := Int32.toInt_inj.mp (by rw [Int32.toInt_ofNat_of_lt hk]; exact h)
theorem z_1sh {x : Int32} {y : Int64} {k : Nat} (hx : x.toInt = (k : Int)) (hk : k < 64) (hy : y = (1 : Int64) <<< (x.toInt64 &&& 63)) : ∀ i, i < 64 → (y.toBitVec.getLsbD i = true ↔ i = k) := fun i hi => by
  rw [hy, z_of32 hx (by omega), z_1shT k hk i hi, decide_eq_true_eq]
theorem z_orb {x y v : Int64} {k : Nat} (hy : ∀ i, i < 64 → (y.toBitVec.getLsbD i = true ↔ i = k)) (hv : v = x ||| y) : ∀ i, i < 64 → (v.toBitVec.getLsbD i = true ↔ (x.toBitVec.getLsbD i = true ∨ i = k)) := fun i hi => by
  rw [hv, Int64.toBitVec_or, BitVec.getLsbD_or, Bool.or_eq_true, hy i hi]
/-- a word's bit, shifted down -/
theorem z_ushT : ∀ k : Nat, k < 64 → ((Int32.ofNat k).toInt64.toUInt64 &&& Int64.toUInt64 63).toNat % 64 = k := by decide +kernel
theorem z_ush {x z v : Int64} {s : Int32} {k : Nat} (hs : s.toInt = (k : Int)) (hk : k < 64) (hz : z = (x.toUInt64 >>> (s.toInt64.toUInt64 &&& Int64.toUInt64 63)).toInt64) (hv : v = z &&& 1) : v.toInt = 0 ↔ ¬ x.toBitVec.getLsbD k = true := by
  have e1 : z_un z = z_un x / 2 ^ k := by
    rw [hz]
    exact z_unshr x rfl (by rw [z_of32 hs (by omega), z_ushT k hk])
  have e2 : z_un v = z_un x / 2 ^ k % 2 := by
    rw [hv, z_unand, e1]
    show z_un x / 2 ^ k &&& 1 = _
    exact Nat.and_one_is_mod _
  rw [z_bt, ← e2]
  have h2 : z_un v < 2 := by rw [e2]; exact Nat.mod_lt _ (by decide)
  have h3 : v.toInt = (z_un v : Int) := by
    show v.toBitVec.toInt = (v.toBitVec.toNat : Int)
    exact BitVec.toInt_eq_toNat_of_lt (by have : v.toBitVec.toNat < 2 := h2; omega)
  omega
