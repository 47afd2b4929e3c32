/-! ranks of benches; what a way's outcome at a bench hangs on -/
def z_Cb : Nat → Nat → Nat
  | _, 0 => 1
  | 0, _ + 1 => 0
  | a + 1, b + 1 => z_Cb a b + z_Cb a (b + 1)
theorem z_tcC : ∀ a, a < 17 → ∀ b, b < 6 → (z_tc.getD (6 * a + b) 0).toInt = ((z_Cb a b : Nat) : Int) := by decide +kernel
theorem z_Cb5 : ∀ a, a < 17 → ∀ b, b < 6 → z_Cb a b ≤ 4368 := by decide +kernel
theorem z_Cb0 (a : Nat) : z_Cb a 0 = 1 := by cases a <;> rfl
theorem z_CbS (a b : Nat) : z_Cb a b ≤ z_Cb (a + 1) b := by
  cases b with
  | zero =>
    rw [z_Cb0, z_Cb0]
    exact Nat.le_refl 1
  | succ b =>
    show z_Cb a (b + 1) ≤ z_Cb a b + z_Cb a (b + 1)
    exact Nat.le_add_left _ _
theorem z_CbD (a b : Nat) : ∀ d, z_Cb a b ≤ z_Cb (a + d) b
  | 0 => Nat.le_refl _
  | d + 1 => Nat.le_trans (z_CbD a b d) (z_CbS (a + d) b)
theorem z_CbM {a a2 b : Nat} (h : a ≤ a2) : z_Cb a b ≤ z_Cb a2 b := by
  have e := z_CbD a b (a2 - a)
  rw [show a + (a2 - a) = a2 by omega] at e
  exact e
/-- the rank of numbers that don't fall -/
def z_Rk (H : Nat → Nat) : Nat → Nat
  | 0 => 0
  | n + 1 => z_Rk H n + z_Cb (H n + n) (n + 1)
def z_sr (H : Nat → Nat) (n : Nat) : Prop := ∀ i, i + 1 < n → H i ≤ H (i + 1)
section ZRK
variable {H H2 o F F2 : Nat → Nat} {n m b x j i : Nat}
theorem z_srL (h : z_sr H n) : ∀ d i, i + d < n → H i ≤ H (i + d)
  | 0, _, _ => Nat.le_refl _
  | d + 1, i, hi => Nat.le_trans (z_srL h d i (by omega)) (h (i + d) (by omega))
theorem z_srM {k : Nat} (h : z_sr H n) (hik : i ≤ k) (hk : k < n) : H i ≤ H k := by
  have e := z_srL h (k - i) i (by omega)
  rw [show i + (k - i) = k by omega] at e
  exact e
theorem z_RkB : ∀ n, z_sr H (n + 1) → z_Rk H (n + 1) < z_Cb (H n + n + 1) (n + 1)
  | 0, _ => by
    show 0 + z_Cb (H 0 + 0) 1 < z_Cb (H 0 + 0) 0 + z_Cb (H 0 + 0) 1
    rw [z_Cb0]
    omega
  | n + 1, h => by
    have ih := z_RkB n fun i hi => h i (by omega)
    have h1 := h n (by omega)
    have h2 : z_Cb (H n + n + 1) (n + 1) ≤ z_Cb (H (n + 1) + (n + 1)) (n + 1) := z_CbM (by omega)
    show z_Rk H (n + 1) + z_Cb (H (n + 1) + (n + 1)) (n + 2) < z_Cb (H (n + 1) + (n + 1)) (n + 1) + z_Cb (H (n + 1) + (n + 1)) (n + 2)
    omega
/-- numbers of one rank are the same -/
theorem z_RkI : ∀ n, z_sr H n → z_sr H2 n → z_Rk H n = z_Rk H2 n → ∀ i, i < n → H i = H2 i
  | 0, _, _, _, i, hi => absurd hi (Nat.not_lt_zero i)
  | n + 1, h, h2, e, i, hi => by
    have b1 := z_RkB n h
    have b2 := z_RkB n h2
    have e1 : z_Rk H (n + 1) = z_Rk H n + z_Cb (H n + n) (n + 1) := rfl
    have e2 : z_Rk H2 (n + 1) = z_Rk H2 n + z_Cb (H2 n + n) (n + 1) := rfl
    have en : H n = H2 n := by
      by_cases c : H n < H2 n
      · have := z_CbM (b := n + 1) (show H n + n + 1 ≤ H2 n + n by omega)
        omega
      · by_cases d : H2 n < H n
        · have := z_CbM (b := n + 1) (show H2 n + n + 1 ≤ H n + n by omega)
          omega
        · omega
    rw [en] at e1
    by_cases c : i = n
    · rw [c]
      exact en
    · exact z_RkI n (fun i hi => h i (by omega)) (fun i hi => h2 i (by omega)) (by omega) i (by omega)
theorem z_RkC : ∀ n, (∀ i, i < n → H i = H2 i) → z_Rk H n = z_Rk H2 n
  | 0, _ => rfl
  | n + 1, h => by
    show z_Rk H n + z_Cb (H n + n) (n + 1) = z_Rk H2 n + z_Cb (H2 n + n) (n + 1)
    rw [z_RkC n fun i hi => h i (by omega), h n (Nat.lt_succ_self n)]
theorem z_RkU : ∀ n, n ≤ 5 → (∀ i, i < n → H i < 12) → z_Rk H n ≤ 4368 * n
  | 0, _, _ => Nat.le_refl 0
  | n + 1, h, hH => by
    have ih := z_RkU n (by omega) fun i hi => hH i (by omega)
    have h1 := hH n (Nat.lt_succ_self n)
    have h2 := z_Cb5 (H n + n) (by omega) (n + 1) (by omega)
    show z_Rk H n + z_Cb (H n + n) (n + 1) ≤ 4368 * (n + 1)
    omega
/-! one more among the others -/
def z_insr (o : Nat → Nat) (b x : Nat) : Nat → Nat := fun i => if i < b then o i else if i = b then x else o (i - 1)
theorem z_insL (h : i < b) : z_insr o b x i = o i := by
  show (if i < b then o i else if i = b then x else o (i - 1)) = o i
  exact if_pos h
theorem z_insE : z_insr o b x b = x := by
  show (if b < b then o b else if b = b then x else o (b - 1)) = x
  rw [if_neg (Nat.lt_irrefl b), if_pos rfl]
theorem z_insU (h : b ≤ i) : z_insr o b x (i + 1) = o i := by
  show (if i + 1 < b then o (i + 1) else if i + 1 = b then x else o (i + 1 - 1)) = o i
  rw [if_neg (by omega), if_neg (by omega), Nat.add_sub_cancel]
def z_si (g : Nat → Int) : Nat → Int
  | 0 => 0
  | n + 1 => z_si g n + g n
theorem z_siC {g g2 : Nat → Int} : ∀ n, (∀ i, i < n → g i = g2 i) → z_si g n = z_si g2 n
  | 0, _ => rfl
  | n + 1, h => by
    show z_si g n + g n = z_si g2 n + g2 n
    rw [z_siC n fun i hi => h i (by omega), h n (Nat.lt_succ_self n)]
theorem z_siI (g : Nat → Int) : ∀ n, b ≤ n → z_si (fun i => g (z_insr o b x i)) (n + 1) = z_si (fun i => g (o i)) n + g x
  | 0, h => by
    have e : z_insr o b x 0 = x := by
      have hb : b = 0 := by omega
      rw [hb]
      exact z_insE
    show 0 + g (z_insr o b x 0) = 0 + g x
    rw [e]
  | n + 1, h => by
    show z_si (fun i => g (z_insr o b x i)) (n + 1) + g (z_insr o b x (n + 1)) = (z_si (fun i => g (o i)) n + g (o n)) + g x
    by_cases c : b = n + 1
    · have e1 : z_si (fun i => g (z_insr o b x i)) (n + 1) = z_si (fun i => g (o i)) (n + 1) := z_siC (n + 1) fun i hi => by
        show g (z_insr o b x i) = g (o i)
        rw [z_insL (by omega)]
      have e2 : z_insr o b x (n + 1) = x := by
        rw [← c]
        exact z_insE
      have e3 : z_si (fun i => g (o i)) (n + 1) = z_si (fun i => g (o i)) n + g (o n) := rfl
      rw [e1, e2, e3]
    · have ih := z_siI g n (by omega)
      rw [ih, z_insU (show b ≤ n by omega)]
      omega
/-- the rank of the others, b of whom stay in their place -/
def z_Ro (o : Nat → Nat) (b : Nat) : Nat → Nat
  | 0 => 0
  | n + 1 => z_Ro o b n + (if n < b then z_Cb (o n + n) (n + 1) else z_Cb (o n + (n + 1)) (n + 2))
theorem z_RoF : ∀ n, n ≤ b → z_Ro o b n = z_Rk o n
  | 0, _ => rfl
  | n + 1, h => by
    show z_Ro o b n + (if n < b then z_Cb (o n + n) (n + 1) else z_Cb (o n + (n + 1)) (n + 2)) = z_Rk o n + z_Cb (o n + n) (n + 1)
    rw [z_RoF n (by omega), if_pos (by omega)]
theorem z_RkIns : ∀ n, b ≤ n → z_Rk (z_insr o b x) (n + 1) = z_Ro o b n + z_Cb (x + b) (b + 1)
  | 0, h => by
    have hb : b = 0 := by omega
    rw [hb]
    show 0 + z_Cb (z_insr o 0 x 0 + 0) 1 = 0 + z_Cb (x + 0) 1
    rw [z_insE]
  | n + 1, h => by
    show z_Rk (z_insr o b x) (n + 1) + z_Cb (z_insr o b x (n + 1) + (n + 1)) (n + 2) = z_Ro o b (n + 1) + z_Cb (x + b) (b + 1)
    by_cases c : b = n + 1
    · have e1 : z_Rk (z_insr o b x) (n + 1) = z_Rk o (n + 1) := z_RkC (n + 1) fun i hi => z_insL (by omega)
      have e2 : z_Ro o b (n + 1) = z_Rk o (n + 1) := z_RoF (n + 1) (by omega)
      have e3 : z_insr o b x (n + 1) = x := by
        rw [← c]
        exact z_insE
      have e4 : z_Cb (x + b) (b + 1) = z_Cb (x + (n + 1)) (n + 2) := by
        subst c
        rfl
      rw [e1, e2, e3, e4]
    · have ih := z_RkIns n (by omega)
      have e : z_Ro o b (n + 1) = z_Ro o b n + z_Cb (o n + (n + 1)) (n + 2) := by
        show z_Ro o b n + (if n < b then z_Cb (o n + n) (n + 1) else z_Cb (o n + (n + 1)) (n + 2)) = _
        rw [if_neg (show ¬ n < b by omega)]
      rw [ih, e, z_insU (show b ≤ n by omega)]
      omega
theorem z_RoS : ∀ n, b < n → z_Ro o b n = z_Ro o (b + 1) n + z_Cb (o b + b) (b + 2)
  | 0, h => absurd h (Nat.not_lt_zero _)
  | n + 1, h => by
    have e1 : z_Ro o b (n + 1) = z_Ro o b n + (if n < b then z_Cb (o n + n) (n + 1) else z_Cb (o n + (n + 1)) (n + 2)) := rfl
    have e2 : z_Ro o (b + 1) (n + 1) = z_Ro o (b + 1) n + (if n < b + 1 then z_Cb (o n + n) (n + 1) else z_Cb (o n + (n + 1)) (n + 2)) := rfl
    rw [if_neg (show ¬ n < b by omega)] at e1
    by_cases c : b = n
    · rw [if_pos (show n < b + 1 by omega)] at e2
      have f1 : z_Ro o b n = z_Rk o n := z_RoF n (by omega)
      have f2 : z_Ro o (b + 1) n = z_Rk o n := z_RoF n (by omega)
      have f3 : z_Cb (o n + (n + 1)) (n + 2) = z_Cb (o n + n) (n + 1) + z_Cb (o n + n) (n + 2) := rfl
      have f4 : z_Cb (o b + b) (b + 2) = z_Cb (o n + n) (n + 2) := by rw [c]
      omega
    · rw [if_neg (show ¬ n < b + 1 by omega)] at e2
      have ih := z_RoS n (by omega)
      omega
theorem z_RoU : ∀ n, n ≤ 4 → (∀ i, i < n → o i < 12) → z_Ro o b n ≤ 4368 * n
  | 0, _, _ => Nat.le_refl 0
  | n + 1, h, ho => by
    have ih := z_RoU n (by omega) fun i hi => ho i (by omega)
    have h1 := ho n (Nat.lt_succ_self n)
    have h2 := z_Cb5 (o n + n) (by omega) (n + 1) (by omega)
    have h3 := z_Cb5 (o n + (n + 1)) (by omega) (n + 2) (by omega)
    show z_Ro o b n + (if n < b then z_Cb (o n + n) (n + 1) else z_Cb (o n + (n + 1)) (n + 2)) ≤ 4368 * (n + 1)
    split <;> omega
theorem z_insS (h : z_sr o n) (hb : b ≤ n) (h1 : ∀ i, i < b → o i < x) (h2 : b = n ∨ x ≤ o b) : z_sr (z_insr o b x) (n + 1) := fun i hi => by
  by_cases c : i + 1 < b
  · rw [z_insL (show i < b by omega), z_insL c]
    exact h i (by omega)
  · by_cases d : i + 1 = b
    · rw [z_insL (show i < b by omega), d, z_insE]
      exact Nat.le_of_lt (h1 i (by omega))
    · by_cases e : i = b
      · rw [e, z_insE, z_insU (Nat.le_refl b)]
        rcases h2 with h2 | h2
        · omega
        · exact h2
      · obtain ⟨k, rfl⟩ : ∃ k, i = k + 1 := ⟨i - 1, by omega⟩
        rw [z_insU (show b ≤ k by omega), z_insU (show b ≤ k + 1 by omega)]
        exact h k (by omega)
/-- the others than j -/
def z_wo (F : Nat → Nat) (j : Nat) : Nat → Nat := fun i => F (if i < j then i else i + 1)
/-- j has number x -/
def z_fx1 (F : Nat → Nat) (j x : Nat) : Nat → Nat := fun i => if i = j then x else F i
theorem z_woI (F : Nat → Nat) (j x i : Nat) : z_insr (z_wo F j) j x i = z_fx1 F j x i := by
  show _ = if i = j then x else F i
  by_cases c : i < j
  · rw [z_insL c, if_neg (by omega)]
    show F (if i < j then i else i + 1) = F i
    rw [if_pos c]
  · by_cases d : i = j
    · rw [if_pos d, d, z_insE]
    · obtain ⟨k, rfl⟩ : ∃ k, i = k + 1 := ⟨i - 1, by omega⟩
      rw [z_insU (by omega), if_neg d]
      show F (if k < j then k else k + 1) = F (k + 1)
      rw [if_neg (by omega)]
theorem z_woS (h : z_sr F n) (hj : j < n) : z_sr (z_wo F j) (n - 1) := fun i hi => by
  show F (if i < j then i else i + 1) ≤ F (if i + 1 < j then i + 1 else i + 1 + 1)
  by_cases c : i + 1 < j
  · rw [if_pos (show i < j by omega), if_pos c]
    exact h i (by omega)
  · rw [if_neg c]
    by_cases d : i < j
    · rw [if_pos d]
      exact z_srM h (by omega) (by omega)
    · rw [if_neg d]
      exact z_srM h (by omega) (by omega)
theorem z_nxbS (h : z_sr F n) : z_sr (z_nxb m n F) n := fun i hi => by
  show (if z_rz m F n = 0 then F i else if i + 1 < z_rz m F n then F i else F (z_rz m F n - 1) + 1) ≤ (if z_rz m F n = 0 then F (i + 1) else if i + 1 + 1 < z_rz m F n then F (i + 1) else F (z_rz m F n - 1) + 1)
  by_cases c : z_rz m F n = 0
  · rw [if_pos c, if_pos c]
    exact h i hi
  · rw [if_neg c, if_neg c]
    have hr := z_rzL (m := m) (f := F) n
    by_cases d : i + 1 + 1 < z_rz m F n
    · rw [if_pos d, if_pos (by omega)]
      exact h i hi
    · rw [if_neg d]
      by_cases e : i + 1 < z_rz m F n
      · rw [if_pos e]
        exact Nat.le_succ_of_le (z_srM h (by omega) (by omega))
      · rw [if_neg e]
        exact Nat.le_refl _
theorem z_bkSr : ∀ k, z_sr (z_bk m n k) n
  | 0 => fun _ _ => Nat.le_refl _
  | k + 1 => z_nxbS (z_bkSr k)
/-- the same numbers, whoever has which -/
def z_eqm (F F2 : Nat → Nat) (n : Nat) : Prop := ∀ g : Nat → Int, z_si (fun i => g (F i)) n = z_si (fun i => g (F2 i)) n
theorem z_eqm.refl : z_eqm F F n := fun _ => rfl
theorem z_eqmI (hj : j < n) (hb : b ≤ n - 1) : z_eqm (z_fx1 F j x) (z_insr (z_wo F j) b x) n := fun g => by
  have h1 := z_siI (o := z_wo F j) (b := j) (x := x) g (n - 1) (by omega)
  have h2 := z_siI (o := z_wo F j) (b := b) (x := x) g (n - 1) hb
  rw [show n - 1 + 1 = n by omega] at h1 h2
  refine Eq.trans (z_siC n fun i _ => ?_) (h1.trans h2.symm)
  show g (z_fx1 F j x i) = g (z_insr (z_wo F j) j x i)
  rw [z_woI]
end ZRK
/-! what an outcome hangs on -/
def z_SA (q m : Nat) (S : Nat → Int32) (A : Int32) : Prop := (1 ≤ q ∧ q ≤ 10) ∧ A.toInt = ((2 ^ q : Nat) : Int) - 1 ∧ ∀ v, v < m → 0 ≤ (S v).toInt ∧ (S v).toInt < ((2 ^ q : Nat) : Int)
def z_tm (S : Nat → Int32) (A : Int32) (k v : Nat) : Int := (z_bi (S v) k - z_bi (A &&& (S v ^^^ (-1 : Int32))) k) * (1 : Int32).toInt
section ZOC
variable {B : Nat → Nat} {c q pr en sh ch m n y u v k s r r2 : Nat} {L L2 : Nat → Int} {S : Nat → Int32} {A : Int32} {F F2 H H2 : Nat → Nat}
theorem z_SA.jok (h : z_SA q m S A) (hF : ∀ j, j < n → F j < m) : ∀ j, j < n → z_jok q (z_w1 j) (z_yS S F j) (z_nS S A F j) := fun j hj => ⟨z_ansNo (Y := S (F j)) h.2.1 h.1.2 (h.2.2 (F j) (hF j hj)), show 1 ≤ (1 : Int32).toInt ∧ (1 : Int32).toInt ≤ 9 by decide⟩
theorem z_liS (k : Nat) : ∀ n, z_liN z_w1 (z_yS S F) (z_nS S A F) k n = z_si (fun i => z_tm S A k (F i)) n
  | 0 => rfl
  | n + 1 => by
    show z_liN z_w1 (z_yS S F) (z_nS S A F) k n + (z_bi (z_yS S F n) k - z_bi (z_nS S A F n) k) * (z_w1 n).toInt = z_si (fun i => z_tm S A k (F i)) n + z_tm S A k (F n)
    rw [z_liS k n]
    rfl
theorem z_LWs (h : z_SA q m S A) (hF : ∀ j, j < n → F j < m) (n9 : n ≤ 9) (hk : k < q) : z_LW z_w1 (z_yS S F) (z_nS S A F) n k = z_si (fun i => z_tm S A k (F i)) n := by
  have q10 := h.1.2
  have ok := z_jokJ q10 (h.jok hF)
  have e := z_ofN k (by omega)
  have h4 := (z_ljI (k := Int32.ofNat k) (by omega) n n9 ok).1
  have h5 := z_ljV (k := Int32.ofNat k) (by omega) n9 ok
  rw [show (Int32.ofNat k).toInt.toNat = k by omega] at h4
  exact h5.symm.trans (h4.trans (z_liS k n))
theorem z_tm1 (h : z_SA q m S A) (hv : v < m) (hk : k < q) : z_tm S A k v = 1 ∨ z_tm S A k v = -1 := by
  have hS := h.2.2 v hv
  have hA := h.2.1
  have hA2 := z_p21 hA h.1.2
  obtain ⟨_, _, a3⟩ := z_ib_no (x := S v) (v := A) (y := S v ^^^ (-1 : Int32)) (z := A &&& (S v ^^^ (-1 : Int32))) rfl rfl hA2.1 hS.1
  have h3 := a3 k
  rw [z_allb hA h.1.2 k] at h3
  unfold z_ib at h3
  have e1 : (1 : Int32).toInt = 1 := rfl
  unfold z_tm z_bi
  rw [e1, Int.mul_one]
  have b1 := z_m2c ((S v).toInt.toNat / 2 ^ k)
  have b2 := z_m2c ((A &&& (S v ^^^ (-1 : Int32))).toInt.toNat / 2 ^ k)
  generalize (S v).toInt.toNat / 2 ^ k % 2 = s at b1 h3 ⊢
  generalize (A &&& (S v ^^^ (-1 : Int32))).toInt.toNat / 2 ^ k % 2 = t at b2 h3 ⊢
  by_cases c : s = 1
  · have : ¬ t = 1 := fun g => (h3.mp g).2 c
    omega
  · have := h3.mpr ⟨hk, c⟩
    omega
theorem z_siO {g : Nat → Int} : ∀ n, (∀ i, i < n → g i = 1 ∨ g i = -1) → (z_si g n + (n : Int)) % 2 = 0
  | 0, _ => rfl
  | n + 1, h => by
    have ih := z_siO n fun i hi => h i (by omega)
    have h1 := h n (Nat.lt_succ_self n)
    show (z_si g n + g n + ((n + 1 : Nat) : Int)) % 2 = 0
    omega
theorem z_tuCg {o : Nat → Nat} {op op2 : Nat → Prop} : ∀ i y n, (∀ k, k < i → (0 < L (o k) ↔ 0 < L2 (o k)) ∧ (L (o k) = 0 ↔ L2 (o k) = 0) ∧ (L (o k) = 0 → (op (o k) ↔ op2 (o k)))) → z_tuR B q L op o i y n → z_tuR B q L2 op2 o i y n
  | 0, _, _, _, h => h
  | i + 1, y, n, hL, h => by
    obtain ⟨y0, n0, h1, h2⟩ := h
    obtain ⟨l1, l2, l3⟩ := hL i (Nat.lt_succ_self i)
    have e2 : (0 < L (o i) ∨ (L (o i) = 0 ∧ op (o i))) ↔ (0 < L2 (o i) ∨ (L2 (o i) = 0 ∧ op2 (o i))) :=
      ⟨fun h => h.elim (fun a => Or.inl (l1.mp a)) fun a => Or.inr ⟨l2.mp a.1, (l3 a.1).mp a.2⟩, fun h => h.elim (fun a => Or.inl (l1.mpr a)) fun a => Or.inr ⟨l2.mpr a.1, (l3 (l2.mpr a.1)).mpr a.2⟩⟩
    have e : z_tuY B q (L (o i)) (op (o i)) y0 n0 (o i) ↔ z_tuY B q (L2 (o i)) (op2 (o i)) y0 n0 (o i) := by
      unfold z_tuY
      rw [e2]
    refine ⟨y0, n0, z_tuCg i y0 n0 (fun k hk => hL k (by omega)) h1, ?_⟩
    rcases h2 with ⟨a1, a2⟩ | ⟨a1, a2⟩
    · exact Or.inl ⟨e.mp a1, a2⟩
    · exact Or.inr ⟨fun g => a1 (e.mpr g), a2⟩
theorem z_nrstC {g g2 : Nat → Int} (h : z_nrst B q g y n s) (e : ∀ a, a < 2 ^ q → g a = g2 a) : z_nrst B q g2 y n s := by
  obtain ⟨a1, a2, a3, a4⟩ := h
  refine ⟨a1, a2, a3, fun s2 b1 b2 b3 => ?_⟩
  rw [← e s2 b1, ← e s a1]
  exact a4 s2 b1 b2 b3
theorem z_oPC (h : z_oP B q pr L y n) (hL : ∀ k, k < q → L k = L2 k) : z_oP B q pr L2 y n := by
  obtain ⟨y1, n1, a1, a2⟩ := h
  exact ⟨y1, n1, z_boC a1 fun k hk => by rw [hL k hk]; exact ⟨Iff.rfl, Iff.rfl⟩, z_boC a2 fun k hk => by rw [hL k hk]; exact ⟨Iff.rfl, Iff.rfl⟩⟩
theorem z_oEC (h : z_oE B q en L y n) (hL : ∀ k, k < q → L k = L2 k) : z_oE B q en L2 y n := by
  obtain ⟨y1, n1, a1, a2⟩ := h
  refine ⟨y1, n1, z_boC a1 fun k hk => by rw [hL k hk]; exact ⟨Iff.rfl, Iff.rfl⟩, ?_⟩
  rcases a2 with a2 | ⟨s, a2, a3⟩
  · exact Or.inl a2
  · exact Or.inr ⟨s, z_nrstC a2 (z_sbiQ hL), z_boC a3 fun k hk => by rw [hL k hk]; exact ⟨Iff.rfl, Iff.rfl⟩⟩
theorem z_oNC (h : z_oN B q L y n) (hL : ∀ k, k < q → L k = L2 k) : z_oN B q L2 y n := by
  obtain ⟨s, a2, a3⟩ := h
  exact ⟨s, z_nrstC a2 (z_sbiQ hL), a3⟩
/-- benches of one outcome: by the numbers, by the chair's or the leader's number -/
def z_cd (c ch n : Nat) (F F2 : Nat → Nat) : Prop := (c = 11 ∧ (ch < n → F ch = F2 ch)) ∨ (c ≠ 11 ∧ z_eqm F F2 n ∧ (c = 10 → ch < n → n % 2 = 0 → F ch = F2 ch))
theorem z_oJcd (hS : z_SA q m S A) (n9 : n ≤ 9) (hF : ∀ j, j < n → F j < m) (hF2 : ∀ j, j < n → F2 j < m) (hcd : z_cd c ch n F F2) (h : z_oJ c B q pr en sh n ch z_w1 (z_yS S F) (z_nS S A F) y u) : z_oJ c B q pr en sh n ch z_w1 (z_yS S F2) (z_nS S A F2) y u := by
  obtain ⟨L, Y, N, hL, hY, hw⟩ := h
  obtain ⟨L2, hL2⟩ : ∃ L2 : Nat → Int, ∀ k, k < q → L2 k = z_LW z_w1 (z_yS S F2) (z_nS S A F2) n k := ⟨fun k => z_LW z_w1 (z_yS S F2) (z_nS S A F2) n k, fun _ _ => rfl⟩
  obtain ⟨Y2, N2, hY2⟩ : ∃ Y2 N2 : Nat → Nat, ∀ j, j < n → Y2 j = (z_yS S F2 j).toInt.toNat ∧ N2 j = (z_nS S A F2 j).toInt.toNat := ⟨fun j => (z_yS S F2 j).toInt.toNat, fun j => (z_nS S A F2 j).toInt.toNat, fun _ _ => ⟨rfl, rfl⟩⟩
  refine ⟨L2, Y2, N2, hL2, hY2, ?_⟩
  have hLL : c ≠ 11 → ∀ k, k < q → L k = L2 k := fun hc k hk => by
    rcases hcd with ⟨g, _⟩ | ⟨_, g, _⟩
    · exact absurd g hc
    · rw [hL k hk, hL2 k hk, z_LWs hS hF n9 hk, z_LWs hS hF2 n9 hk]
      exact g (fun v => z_tm S A k v)
  have q1 := hS.1.1
  have hYE : ch < n → F ch = F2 ch → Y ch = Y2 ch ∧ N ch = N2 ch := fun h1 h2 => by
    rw [(hY ch h1).1, (hY ch h1).2, (hY2 ch h1).1, (hY2 ch h1).2]
    show (S (F ch)).toInt.toNat = (S (F2 ch)).toInt.toNat ∧ (A &&& (S (F ch) ^^^ (-1 : Int32))).toInt.toNat = (A &&& (S (F2 ch) ^^^ (-1 : Int32))).toInt.toNat
    rw [h2]
    exact ⟨rfl, rfl⟩
  rcases hw with ⟨e, a1, a2⟩ | ⟨e, a⟩ | ⟨e, a⟩ | ⟨e, a⟩ | ⟨e, a⟩ | ⟨e, a⟩ | ⟨e, a⟩ | ⟨e, a⟩
  · exact Or.inl ⟨e, a1, a2⟩
  · have hE := hLL (by omega)
    exact Or.inr (Or.inl ⟨e, z_boC a fun k hk => by rw [hE k hk]; exact ⟨Iff.rfl, Iff.rfl⟩⟩)
  · exact Or.inr (Or.inr (Or.inl ⟨e, z_oPC a (hLL (by omega))⟩))
  · exact Or.inr (Or.inr (Or.inr (Or.inl ⟨e, z_oEC a (hLL (by omega))⟩)))
  · exact Or.inr (Or.inr (Or.inr (Or.inr (Or.inl ⟨e, z_oNC a (hLL (by omega))⟩))))
  · have hE := hLL (by omega)
    refine Or.inr (Or.inr (Or.inr (Or.inr (Or.inr (Or.inl ⟨e, ?_⟩)))))
    refine z_tuCg q y u (fun k _ => ?_) a
    (try dsimp only)
    rw [hE _ (Nat.mod_lt (sh + k) q1)]
    exact ⟨Iff.rfl, Iff.rfl, fun _ => Iff.rfl⟩
  · have hE := hLL (by omega)
    refine Or.inr (Or.inr (Or.inr (Or.inr (Or.inr (Or.inr (Or.inl ⟨e, ?_⟩))))))
    refine z_tuCg q y u (fun k _ => ?_) a
    (try dsimp only)
    have ho := Nat.mod_lt (sh + k) q1
    refine ⟨by rw [hE _ ho], by rw [hE _ ho], fun h0 => ?_⟩
    rcases hcd with ⟨g, _⟩ | ⟨_, _, g⟩
    · exact absurd g (by omega)
    · by_cases hn : n % 2 = 0
      · refine ⟨fun ⟨b1, b2⟩ => ⟨b1, ?_⟩, fun ⟨b1, b2⟩ => ⟨b1, ?_⟩⟩
        · rw [← (hYE b1 (g e b1 hn)).1]
          exact b2
        · rw [(hYE b1 (g e b1 hn)).1]
          exact b2
      · have h1 := z_siO n fun i hi => z_tm1 hS (hF i hi) ho
        have h2 := hL _ ho
        rw [z_LWs hS hF n9 ho, h0] at h2
        rw [← h2] at h1
        exact absurd h1 (by omega)
  · refine Or.inr (Or.inr (Or.inr (Or.inr (Or.inr (Or.inr (Or.inr ⟨e, ?_⟩))))))
    rcases hcd with ⟨_, g⟩ | ⟨g, _⟩
    · rcases a with ⟨a1, a2⟩ | ⟨a1, a2⟩
      · obtain ⟨eY, eN⟩ := hYE a1 (g a1)
        refine Or.inl ⟨a1, ?_⟩
        rw [← eY, ← eN]
        exact a2
      · exact Or.inr ⟨a1, a2⟩
    · exact absurd e g
/-- the place of a bench in the memory -/
def z_plc (c m n ch r : Nat) (F : Nat → Nat) : Nat := if c = 11 then (if ch < n then F ch else 0) else if c = 10 ∧ ch < n ∧ n % 2 = 0 then r * m + F ch else r
theorem z_dmU {f f2 : Nat} (h : r * m + f = r2 * m + f2) (hf : f < m) (hf2 : f2 < m) : r = r2 ∧ f = f2 := by
  by_cases c : r < r2
  · have h1 : (r + 1) * m ≤ r2 * m := Nat.mul_le_mul_right m c
    rw [Nat.add_mul, Nat.one_mul] at h1
    omega
  · by_cases d : r2 < r
    · have h1 : (r2 + 1) * m ≤ r * m := Nat.mul_le_mul_right m d
      rw [Nat.add_mul, Nat.one_mul] at h1
      omega
    · have e : r = r2 := by omega
      rw [e] at h
      exact ⟨e, by omega⟩
theorem z_plC (hF : ∀ j, j < n → F j < m) (hF2 : ∀ j, j < n → F2 j < m) (hH : z_sr H n) (hH2 : z_sr H2 n) (e1 : z_eqm F H n) (e2 : z_eqm F2 H2 n) (h : z_plc c m n ch (z_Rk H n) F = z_plc c m n ch (z_Rk H2 n) F2) : z_cd c ch n F F2 := by
  unfold z_plc at h
  have hq : z_Rk H n = z_Rk H2 n → z_eqm F F2 n := fun e g => by
    rw [e1 g, e2 g]
    exact z_siC n fun i hi => by rw [z_RkI n hH hH2 e i hi]
  by_cases c1 : c = 11
  · rw [if_pos c1, if_pos c1] at h
    refine Or.inl ⟨c1, fun hc => ?_⟩
    rw [if_pos hc, if_pos hc] at h
    exact h
  · rw [if_neg c1, if_neg c1] at h
    by_cases c2 : c = 10 ∧ ch < n ∧ n % 2 = 0
    · rw [if_pos c2, if_pos c2] at h
      obtain ⟨g1, g2⟩ := z_dmU h (hF ch c2.2.1) (hF2 ch c2.2.1)
      exact Or.inr ⟨c1, hq g1, fun _ _ _ => g2⟩
    · rw [if_neg c2, if_neg c2] at h
      exact Or.inr ⟨c1, hq h, fun a1 a2 a3 => absurd ⟨a1, a2, a3⟩ c2⟩
end ZOC
