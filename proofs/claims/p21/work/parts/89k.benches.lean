/-! benches: how many there are -/
def z_T (d k : Nat) : Nat := (z_tc.getD (6 * (d + k - 1) + k) 0).toInt.toNat
def z_sm2 (L n : Nat) (f : Nat → Int32) : Nat → Nat
  | 0 => 1
  | c + 1 => z_sm2 L n f c + z_T (L - 1 - (f c).toInt.toNat) (n - c)
def z_S (d n j : Nat) : Nat → Nat
  | 0 => 0
  | s + 1 => z_S d n j s + z_T d (n - (j + s))
theorem z_S1 : ∀ d, d < 12 → ∀ n, n < 6 → ∀ j, j < n → z_S d n j (n - j) + 1 = z_T (d + 1) (n - j) := by decide +kernel
theorem z_Tn : ∀ k, k < 6 → 1 ≤ k → z_T 0 k = 0 := by decide +kernel
theorem z_Tb : ∀ d, d < 13 → ∀ n, n < 6 → z_T d n ≤ 4368 := by decide +kernel
theorem z_Tp : ∀ d, d < 13 → ∀ n, n < 6 → (z_tc.getD (6 * (d + n - 1) + n) 0).toInt = ((z_T d n : Nat) : Int) := by decide +kernel
/-- the next bench of the reference, or that there is none -/
def z_stp (L n : Int) (f g : Nat → Int32) (x : Int) : Prop := (x = 0 ∧ ∀ i : Nat, (i : Int) < n → (f i).toInt = L - 1) ∨ (x = 1 ∧ ∃ j : Nat, (j : Int) < n ∧ (f j).toInt ≠ L - 1 ∧ (∀ i : Nat, j < i → (i : Int) < n → (f i).toInt = L - 1) ∧ (∀ i : Nat, i < j → g i = f i) ∧ ∀ i : Nat, j ≤ i → (i : Int) < n → (g i).toInt = (f j).toInt + 1)
theorem z_hnE {M M0 : zH} {x y : Int32} {c : Int} (h : z_Ar M 43 x.toNatClampNeg = y) (hM : M = M0) (h0 : 0 ≤ x.toInt) (hc : y.toInt ≠ c) : ∀ i : Nat, (i : Int) = x.toInt → (z_Ar M0 43 i).toInt ≠ c := fun i hi => by
  have e : x.toNatClampNeg = i := by
    show x.toInt.toNat = i
    omega
  rw [← hM, ← e, h]
  exact hc
theorem z_hwS {M M1 : zH} {P : Prop} {j k k2 v : Int} {x w : Int32} (h : P → ∀ i : Nat, j ≤ (i : Int) → (i : Int) < k → (z_Ar M 43 i).toInt = v) (e : z_Ar M1 43 = upd (z_Ar M 43) x.toNatClampNeg w) (hx : x.toInt = k) (h0 : 0 ≤ k) (hw : P → w.toInt = v) (hk : k2 = k + 1) : P → ∀ i : Nat, j ≤ (i : Int) → (i : Int) < k2 → (z_Ar M1 43 i).toInt = v := fun hp i h1 h2 => by
  rw [e]
  show (if i = x.toInt.toNat then w else z_Ar M 43 i).toInt = v
  by_cases c : i = x.toInt.toNat
  · rw [if_pos c]
    exact hw hp
  · rw [if_neg c]
    exact h hp i h1 (by omega)
theorem z_hzm2 {M M1 : zH} {P : Prop} {j k v : Int} (h : P → ∀ i : Nat, j ≤ (i : Int) → (i : Int) < k → (z_Ar M 43 i).toInt = v) (e : z_Ar M1 43 = z_Ar M 43) : P → ∀ i : Nat, j ≤ (i : Int) → (i : Int) < k → (z_Ar M1 43 i).toInt = v := by
  rw [e]
  exact h
theorem z_stp1 {M0 M : zH} {j k v n L : Int} (hg : z_GO M0 M j k v n L) (ht : ∀ i : Nat, j < (i : Int) → (i : Int) < n → (z_Ar M0 43 i).toInt = L - 1) (hw : ∀ i : Nat, j ≤ (i : Int) → (i : Int) < k → (z_Ar M 43 i).toInt = v) (hne : ∀ i : Nat, (i : Int) = j → (z_Ar M0 43 i).toInt ≠ L - 1) (hv : ∀ i : Nat, (i : Int) = j → v = (z_Ar M0 43 i).toInt + 1) (j0 : 0 ≤ j) (jn : j < n) (hk : n ≤ k) : ∃ j : Nat, (j : Int) < n ∧ (z_Ar M0 43 j).toInt ≠ L - 1 ∧ (∀ i : Nat, j < i → (i : Int) < n → (z_Ar M0 43 i).toInt = L - 1) ∧ (∀ i : Nat, i < j → z_Ar M 43 i = z_Ar M0 43 i) ∧ ∀ i : Nat, j ≤ i → (i : Int) < n → (z_Ar M 43 i).toInt = (z_Ar M0 43 j).toInt + 1 := by
  have e : ((j.toNat : Nat) : Int) = j := by omega
  refine ⟨j.toNat, by omega, hne _ e, fun i h1 h2 => ht i (by omega) h2, fun i h1 => hg.1 i (by omega), fun i h1 h2 => ?_⟩
  rw [hw i (by omega) (by omega)]
  exact hv _ e
section ZBN
variable {L n : Nat} {f g : Nat → Int32}
theorem z_sm2C : ∀ c, (∀ i, i < c → g i = f i) → z_sm2 L n g c = z_sm2 L n f c
  | 0, _ => rfl
  | c + 1, h => by
    show z_sm2 L n g c + z_T (L - 1 - (g c).toInt.toNat) (n - c) = z_sm2 L n f c + z_T (L - 1 - (f c).toInt.toNat) (n - c)
    rw [z_sm2C c fun i hi => h i (by omega), h c (by omega)]
/-- behind j all is the most: nothing is added -/
theorem z_sm2H {j : Nat} (n6 : n < 6) : ∀ s, j + 1 + s ≤ n → (∀ i, j < i → i < n → (f i).toInt.toNat = L - 1) → z_sm2 L n f (j + 1 + s) = z_sm2 L n f (j + 1)
  | 0, _, _ => rfl
  | s + 1, hs, h => by
    have h1 := z_sm2H n6 s (by omega) h
    have h2 : z_T (L - 1 - (f (j + 1 + s)).toInt.toNat) (n - (j + 1 + s)) = 0 := by
      rw [h (j + 1 + s) (by omega) (by omega), Nat.sub_self]
      exact z_Tn _ (by omega) (by omega)
    have h3 : z_sm2 L n f (j + 1 + (s + 1)) = z_sm2 L n f (j + 1 + s) + z_T (L - 1 - (f (j + 1 + s)).toInt.toNat) (n - (j + 1 + s)) := rfl
    omega
/-- from j on all is one more than f j was -/
theorem z_sm2G {j v : Nat} : ∀ s, j + s ≤ n → (∀ i, j ≤ i → i < n → (g i).toInt.toNat = v) → z_sm2 L n g (j + s) = z_sm2 L n g j + z_S (L - 1 - v) n j s
  | 0, _, _ => rfl
  | s + 1, hs, h => by
    have h1 := z_sm2G s (by omega) h
    have h3 : z_sm2 L n g (j + (s + 1)) = z_sm2 L n g (j + s) + z_T (L - 1 - (g (j + s)).toInt.toNat) (n - (j + s)) := rfl
    have h4 : z_S (L - 1 - v) n j (s + 1) = z_S (L - 1 - v) n j s + z_T (L - 1 - v) (n - (j + s)) := rfl
    rw [h (j + s) (by omega) (by omega)] at h3
    omega
def z_cti (L n : Nat) (f : Nat → Int32) (k mo : Int) : Prop := 0 ≤ k ∧ ((mo = 1 ∧ k.toNat + z_sm2 L n f n = z_T L n) ∨ (mo = 0 ∧ k.toNat = z_T L n))
theorem z_ctB {k mo : Int} (h : z_cti L n f k mo) (hL : L < 13) (hn : n < 6) : 0 ≤ k ∧ k ≤ 4368 := by
  obtain ⟨h0, h1⟩ := h
  have h2 := z_Tb L hL n hn
  rcases h1 with ⟨_, h1⟩ | ⟨_, h1⟩ <;> exact ⟨h0, by omega⟩
theorem z_ctiE {k mo : Int} {n2 : Nat} (h : z_cti L n f k mo) (hm : mo = 0) (hn : n2 = n) : k = ((z_T L n2 : Nat) : Int) := by
  obtain ⟨h0, h1⟩ := h
  rw [hn]
  rcases h1 with ⟨h1, _⟩ | ⟨_, h1⟩ <;> omega
theorem z_cti0 {M : zH} {pn : Int} (h : z_NB M pn 1) (hn : pn = (n : Int)) (n1 : 1 ≤ n) (n6 : n < 6) (L1 : 1 ≤ L) (L13 : L < 13) : z_cti L n (z_Ar M 43) 0 1 := by
  refine ⟨by omega, Or.inl ⟨rfl, ?_⟩⟩
  have hz : ∀ i, 0 ≤ i → i < n → (z_Ar M 43 i).toInt.toNat = 0 := fun i _ hi => by
    have := h i (by omega)
    omega
  have h1 := z_sm2G (L := L) (n := n) (g := z_Ar M 43) (j := 0) (v := 0) n (by omega) hz
  have h2 := z_S1 (L - 1) (by omega) n n6 0 (by omega)
  rw [Nat.zero_add] at h1
  rw [Nat.sub_zero, show L - 1 + 1 = L by omega] at h2
  rw [h1]
  show 0 + (1 + z_S (L - 1 - 0) n 0 n) = _
  rw [Nat.sub_zero]
  omega
theorem z_ctiS {k k2 mo x Li ni : Int} (hT : z_cti L n f k mo) (hm : mo ≠ 0) (hs : z_stp Li ni f g x) (eL : Li = (L : Int)) (en : ni = (n : Int)) (hf : ∀ i : Nat, (i : Int) < ni → 0 ≤ (f i).toInt ∧ (f i).toInt < Li) (L1 : 1 ≤ L) (L13 : L < 13) (n1 : 1 ≤ n) (n6 : n < 6) (hk : k2 = k + 1) : z_cti L n g k2 x := by
  obtain ⟨h0, h1⟩ := hT
  rcases h1 with ⟨_, h1⟩ | ⟨h1, _⟩
  · refine ⟨by omega, ?_⟩
    rcases hs with ⟨hx, hs⟩ | ⟨hx, j, jn, hne, hb, he, hu⟩
    · refine Or.inr ⟨hx, ?_⟩
      have h2 := z_sm2G (L := L) (n := n) (g := f) (j := 0) (v := L - 1) n (by omega) (fun i _ hi => by have := hs i (by omega); omega)
      have h3 : z_S (L - 1 - (L - 1)) n 0 n = 0 := by
        have h4 : ∀ n, n < 6 → z_S 0 n 0 n = 0 := by decide +kernel
        rw [Nat.sub_self]
        exact h4 n n6
      rw [Nat.zero_add, h3] at h2
      have h5 : z_sm2 L n f 0 = 1 := rfl
      omega
    · refine Or.inl ⟨hx, ?_⟩
      obtain ⟨f0, f1⟩ := hf j jn
      have d1 : L - 1 - (f j).toInt.toNat = (L - 1 - ((f j).toInt.toNat + 1)) + 1 := by omega
      have h2 := z_sm2H (L := L) (f := f) (j := j) n6 (n - (j + 1)) (by omega) (fun i a b => by have := hb i a (by omega); omega)
      have h3 := z_sm2G (L := L) (n := n) (g := g) (j := j) (v := (f j).toInt.toNat + 1) (n - j) (by omega) (fun i a b => by have := hu i a (by omega); omega)
      have h4 := z_S1 (L - 1 - ((f j).toInt.toNat + 1)) (by omega) n n6 j (by omega)
      have h5 := z_sm2C (L := L) (n := n) j he
      have h6 : z_sm2 L n f (j + 1) = z_sm2 L n f j + z_T (L - 1 - (f j).toInt.toNat) (n - j) := rfl
      rw [show j + 1 + (n - (j + 1)) = n by omega] at h2
      rw [show j + (n - j) = n by omega] at h3
      rw [d1] at h6
      omega
  · exact absurd h1 hm
end ZBN
def z_bnc (m : Nat) (n x c : Int) : Prop := (x = -1 ∧ ¬ (1 ≤ n ∧ n ≤ 5)) ∨ ((1 ≤ n ∧ n ≤ 5) ∧ ((x = -4 ∧ 12 < m) ∨ (1 ≤ m ∧ m ≤ 12 ∧ x = c)))
/-- CHOOSE as it was made -/
def z_chO (M : zH) : Prop := M[(1 : Nat)]? = some (.inl (0, 102, .inl fun j => z_tc.getD j 0))
theorem zUC102 {T : List zK} {d : Nat} {K : Option Value → zH → Prop} {p1 : Int32} {p2 : Int32} {M0 : zH} (hW : z_W M0 T) (hR6 : z_R6 T M0) (hG : z_GG T M0) (kk : ∀ (x : Int32) (M1 : zH), z_X T zw102 M0 M1 → (-4) ≤ x.toInt → x.toInt ≤ 4368 → z_qA T M0 p1 x.toInt (fun q t m pr en B => z_bnc m p2.toInt x.toInt (z_Ar M0 1 (6 * (m + p2.toInt.toNat - 1) + p2.toInt.toNat)).toInt) → K (some (.int x)) M1) : z_ev (d + 2) 102 0 [some (.ref 4), some (.int p1), some (.int p2), none] [] M0 K := by
  have X : z_X T zw102 M0 M0 := .refl hW
  refine z_xP zt102 0 3 [some (.ref 4), some (.int p1), some (.int p2), none] [.int p2, .int p1, .ref 4] rfl rfl ?_
  have f4 : T[4]? = some (.inl (0, 0, 0, 0, 0)) := X.1.k rfl (by decide)
  refine z_xcV (vs := [.ref 4, .int p1, .int p2]) (r := []) (L2 := [some (.ref 4), some (.int p1), some (.int p2), none]) zt102 1 rfl zo102 zzcV0_241 (Or.inl rfl) rfl X f4 rfl rfl rfl (Nat.le_of_ble_eq_true rfl) zzm103 (Nat.le_of_ble_eq_true rfl) rfl ?_
  refine z_xP zt103 0 2 [some (.ref 4), some (.int p1), some (.int p2), none] [.int p1, .ref 4] rfl rfl ?_
  refine z_xcV (vs := [.ref 4, .int p1]) (r := []) (L2 := [some (.ref 4), some (.int p1)]) zt103 1 rfl zo103 zzcV0_108 (Or.inl rfl) rfl X f4 rfl rfl rfl (Nat.le_of_ble_eq_true rfl) zzm37 (Nat.le_of_ble_eq_true rfl) rfl ?_
  refine z_xP zt37 0 1 [some (.ref 4), some (.int p1)] [.int p1] rfl rfl ?_
  refine z_xZ zt37 1 rfl rfl (fun (h1 : p1.toInt < 0) => ?_) (fun (h1 : 0 ≤ p1.toInt) => ?_)
  · skip
    refine z_xP zt37 5 25 [some (.ref 4), some (.int p1)] [.null] rfl rfl ?_
    refine z_xrn zt37 11 rfl zzr37 ?_
    show z_ev (d + 1) 103 5 [some (.ref 4), some (.int p1), some (.int p2), none] [.null] M0 _
    refine z_xP zt103 2 20 [some (.ref 4), some (.int p1), some (.int p2), some (.null)] [] rfl rfl ?_
    refine z_xP zt103 7 21 [some (.ref 4), some (.int p1), some (.int p2), some (.null)] [.int (-1)] rfl rfl ?_
    refine z_xri zt103 8 rfl zzr103 ?_
    show z_ev (d + 2) 102 6 [some (.ref 4), some (.int p1), some (.int p2), none] [.int (-1)] M0 _
    refine z_xP zt102 2 8 [some (.ref 4), some (.int p1), some (.int p2), some (.int (-1))] [.int (-1)] rfl rfl ?_
    refine z_xZ zt102 3 rfl rfl (fun (h2 : ((-1) : Int) = 0) => absurd h2 (by omega)) (fun (h2 : ((-1) : Int) ≠ 0) => ?_)
    refine z_xP zt102 4 12 [some (.ref 4), some (.int p1), some (.int p2), some (.int (-1))] [.int (-1)] rfl rfl ?_
    have qm1 : (((-1) : Int32)).toInt = (-1) := rfl
    obtain ⟨x3, h4, h5, h6⟩ := z_W.fi X.1 f4 (k := 3) (lo := 0) (hi := 8) (by decide) rfl
    have qm1 : (((-1) : Int32)).toInt = (-1) := rfl
    exact z_xri zt102 5 rfl zzr102 (kk (-1) M0 X (by omega) (by omega) (z_qA0 h4 (by omega) (by omega)))
  refine z_xP zt37 2 6 [some (.ref 4), some (.int p1)] [.ref 4, .int p1] rfl rfl ?_
  refine z_xgI zt37 3 rfl zo37 zzf0_59 X f4 (by decide) (by decide) rfl (fun (x8 : Int32) h7 (h9 : 0 ≤ x8.toInt) (h10 : x8.toInt ≤ 8) => ?_)
  have h11 := z_b32 p1
  refine z_xJ zt37 4 rfl rfl (fun (h12 : p1.toInt < x8.toInt) => ?_) (fun (h12 : x8.toInt ≤ p1.toInt) => ?_)
  · skip
    refine z_xP zt37 6 17 [some (.ref 4), some (.int p1)] [.ref 4] rfl rfl ?_
    refine z_xgX (b := 10) zt37 7 rfl zo37 zzf0_18 X f4 (by decide) (by decide) rfl ?_
    refine z_xP zt37 8 21 [some (.ref 4), some (.int p1)] [.int p1, .ref 10] rfl rfl ?_
    have f10 : T[10]? = some (.inr (10, 2, 8, 9, 0)) := X.1.k rfl (by decide)
    refine z_xal zt37 9 rfl X f10 (by decide) (by decide) (by decide) (by omega) (by omega) (fun (a13 : Nat) h14 h15 => ?_) (fun h16 => absurd h16 (z_Gs (hG.go X (by decide)).2.1 h7 (by omega) (by omega)))
    obtain ⟨q17, t18, m19, k20⟩ : ∃ q t m, T[a13]? = some (.inl (3, q, t, m, 9)) := h15
    have g21 := X.1.p3 k20
    refine z_xgR (κ := .inl (2, q17, t18, m19, 0)) zt37 10 rfl zo37 zzf0_89 X k20 (by decide) (by decide) rfl (fun (a23 : Nat) h22 k24 => ?_)
    have g25 := X.1.p2 k24
    refine z_xra zt37 11 rfl zzr37 ?_
    show z_ev (d + 1) 103 5 [some (.ref 4), some (.int p1), some (.int p2), none] [.ref a23] M0 _
    refine z_xP zt103 2 10 [some (.ref 4), some (.int p1), some (.int p2), some (.ref a23)] [] rfl rfl ?_
    refine z_xP zt103 3 12 [some (.ref 4), some (.int p1), some (.int p2), some (.ref a23)] [.int 1, .int p2] rfl rfl ?_
    refine z_xJ zt103 4 rfl rfl (fun (h26 : p2.toInt < 1) => ?_) (fun (h26 : 1 ≤ p2.toInt) => ?_)
    · skip
      refine z_xP zt103 7 21 [some (.ref 4), some (.int p1), some (.int p2), some (.ref a23)] [.int (-1)] rfl rfl ?_
      refine z_xri zt103 8 rfl zzr103 ?_
      show z_ev (d + 2) 102 6 [some (.ref 4), some (.int p1), some (.int p2), none] [.int (-1)] M0 _
      refine z_xP zt102 2 8 [some (.ref 4), some (.int p1), some (.int p2), some (.int (-1))] [.int (-1)] rfl rfl ?_
      refine z_xZ zt102 3 rfl rfl (fun (h27 : ((-1) : Int) = 0) => absurd h27 (by omega)) (fun (h27 : ((-1) : Int) ≠ 0) => ?_)
      refine z_xP zt102 4 12 [some (.ref 4), some (.int p1), some (.int p2), some (.int (-1))] [.int (-1)] rfl rfl ?_
      have qm1 : (((-1) : Int32)).toInt = (-1) := rfl
      obtain ⟨pr28, en29, B30, hAB31⟩ := hR6.at h7 (by omega) (by omega) h14 k20 h22
      have qm1 : (((-1) : Int32)).toInt = (-1) := rfl
      exact z_xri zt102 5 rfl zzr102 (kk (-1) M0 X (by omega) (by omega) (z_qA1 h7 ⟨by omega, by omega⟩ hAB31 (Or.inl ⟨by omega, by omega⟩)))
    refine z_xP zt103 5 17 [some (.ref 4), some (.int p1), some (.int p2), some (.ref a23)] [.int 5, .int p2] rfl rfl ?_
    refine z_xJ zt103 6 rfl rfl (fun (h32 : p2.toInt ≤ 5) => ?_) (fun (h32 : 5 < p2.toInt) => ?_)
    · skip
      refine z_xP zt103 9 23 [some (.ref 4), some (.int p1), some (.int p2), some (.ref a23)] [.ref a23] rfl rfl ?_
      refine z_xgR (κ := .inr (102, 0, m19, 0, 1023)) zt103 10 rfl zo103 zzf0_74 X k24 (by decide) (by decide) rfl (fun (a34 : Nat) h33 k35 => ?_)
      refine z_xln zt103 11 rfl X k35 (by decide) (by omega) (fun (x36 : Int32) (h37 : x36.toInt = ((m19 : Nat) : Int)) => ?_)
      refine z_xP zt103 12 29 [some (.ref 4), some (.int p1), some (.int p2), some (.ref a23)] [.int 12, .int x36] rfl rfl ?_
      refine z_xJ zt103 13 rfl rfl (fun (h38 : x36.toInt ≤ 12) => ?_) (fun (h38 : 12 < x36.toInt) => ?_)
      · skip
        refine z_xP zt103 15 38 [some (.ref 4), some (.int p1), some (.int p2), some (.ref a23)] [.int 0] rfl rfl ?_
        refine z_xri zt103 16 rfl zzr103 ?_
        show z_ev (d + 2) 102 6 [some (.ref 4), some (.int p1), some (.int p2), none] [.int 0] M0 _
        refine z_xP zt102 2 8 [some (.ref 4), some (.int p1), some (.int p2), some (.int 0)] [.int 0] rfl rfl ?_
        refine z_xZ zt102 3 rfl rfl (fun (h39 : (0 : Int) = 0) => ?_) (fun (h39 : (0 : Int) ≠ 0) => absurd h39 (by omega))
        refine z_xP zt102 6 14 [some (.ref 4), some (.int p1), some (.int p2), some (.int 0)] [.ref 4] rfl rfl ?_
        refine z_xgX (b := 11) zt102 7 rfl zo102 zzf0_22 X f4 (by decide) (by decide) rfl ?_
        refine z_xP zt102 8 18 [some (.ref 4), some (.int p1), some (.int p2), some (.int 0)] [.int p1, .ref 11] rfl rfl ?_
        have f11 : T[11]? = some (.inr (11, 2, 8, 5, 0)) := X.1.k rfl (by decide)
        refine z_xal zt102 9 rfl X f11 (by decide) (by decide) (by decide) (by omega) (by omega) (fun (a40 : Nat) h41 h42 => ?_) (fun h43 => absurd h43 (z_Gt (hG.go X (by decide)).2.1 h7 (by omega) (by omega)))
        obtain ⟨q44, t45, m46, k47⟩ : ∃ q t m, T[a40]? = some (.inl (3, q, t, m, 5)) := h42
        have g48 := X.1.p3 k47
        have h49 := z_Gm (hG.go X (by decide)).2.2 X.1 (z_cll (n := 8) (by omega) (by decide)) h14 h41 k20 k47
        refine z_xP zt102 10 20 [some (.ref 4), some (.int p1), some (.int p2), some (.int 0)] [.int p2, .ref a40] rfl rfl ?_
        refine z_xcV (vs := [.ref a40, .int p2]) (r := []) (L2 := [some (.ref a40), some (.int p2)]) zt102 11 rfl zo102 zzcV0_245 (Or.inl rfl) rfl X k47 rfl rfl rfl (Nat.le_of_ble_eq_true rfl) zzm104 (Nat.le_of_ble_eq_true rfl) rfl ?_
        refine z_xP zt104 0 1 [some (.ref a40), some (.int p2)] [.ref a40] rfl rfl ?_
        refine z_xgR (κ := .inl (2, q44, t45, m46, 0)) zt104 1 rfl zo104 zzf3_39 X k47 (by decide) (by decide) rfl (fun (a51 : Nat) h50 k52 => ?_)
        have g53 := X.1.p2 k52
        refine z_xgR (κ := .inr (102, 0, m46, 0, 1023)) zt104 2 rfl zo104 zzf3_101 X k52 (by decide) (by decide) rfl (fun (a55 : Nat) h54 k56 => ?_)
        refine z_xln zt104 3 rfl X k56 (by decide) (by omega) (fun (x57 : Int32) (h58 : x57.toInt = ((m46 : Nat) : Int)) => ?_)
        refine z_xP zt104 4 9 [some (.ref a40), some (.int p2)] [.int p2, .int x57] rfl rfl ?_
        refine z_xI zt104 5 rfl rfl (fun (x59 : Int32) (h60 : x59.toInt = x57.toInt + p2.toInt) => ?_) (z_pAdd rfl rfl (by omega) (by omega))
        refine z_xP zt104 6 11 [some (.ref a40), some (.int p2)] [.int 1, .int x59] rfl rfl ?_
        refine z_xI zt104 7 rfl rfl (fun (x61 : Int32) (h62 : x61.toInt = x59.toInt - 1) => ?_) (z_pSub rfl rfl (by omega) (by omega))
        refine z_xP zt104 8 13 [some (.ref a40), some (.int p2)] [.int p2, .int x61] rfl rfl ?_
        refine z_xcS (vs := [.int x61, .int p2]) (r := []) (L2 := [some (.int x61), some (.int p2)]) zt104 9 rfl zo104 zzcS3_136 (Or.inr rfl) (Nat.le_of_ble_eq_true rfl) rfl rfl (Nat.le_of_ble_eq_true rfl) zzm105 (Nat.le_of_ble_eq_true rfl) rfl ?_
        refine z_xP zt105 0 1 [some (.int x61), some (.int p2)] [.int x61] rfl rfl ?_
        refine z_xZ zt105 1 rfl rfl (fun (h63 : x61.toInt < 0) => absurd h63 (by omega)) (fun (h63 : 0 ≤ x61.toInt) => ?_)
        refine z_xP zt105 2 5 [some (.int x61), some (.int p2)] [.int p2] rfl rfl ?_
        refine z_xZ zt105 3 rfl rfl (fun (h64 : p2.toInt < 0) => absurd h64 (by omega)) (fun (h64 : 0 ≤ p2.toInt) => ?_)
        refine z_xP zt105 4 10 [some (.int x61), some (.int p2)] [.int 5, .int p2] rfl rfl ?_
        refine z_xJ zt105 5 rfl rfl (fun (h65 : 5 < p2.toInt) => absurd h65 (by omega)) (fun (h65 : p2.toInt ≤ 5) => ?_)
        refine z_xP zt105 6 16 [some (.int x61), some (.int p2)] [.int x61, .int 6] rfl rfl ?_
        refine z_xI zt105 7 rfl rfl (fun (x66 : Int32) (h67 : x66.toInt = 6 * x61.toInt) => ?_) (z_pMul rfl rfl (by omega) (by omega))
        refine z_xP zt105 8 18 [some (.int x61), some (.int p2)] [.int p2, .int x66] rfl rfl ?_
        refine z_xI zt105 9 rfl rfl (fun (x68 : Int32) (h69 : x68.toInt = x66.toInt + p2.toInt) => ?_) (z_pAdd rfl rfl (by omega) (by omega))
        refine z_xgs zt105 10 rfl zo105 zg0_340 ?_
        have f1 : T[1]? = some (.inr (1, 0, 102, 0, 4368)) := X.1.k rfl (by decide)
        refine z_xln zt105 11 rfl X f1 (by decide) (by decide) (fun (x70 : Int32) (h71 : x70.toInt = ((102 : Nat) : Int)) => ?_)
        refine z_xJ zt105 12 rfl rfl (fun (h72 : x68.toInt < x70.toInt) => ?_) (fun (h72 : x70.toInt ≤ x68.toInt) => ?_)
        · skip
          refine z_xgs zt105 15 rfl zo105 zg0_340 ?_
          refine z_xP zt105 16 34 [some (.int x61), some (.int p2)] [.int x61, .int 6, .ref 1] rfl rfl ?_
          refine z_xI zt105 17 rfl rfl (fun (x73 : Int32) (h74 : x73.toInt = 6 * x61.toInt) => ?_) (z_pMul rfl rfl (by omega) (by omega))
          refine z_xP zt105 18 36 [some (.int x61), some (.int p2)] [.int p2, .int x73, .ref 1] rfl rfl ?_
          refine z_xI zt105 19 rfl rfl (fun (x75 : Int32) (h76 : x75.toInt = x73.toInt + p2.toInt) => ?_) (z_pAdd rfl rfl (by omega) (by omega))
          refine z_xil zt105 20 rfl X f1 (by decide) (by omega) (by omega) (fun (x77 : Int32) h78 (h79 : 0 ≤ x77.toInt) (h80 : x77.toInt ≤ 4368) => ?_)
          refine z_xri zt105 21 rfl zzr105 ?_
          show z_ev (d + 1) 104 16 [some (.ref a40), some (.int p2)] [.int x77] M0 _
          refine z_xri zt104 10 rfl zzr104 ?_
          show z_ev (d + 2) 102 23 [some (.ref 4), some (.int p1), some (.int p2), some (.int 0)] [.int x77] M0 _
          obtain ⟨pr81, en82, B83, hAB84⟩ := hR6.at h7 (by omega) (by omega) h14 k20 h22
          exact z_xri zt102 12 rfl zzr102 (kk x77 M0 X (by omega) (by omega) (z_qA1 h7 ⟨by omega, by omega⟩ hAB84 (Or.inr ⟨by omega, Or.inr ⟨by omega, by omega, (congrArg Int32.toInt h78.symm).trans (congrArg (fun k => (z_Ar M0 1 k).toInt) (by unfold Int32.toNatClampNeg; omega))⟩⟩)))
        refine z_xP zt105 13 27 [some (.int x61), some (.int p2)] [.int 0] rfl rfl ?_
        refine z_xri zt105 14 rfl zzr105 ?_
        show z_ev (d + 1) 104 16 [some (.ref a40), some (.int p2)] [.int 0] M0 _
        refine z_xri zt104 10 rfl zzr104 ?_
        show z_ev (d + 2) 102 23 [some (.ref 4), some (.int p1), some (.int p2), some (.int 0)] [.int 0] M0 _
        have q0 : ((0 : Int32)).toInt = 0 := rfl
        obtain ⟨pr85, en86, B87, hAB88⟩ := hR6.at h7 (by omega) (by omega) h14 k20 h22
        have q0 : ((0 : Int32)).toInt = 0 := rfl
        exact z_xri zt102 12 rfl zzr102 (kk 0 M0 X (by omega) (by omega) (by exfalso; omega))
      refine z_xP zt103 14 38 [some (.ref 4), some (.int p1), some (.int p2), some (.ref a23)] [.int (-4)] rfl rfl ?_
      refine z_xri zt103 16 rfl zzr103 ?_
      show z_ev (d + 2) 102 6 [some (.ref 4), some (.int p1), some (.int p2), none] [.int (-4)] M0 _
      refine z_xP zt102 2 8 [some (.ref 4), some (.int p1), some (.int p2), some (.int (-4))] [.int (-4)] rfl rfl ?_
      refine z_xZ zt102 3 rfl rfl (fun (h89 : ((-4) : Int) = 0) => absurd h89 (by omega)) (fun (h89 : ((-4) : Int) ≠ 0) => ?_)
      refine z_xP zt102 4 12 [some (.ref 4), some (.int p1), some (.int p2), some (.int (-4))] [.int (-4)] rfl rfl ?_
      have qm4 : (((-4) : Int32)).toInt = (-4) := rfl
      obtain ⟨pr90, en91, B92, hAB93⟩ := hR6.at h7 (by omega) (by omega) h14 k20 h22
      have qm4 : (((-4) : Int32)).toInt = (-4) := rfl
      exact z_xri zt102 5 rfl zzr102 (kk (-4) M0 X (by omega) (by omega) (z_qA1 h7 ⟨by omega, by omega⟩ hAB93 (Or.inr ⟨by omega, Or.inl ⟨by omega, by omega⟩⟩)))
    refine z_xP zt103 7 21 [some (.ref 4), some (.int p1), some (.int p2), some (.ref a23)] [.int (-1)] rfl rfl ?_
    refine z_xri zt103 8 rfl zzr103 ?_
    show z_ev (d + 2) 102 6 [some (.ref 4), some (.int p1), some (.int p2), none] [.int (-1)] M0 _
    refine z_xP zt102 2 8 [some (.ref 4), some (.int p1), some (.int p2), some (.int (-1))] [.int (-1)] rfl rfl ?_
    refine z_xZ zt102 3 rfl rfl (fun (h94 : ((-1) : Int) = 0) => absurd h94 (by omega)) (fun (h94 : ((-1) : Int) ≠ 0) => ?_)
    refine z_xP zt102 4 12 [some (.ref 4), some (.int p1), some (.int p2), some (.int (-1))] [.int (-1)] rfl rfl ?_
    have qm1 : (((-1) : Int32)).toInt = (-1) := rfl
    obtain ⟨pr95, en96, B97, hAB98⟩ := hR6.at h7 (by omega) (by omega) h14 k20 h22
    have qm1 : (((-1) : Int32)).toInt = (-1) := rfl
    exact z_xri zt102 5 rfl zzr102 (kk (-1) M0 X (by omega) (by omega) (z_qA1 h7 ⟨by omega, by omega⟩ hAB98 (Or.inl ⟨by omega, by omega⟩)))
  refine z_xP zt37 5 25 [some (.ref 4), some (.int p1)] [.null] rfl rfl ?_
  refine z_xrn zt37 11 rfl zzr37 ?_
  show z_ev (d + 1) 103 5 [some (.ref 4), some (.int p1), some (.int p2), none] [.null] M0 _
  refine z_xP zt103 2 20 [some (.ref 4), some (.int p1), some (.int p2), some (.null)] [] rfl rfl ?_
  refine z_xP zt103 7 21 [some (.ref 4), some (.int p1), some (.int p2), some (.null)] [.int (-1)] rfl rfl ?_
  refine z_xri zt103 8 rfl zzr103 ?_
  show z_ev (d + 2) 102 6 [some (.ref 4), some (.int p1), some (.int p2), none] [.int (-1)] M0 _
  refine z_xP zt102 2 8 [some (.ref 4), some (.int p1), some (.int p2), some (.int (-1))] [.int (-1)] rfl rfl ?_
  refine z_xZ zt102 3 rfl rfl (fun (h99 : ((-1) : Int) = 0) => absurd h99 (by omega)) (fun (h99 : ((-1) : Int) ≠ 0) => ?_)
  refine z_xP zt102 4 12 [some (.ref 4), some (.int p1), some (.int p2), some (.int (-1))] [.int (-1)] rfl rfl ?_
  have qm1 : (((-1) : Int32)).toInt = (-1) := rfl
  have qm1 : (((-1) : Int32)).toInt = (-1) := rfl
  exact z_xri zt102 5 rfl zzr102 (kk (-1) M0 X (by omega) (by omega) (z_qA0 h7 (by omega) (by omega)))
theorem zUB255 {T : List zK} {d : Nat} {K : Option Value → zH → Prop} {p1 : Int32} {zp0 : Int32} {zp1 : Int32} {zl0 : Int32} {M0 : zH} (u1 : 0 ≤ p1.toInt ∧ p1.toInt ≤ 1) (hz0 : z_F M0 19 29 = some (.int zp0)) (bz0 : 0 ≤ zp0.toInt ∧ zp0.toInt ≤ 7) (hz1 : z_F M0 19 30 = some (.int zp1)) (bz1 : 1 ≤ zp1.toInt ∧ zp1.toInt ≤ 5) (hl0 : z_Ar M0 31 zp0.toNatClampNeg = zl0) (bl0 : 1 ≤ zl0.toInt ∧ zl0.toInt ≤ 12) (hn0 : z_NB M0 zp1.toInt zl0.toInt) (kk : ∀ (x : Int32) (M1 : zH), z_X T zw255 M0 M1 → 0 ≤ x.toInt → x.toInt ≤ 1 → z_NB M1 zp1.toInt zl0.toInt → z_V 13 (z_Ar M0 43) zp1.toInt.toNat + x.toInt ≤ z_V 13 (z_Ar M1 43) zp1.toInt.toNat → (p1.toInt = 1 → x.toInt = 1 → z_V zl0.toInt (z_Ar M1 43) zp1.toInt.toNat = z_V zl0.toInt (z_Ar M0 43) zp1.toInt.toNat + 1) → (p1.toInt = 0 → z_stp zl0.toInt zp1.toInt (z_Ar M0 43) (z_Ar M1 43) x.toInt) → ∀ (w0 : Int32), z_F M1 19 29 = some (.int w0) → 0 ≤ w0.toInt ∧ w0.toInt ≤ 7 → w0.toInt = zp0.toInt → ∀ (w1 : Int32), z_F M1 19 30 = some (.int w1) → 1 ≤ w1.toInt ∧ w1.toInt ≤ 5 → w1.toInt = zp1.toInt → K (some (.int x)) M1) : ∀ n : Nat, (∀ (M : zH) (b2 : Int32) (z0 : Int32) (z1 : Int32) (z2 : Int32), z_X T zw255 M0 M → (-1) ≤ b2.toInt ∧ b2.toInt ≤ 4 → z_F M 19 29 = some (.int z0) → 0 ≤ z0.toInt ∧ z0.toInt ≤ 7 → z_F M 19 30 = some (.int z1) → 1 ≤ z1.toInt ∧ z1.toInt ≤ 5 → z_Ar M 31 z0.toNatClampNeg = z2 → 1 ≤ z2.toInt ∧ z2.toInt ≤ 12 → z0.toInt = zp0.toInt → z1.toInt = zp1.toInt → z2.toInt = zl0.toInt → b2.toInt ≤ z1.toInt - 1 → M = M0 → (∀ i : Nat, b2.toInt < (i : Int) → (i : Int) < z1.toInt → (z_Ar M0 43 i).toInt = z2.toInt - 1) → ((0) * 3 + 1) * 6 + (b2.toInt - (-1)) < (n : Int) → z_ev (d + 3) 255 7 [some (.ref 19), some (.int p1), some (.int b2), none, none] [] M K) ∧ (∀ (M : zH) (b2 : Int32) (b3 : Int32) (b4 : Int32) (z0 : Int32) (z1 : Int32) (z2 : Int32), z_X T zw255 M0 M → 0 ≤ b2.toInt ∧ b2.toInt ≤ 4 → 1 ≤ b3.toInt ∧ b3.toInt ≤ 1024 → 0 ≤ b4.toInt ∧ b4.toInt ≤ 5 → z_F M 19 29 = some (.int z0) → 0 ≤ z0.toInt ∧ z0.toInt ≤ 7 → z_F M 19 30 = some (.int z1) → 1 ≤ z1.toInt ∧ z1.toInt ≤ 5 → z_Ar M 31 z0.toNatClampNeg = z2 → 1 ≤ z2.toInt ∧ z2.toInt ≤ 12 → z0.toInt = zp0.toInt → z1.toInt = zp1.toInt → z2.toInt = zl0.toInt → 0 ≤ b2.toInt → b2.toInt < z1.toInt → b2.toInt ≤ b4.toInt → 1 ≤ b3.toInt → b3.toInt ≤ z2.toInt - 1 → b4.toInt ≤ z1.toInt → (∀ i : Nat, b2.toInt < (i : Int) → (i : Int) < z1.toInt → (z_Ar M0 43 i).toInt = z2.toInt - 1) → (p1.toInt = 1 → ∀ i : Nat, b2.toInt < (i : Int) → (i : Int) < b4.toInt → (z_Ar M 43 i).toInt = 0) → z_GO M0 M b2.toInt b4.toInt b3.toInt z1.toInt z2.toInt → (∀ i : Nat, (i : Int) = b2.toInt → b3.toInt = (z_Ar M0 43 i).toInt + 1) → (p1.toInt = 0 → ∀ i : Nat, b2.toInt ≤ (i : Int) → (i : Int) < b4.toInt → (z_Ar M 43 i).toInt = b3.toInt) → (∀ i : Nat, (i : Int) = b2.toInt → (z_Ar M0 43 i).toInt ≠ z2.toInt - 1) → ((0) * 3 + 0) * 6 + (5 - b4.toInt) < (n : Int) → z_ev (d + 3) 255 55 [some (.ref 19), some (.int p1), some (.int b2), some (.int b3), some (.int b4)] [] M K) := by
  intro n
  induction n with
  | zero => exact ⟨(by intros; exfalso; omega), (by intros; exfalso; omega)⟩
  | succ n ih =>
    refine ⟨?_, ?_⟩
    · skip
      intro M b2 z0 z1 z2 X hh0 hp0 hh2 hp1 hh4 hp2 hh6 hh7 hh8 hh9 hh10 hM ht hE
      refine z_xP zt255 5 8 [some (.ref 19), some (.int p1), some (.int b2), none, none] [.int b2] rfl rfl ?_
      refine z_xZ zt255 6 rfl rfl (fun (h1 : b2.toInt < 0) => ?_) (fun (h1 : 0 ≤ b2.toInt) => ?_)
      · skip
        refine z_xP zt255 21 38 [some (.ref 19), some (.int p1), some (.int b2), none, none] [.int b2] rfl rfl ?_
        refine z_xZ zt255 22 rfl rfl (fun (h2 : 0 ≤ b2.toInt) => absurd h2 (by omega)) (fun (h2 : b2.toInt < 0) => ?_)
        refine z_xP zt255 23 42 [some (.ref 19), some (.int p1), some (.int b2), none, none] [.int 0] rfl rfl ?_
        have f19 : T[19]? = some (.inl (12, 0, 0, 0, 0)) := X.1.k rfl (by decide)
        have q0 : ((0 : Int32)).toInt = 0 := rfl
        exact z_xrz zt255 24 rfl zzr255 (by decide) (by decide) (kk 0 M X (by omega) (by omega) (z_NBm hn0 (by rw [hM]) rfl rfl) (by rw [hM]; omega) (fun _ hx => absurd hx (by omega)) (fun _ => Or.inl ⟨by omega, fun i hi => by have := ht i (by omega) (by omega); omega⟩) z0 hp0 ⟨by omega, by omega⟩ (by omega) z1 hp1 ⟨by omega, by omega⟩ (by omega))
      refine z_xP zt255 7 12 [some (.ref 19), some (.int p1), some (.int b2), none, none] [.ref 19] rfl rfl ?_
      have f19 : T[19]? = some (.inl (12, 0, 0, 0, 0)) := X.1.k rfl (by decide)
      refine z_xgX (b := 43) zt255 8 rfl zo255 zzf12_79 X f19 (by decide) (by decide) rfl ?_
      refine z_xP zt255 9 16 [some (.ref 19), some (.int p1), some (.int b2), none, none] [.int b2, .ref 43] rfl rfl ?_
      have f43 : T[43]? = some (.inr (43, 0, 9, 0, 1023)) := X.1.k rfl (by decide)
      refine z_xil zt255 10 rfl X f43 (by decide) (by omega) (by omega) (fun (x3 : Int32) h4 (h5 : 0 ≤ x3.toInt) (h6 : x3.toInt ≤ 1023) => ?_)
      have h7 := z_NBl (z_NBm hn0 (by rw [hM]) rfl rfl) h4 (by omega) (by omega)
      refine z_xP zt255 11 18 [some (.ref 19), some (.int p1), some (.int b2), none, none] [.ref 19, .int x3] rfl rfl ?_
      refine z_xgX (b := 31) zt255 12 rfl zo255 zzf12_43 X f19 (by decide) (by decide) rfl ?_
      refine z_xP zt255 13 22 [some (.ref 19), some (.int p1), some (.int b2), none, none] [.ref 19, .ref 31, .int x3] rfl rfl ?_
      refine z_xgv zt255 14 rfl zo255 zzf12_242 X f19 (by decide) hp0 ?_
      have f31 : T[31]? = some (.inr (31, 0, 8, 0, 1024)) := X.1.k rfl (by decide)
      refine z_xil zt255 15 rfl X f31 (by decide) (by omega) (by omega) (fun (x8 : Int32) h9 (h10 : 0 ≤ x8.toInt) (h11 : x8.toInt ≤ 1024) => ?_)
      have h12 := congrArg Int32.toInt (h9.symm.trans hp2)
      refine z_xP zt255 16 27 [some (.ref 19), some (.int p1), some (.int b2), none, none] [.int 1, .int x8, .int x3] rfl rfl ?_
      refine z_xI zt255 17 rfl rfl (fun (x13 : Int32) (h14 : x13.toInt = x8.toInt - 1) => ?_) (z_pSub rfl rfl (by omega) (by omega))
      refine z_xJ zt255 18 rfl rfl (fun (h15 : x3.toInt ≠ x13.toInt) => ?_) (fun (h15 : x3.toInt = x13.toInt) => ?_)
      · skip
        refine z_xP zt255 21 38 [some (.ref 19), some (.int p1), some (.int b2), none, none] [.int b2] rfl rfl ?_
        refine z_xZ zt255 22 rfl rfl (fun (h16 : 0 ≤ b2.toInt) => ?_) (fun (h16 : b2.toInt < 0) => absurd h16 (by omega))
        refine z_xP zt255 25 44 [some (.ref 19), some (.int p1), some (.int b2), none, none] [.ref 19] rfl rfl ?_
        refine z_xgX (b := 43) zt255 26 rfl zo255 zzf12_79 X f19 (by decide) (by decide) rfl ?_
        refine z_xP zt255 27 48 [some (.ref 19), some (.int p1), some (.int b2), none, none] [.int b2, .ref 43] rfl rfl ?_
        refine z_xil zt255 28 rfl X f43 (by decide) (by omega) (by omega) (fun (x17 : Int32) h18 (h19 : 0 ≤ x17.toInt) (h20 : x17.toInt ≤ 1023) => ?_)
        have h21 := congrArg Int32.toInt (h18.symm.trans h4)
        have h22 := z_NBl (z_NBm hn0 (by rw [hM]) rfl rfl) h18 (by omega) (by omega)
        refine z_xP zt255 29 50 [some (.ref 19), some (.int p1), some (.int b2), none, none] [.int 1, .int x17] rfl rfl ?_
        refine z_xI zt255 30 rfl rfl (fun (x23 : Int32) (h24 : x23.toInt = x17.toInt + 1) => ?_) (z_pAdd rfl rfl (by omega) (by omega))
        refine z_xP zt255 31 55 [some (.ref 19), some (.int p1), some (.int b2), some (.int x23), some (.int b2)] [] rfl rfl ?_
        exact ih.2 M b2 x23 b2 z0 z1 z2 X ⟨by omega, by omega⟩ ⟨by omega, by omega⟩ ⟨by omega, by omega⟩ hp0 ⟨by omega, by omega⟩ hp1 ⟨by omega, by omega⟩ hp2 ⟨by omega, by omega⟩ (by omega) (by omega) (by omega) (by omega) (by omega) (by omega) (by omega) (by omega) (by omega) ht (fun _ i h1 h2 => by omega) (by rw [hM]; exact z_GO0 (z_NBm hn0 rfl (by omega) (by omega)) (by omega)) (z_hv h4 hM (by omega) (by omega)) (fun _ i h1 h2 => by omega) (z_hnE h4 hM (by omega) (by omega)) (by omega)
      refine z_xN zt255 19 rfl rfl (fun (x25 : Int32) (h26 : x25.toInt = b2.toInt + (-1)) => ?_) (z_pAdd rfl rfl (by omega) (by omega))
      show z_ev (d + 3) 255 34 [some (.ref 19), some (.int p1), some (.int x25), none, none] [] M _
      refine z_xP zt255 20 7 [some (.ref 19), some (.int p1), some (.int x25), none, none] [] rfl rfl ?_
      exact ih.1 M x25 z0 z1 z2 X ⟨by omega, by omega⟩ hp0 ⟨by omega, by omega⟩ hp1 ⟨by omega, by omega⟩ hp2 ⟨by omega, by omega⟩ (by omega) (by omega) (by omega) (by omega) hM (z_ht ht h4 hM rfl (by omega) (by omega) (by omega)) (by omega)
    · skip
      intro M b2 b3 b4 z0 z1 z2 X hh0 hh1 hh2 hp0 hh4 hp1 hh6 hp2 hh8 hh9 hh10 hh11 hh12 hh13 hh14 hh15 hh16 hh17 ht hz hg hv hw hne hE
      refine z_xP zt255 32 58 [some (.ref 19), some (.int p1), some (.int b2), some (.int b3), some (.int b4)] [.ref 19, .int b4] rfl rfl ?_
      have f19 : T[19]? = some (.inl (12, 0, 0, 0, 0)) := X.1.k rfl (by decide)
      refine z_xgv zt255 33 rfl zo255 zzf12_245 X f19 (by decide) hp1 ?_
      refine z_xJ zt255 34 rfl rfl (fun (h1 : z1.toInt ≤ b4.toInt) => ?_) (fun (h1 : b4.toInt < z1.toInt) => ?_)
      · skip
        refine z_xP zt255 46 93 [some (.ref 19), some (.int p1), some (.int b2), some (.int b3), some (.int b4)] [.ref 19] rfl rfl ?_
        refine z_xcV (vs := [.ref 19]) (r := []) (L2 := [some (.ref 19), none]) zt255 47 rfl zo255 zzcV12_312 (Or.inl rfl) rfl X f19 rfl rfl rfl (Nat.le_of_ble_eq_true rfl) zzm253 (Nat.le_of_ble_eq_true rfl) rfl ?_
        refine zC253 X.1 (fun M2 X3  => ?_)
        have X4 := X.go X3 (z_sb (by decide))
        show z_ev (d + 3) 255 96 [some (.ref 19), some (.int p1), some (.int b2), some (.int b3), some (.int b4)] [] M2 _
        refine z_xP zt255 48 97 [some (.ref 19), some (.int p1), some (.int b2), some (.int b3), some (.int b4)] [.int 1] rfl rfl ?_
        have f43 : T[43]? = some (.inr (43, 0, 9, 0, 1023)) := X4.1.k rfl (by decide)
        have h6 := (z_GOm hg (X3.2.a f43 (by decide)))
        have h7 := z_GOv (N := zp1.toInt.toNat) h6 (z_NBm hn0 rfl (by omega) (by omega)) (by omega) (by omega) (by omega) (by omega) hv (by omega)
        have h8 : z2 = zl0 := z_sub (c := zl0.toInt) (by omega) rfl
        have h9 : z1 = zp1 := z_sub (c := zp1.toInt) (by omega) rfl
        have h10 : z2 = zl0 := z_sub (c := zl0.toInt) (by omega) rfl
        have h11 : z1 = zp1 := z_sub (c := zp1.toInt) (by omega) rfl
        have h12 := (X3.2.f f19 (by decide) hp0)
        have h13 := (X3.2.f f19 (by decide) hp1)
        have q1 : ((1 : Int32)).toInt = 1 := rfl
        exact z_xrz zt255 49 rfl zzr255 (by decide) (by decide) (kk 1 M2 X4 (by omega) (by omega) (z_NBm h6.2.2 rfl (by omega) (by omega)) (by omega) (fun hp _ => by subst h8; subst h9; exact z_GOr h6 ht ((z_hzm hz (X3.2.a f43 (by decide))) hp) (by omega) (by omega) (by omega) hv (by omega)) (fun hp => by subst h10; subst h11; exact Or.inr ⟨by omega, z_stp1 h6 ht ((z_hzm2 hw (X3.2.a f43 (by decide))) hp) hne hv (by omega) (by omega) (by omega)⟩) z0 h12 ⟨by omega, by omega⟩ (by omega) z1 h13 ⟨by omega, by omega⟩ (by omega))
      refine z_xP zt255 35 65 [some (.ref 19), some (.int p1), some (.int b2), some (.int b3), some (.int b4)] [.ref 19] rfl rfl ?_
      refine z_xgX (b := 43) zt255 36 rfl zo255 zzf12_79 X f19 (by decide) (by decide) rfl ?_
      refine z_xP zt255 37 71 [some (.ref 19), some (.int p1), some (.int b2), some (.int b3), some (.int b4)] [.int p1, .int b4, .ref 43] rfl rfl ?_
      refine z_xZ zt255 38 rfl rfl (fun (h14 : p1.toInt = 0) => ?_) (fun (h14 : p1.toInt ≠ 0) => ?_)
      · skip
        refine z_xP zt255 42 85 [some (.ref 19), some (.int p1), some (.int b2), some (.int b3), some (.int b4)] [.int b3, .int b4, .ref 43] rfl rfl ?_
        have f43 : T[43]? = some (.inr (43, 0, 9, 0, 1023)) := X.1.k rfl (by decide)
        refine z_xis zt255 43 rfl X f43 (by decide) (by decide) (by omega) (by omega) (by omega) (by omega) (by decide) (fun M15 X16 e17 h18 => ?_)
        refine z_xN zt255 44 rfl rfl (fun (x19 : Int32) (h20 : x19.toInt = b4.toInt + 1) => ?_) (z_pAdd rfl rfl (by omega) (by omega))
        show z_ev (d + 3) 255 89 [some (.ref 19), some (.int p1), some (.int b2), some (.int b3), some (.int x19)] [] M15 _
        refine z_xP zt255 45 55 [some (.ref 19), some (.int p1), some (.int b2), some (.int b3), some (.int x19)] [] rfl rfl ?_
        have h21 := (e17.f f19 (by decide) hp0)
        have h22 := (e17.f f19 (by decide) hp1)
        have f31 : T[31]? = some (.inr (31, 0, 8, 0, 1024)) := X16.1.k rfl (by decide)
        have h23 := ((congrFun (e17.a f31 (by decide)) _).trans hp2)
        exact ih.2 M15 b2 b3 x19 z0 z1 z2 X16 ⟨by omega, by omega⟩ ⟨by omega, by omega⟩ ⟨by omega, by omega⟩ h21 ⟨by omega, by omega⟩ h22 ⟨by omega, by omega⟩ h23 ⟨by omega, by omega⟩ (by omega) (by omega) (by omega) (by omega) (by omega) (by omega) (by omega) (by omega) (by omega) ht (z_hz hz h18 rfl (by omega) (by omega) (by omega)) (z_GOs hg h18 rfl (by omega) (by omega) (by omega) (by omega) (by omega) (by omega)) hv (z_hwS hw h18 rfl (by omega) (fun hp => by omega) (by omega)) hne (by omega)
      refine z_xP zt255 39 77 [some (.ref 19), some (.int p1), some (.int b2), some (.int b3), some (.int b4)] [.int b2, .int b4, .int b4, .ref 43] rfl rfl ?_
      refine z_xJ zt255 40 rfl rfl (fun (h24 : b4.toInt ≤ b2.toInt) => ?_) (fun (h24 : b2.toInt < b4.toInt) => ?_)
      · skip
        refine z_xP zt255 42 85 [some (.ref 19), some (.int p1), some (.int b2), some (.int b3), some (.int b4)] [.int b3, .int b4, .ref 43] rfl rfl ?_
        have f43 : T[43]? = some (.inr (43, 0, 9, 0, 1023)) := X.1.k rfl (by decide)
        refine z_xis zt255 43 rfl X f43 (by decide) (by decide) (by omega) (by omega) (by omega) (by omega) (by decide) (fun M25 X26 e27 h28 => ?_)
        refine z_xN zt255 44 rfl rfl (fun (x29 : Int32) (h30 : x29.toInt = b4.toInt + 1) => ?_) (z_pAdd rfl rfl (by omega) (by omega))
        show z_ev (d + 3) 255 89 [some (.ref 19), some (.int p1), some (.int b2), some (.int b3), some (.int x29)] [] M25 _
        refine z_xP zt255 45 55 [some (.ref 19), some (.int p1), some (.int b2), some (.int b3), some (.int x29)] [] rfl rfl ?_
        have h31 := (e27.f f19 (by decide) hp0)
        have h32 := (e27.f f19 (by decide) hp1)
        have f31 : T[31]? = some (.inr (31, 0, 8, 0, 1024)) := X26.1.k rfl (by decide)
        have h33 := ((congrFun (e27.a f31 (by decide)) _).trans hp2)
        exact ih.2 M25 b2 b3 x29 z0 z1 z2 X26 ⟨by omega, by omega⟩ ⟨by omega, by omega⟩ ⟨by omega, by omega⟩ h31 ⟨by omega, by omega⟩ h32 ⟨by omega, by omega⟩ h33 ⟨by omega, by omega⟩ (by omega) (by omega) (by omega) (by omega) (by omega) (by omega) (by omega) (by omega) (by omega) ht (z_hz hz h28 rfl (by omega) (by omega) (by omega)) (z_GOs hg h28 rfl (by omega) (by omega) (by omega) (by omega) (by omega) (by omega)) hv (z_hwS hw h28 rfl (by omega) (fun hp => by omega) (by omega)) hne (by omega)
      refine z_xP zt255 41 85 [some (.ref 19), some (.int p1), some (.int b2), some (.int b3), some (.int b4)] [.int 0, .int b4, .ref 43] rfl rfl ?_
      have f43 : T[43]? = some (.inr (43, 0, 9, 0, 1023)) := X.1.k rfl (by decide)
      have q0 : ((0 : Int32)).toInt = 0 := rfl
      refine z_xis zt255 43 rfl X f43 (by decide) (by decide) (by omega) (by omega) (by omega) (by omega) (by decide) (fun M34 X35 e36 h37 => ?_)
      refine z_xN zt255 44 rfl rfl (fun (x38 : Int32) (h39 : x38.toInt = b4.toInt + 1) => ?_) (z_pAdd rfl rfl (by omega) (by omega))
      show z_ev (d + 3) 255 89 [some (.ref 19), some (.int p1), some (.int b2), some (.int b3), some (.int x38)] [] M34 _
      refine z_xP zt255 45 55 [some (.ref 19), some (.int p1), some (.int b2), some (.int b3), some (.int x38)] [] rfl rfl ?_
      have h40 := (e36.f f19 (by decide) hp0)
      have h41 := (e36.f f19 (by decide) hp1)
      have f31 : T[31]? = some (.inr (31, 0, 8, 0, 1024)) := X35.1.k rfl (by decide)
      have h42 := ((congrFun (e36.a f31 (by decide)) _).trans hp2)
      exact ih.2 M34 b2 b3 x38 z0 z1 z2 X35 ⟨by omega, by omega⟩ ⟨by omega, by omega⟩ ⟨by omega, by omega⟩ h40 ⟨by omega, by omega⟩ h41 ⟨by omega, by omega⟩ h42 ⟨by omega, by omega⟩ (by omega) (by omega) (by omega) (by omega) (by omega) (by omega) (by omega) (by omega) (by omega) ht (z_hz hz h37 rfl (by omega) (by omega) (by omega)) (z_GOs hg h37 rfl (by omega) (by omega) (by omega) (by omega) (by omega) (by omega)) hv (z_hwS hw h37 rfl (by omega) (fun hp => by omega) (by omega)) hne (by omega)
theorem zUC255 {T : List zK} {d : Nat} {K : Option Value → zH → Prop} {p1 : Int32} {zp0 : Int32} {zp1 : Int32} {zl0 : Int32} {M0 : zH} (hW : z_W M0 T) (u1 : 0 ≤ p1.toInt ∧ p1.toInt ≤ 1) (hz0 : z_F M0 19 29 = some (.int zp0)) (bz0 : 0 ≤ zp0.toInt ∧ zp0.toInt ≤ 7) (hz1 : z_F M0 19 30 = some (.int zp1)) (bz1 : 1 ≤ zp1.toInt ∧ zp1.toInt ≤ 5) (hl0 : z_Ar M0 31 zp0.toNatClampNeg = zl0) (bl0 : 1 ≤ zl0.toInt ∧ zl0.toInt ≤ 12) (hn0 : z_NB M0 zp1.toInt zl0.toInt) (kk : ∀ (x : Int32) (M1 : zH), z_X T zw255 M0 M1 → 0 ≤ x.toInt → x.toInt ≤ 1 → z_NB M1 zp1.toInt zl0.toInt → z_V 13 (z_Ar M0 43) zp1.toInt.toNat + x.toInt ≤ z_V 13 (z_Ar M1 43) zp1.toInt.toNat → (p1.toInt = 1 → x.toInt = 1 → z_V zl0.toInt (z_Ar M1 43) zp1.toInt.toNat = z_V zl0.toInt (z_Ar M0 43) zp1.toInt.toNat + 1) → (p1.toInt = 0 → z_stp zl0.toInt zp1.toInt (z_Ar M0 43) (z_Ar M1 43) x.toInt) → ∀ (w0 : Int32), z_F M1 19 29 = some (.int w0) → 0 ≤ w0.toInt ∧ w0.toInt ≤ 7 → w0.toInt = zp0.toInt → ∀ (w1 : Int32), z_F M1 19 30 = some (.int w1) → 1 ≤ w1.toInt ∧ w1.toInt ≤ 5 → w1.toInt = zp1.toInt → K (some (.int x)) M1) : z_ev (d + 3) 255 0 [some (.ref 19), some (.int p1), none, none, none] [] M0 K := by
  have X : z_X T zw255 M0 M0 := .refl hW
  refine z_xP zt255 0 1 [some (.ref 19), some (.int p1), none, none, none] [.ref 19] rfl rfl ?_
  have f19 : T[19]? = some (.inl (12, 0, 0, 0, 0)) := X.1.k rfl (by decide)
  refine z_xgv zt255 1 rfl zo255 zzf12_245 X f19 (by decide) hz1 ?_
  refine z_xP zt255 2 5 [some (.ref 19), some (.int p1), none, none, none] [.int 1, .int zp1] rfl rfl ?_
  refine z_xI zt255 3 rfl rfl (fun (x1 : Int32) (h2 : x1.toInt = zp1.toInt - 1) => ?_) (z_pSub rfl rfl (by omega) (by omega))
  refine z_xP zt255 4 7 [some (.ref 19), some (.int p1), some (.int x1), none, none] [] rfl rfl ?_
  have f31 : T[31]? = some (.inr (31, 0, 8, 0, 1024)) := X.1.k rfl (by decide)
  exact (zUB255 u1 hz0 bz0 hz1 bz1 hl0 bl0 hn0 kk 18).1 M0 x1 zp0 zp1 zl0 X ⟨by omega, by omega⟩ hz0 ⟨by omega, by omega⟩ hz1 ⟨by omega, by omega⟩ hl0 ⟨by omega, by omega⟩ (by omega) (by omega) (by omega) (by omega) rfl (fun i h1 h2 => by omega) (by omega)
theorem zUB250 {T : List zK} {d : Nat} {K : Option Value → zH → Prop} {p1 : Int32} {p2 : Int32} {M0 : zH} (hR : z_G4 M0) (kk : ∀ (x : Int32) (M1 : zH), z_X T zw250 M0 M1 → (-4) ≤ x.toInt → x.toInt ≤ 5000 → y_qA M0 p1 x.toInt (z_bnc (z_Ar M0 31 p1.toNatClampNeg).toInt.toNat p2.toInt x.toInt ((z_T (z_Ar M0 31 p1.toNatClampNeg).toInt.toNat p2.toInt.toNat : Nat) : Int)) → K (some (.int x)) M1) : ∀ n : Nat, (∀ (M : zH) (b3 : Int32) (b4 : Int32) (b5 : Int32) (z0 : Int32) (z1 : Int32) (z2 : Int32), z_X T zw250 M0 M → 0 ≤ p1.toInt ∧ p1.toInt ≤ 7 → 1 ≤ p2.toInt ∧ p2.toInt ≤ 5 → 0 ≤ b3.toInt ∧ b3.toInt ≤ 0 → 0 ≤ b4.toInt ∧ b4.toInt ≤ 5000 → 0 ≤ b5.toInt ∧ b5.toInt ≤ 1 → z_F M 19 29 = some (.int z0) → 0 ≤ z0.toInt ∧ z0.toInt ≤ 7 → z_F M 19 30 = some (.int z1) → 1 ≤ z1.toInt ∧ z1.toInt ≤ 5 → z_Ar M 31 z0.toNatClampNeg = z2 → 0 ≤ z2.toInt ∧ z2.toInt ≤ 12 → z2.toInt ≤ 12 → 1 ≤ z2.toInt → 1 ≤ z1.toInt → z1.toInt ≤ 5 → z1.toInt = p2.toInt → 0 ≤ b5.toInt → b5.toInt ≤ 1 → z_NB M z1.toInt z2.toInt → z_cti z2.toInt.toNat z1.toInt.toNat (z_Ar M 43) b4.toInt b5.toInt → (∃ A : Int32, z_F M0 19 13 = some (.int A) ∧ 0 ≤ p1.toInt ∧ p1.toInt < A.toInt) → z_Ar M0 31 p1.toNatClampNeg = z2 → ((0) * 2 + 0) * 742588 + (2 * (371293 - z_V 13 (z_Ar M 43) z1.toInt.toNat) + b5.toInt) < (n : Int) → z_ev (d + 4) 250 25 [some (.ref 19), some (.int p1), some (.int p2), some (.int b3), some (.int b4), some (.int b5)] [] M K) := by
  intro n
  induction n with
  | zero => exact by intro M b3 b4 b5 z0 z1 z2 X hh0 hh1 hh2 hh3 hh4 hp0 hh6 hp1 hh8 hp2 hh10 hh11 hh12 hh13 hh14 hh15 hh16 hh17 hn hT hQ hL hE; have hV := z_V5 hn (by omega) (by omega) (by omega); have hB := z_ctB hT (by omega) (by omega); exfalso; omega
  | succ n ih =>
    intro M b3 b4 b5 z0 z1 z2 X hh0 hh1 hh2 hh3 hh4 hp0 hh6 hp1 hh8 hp2 hh10 hh11 hh12 hh13 hh14 hh15 hh16 hh17 hn hT hQ hL hE
    have hV := z_V5 hn (by omega) (by omega) (by omega)
    have hB := z_ctB hT (by omega) (by omega)
    refine z_xP zt250 9 27 [some (.ref 19), some (.int p1), some (.int p2), some (.int b3), some (.int b4), some (.int b5)] [.int b5] rfl rfl ?_
    refine z_xZ zt250 10 rfl rfl (fun (h1 : b5.toInt = 0) => ?_) (fun (h1 : b5.toInt ≠ 0) => ?_)
    · skip
      refine z_xP zt250 15 45 [some (.ref 19), some (.int p1), some (.int p2), some (.int b3), some (.int b4), some (.int b5)] [.int b4] rfl rfl ?_
      obtain ⟨A2, hQ1, hQ2⟩ := hQ
      exact z_xri zt250 16 rfl zzr250 (kk b4 M X (by omega) (by omega) (y_qA1 hQ1 hQ2 (by rw [hL]; exact Or.inr ⟨⟨by omega, by omega⟩, Or.inr ⟨by omega, by omega, z_ctiE hT (by omega) (by omega)⟩⟩)))
    refine z_xN zt250 11 rfl rfl (fun (x3 : Int32) (h4 : x3.toInt = b4.toInt + 1) => ?_) (z_pAdd rfl rfl (by omega) (by omega))
    show z_ev (d + 4) 250 33 [some (.ref 19), some (.int p1), some (.int p2), some (.int b3), some (.int x3), some (.int b5)] [] M _
    refine z_xP zt250 12 35 [some (.ref 19), some (.int p1), some (.int p2), some (.int b3), some (.int x3), some (.int b5)] [.int 0, .ref 19] rfl rfl ?_
    have f19 : T[19]? = some (.inl (12, 0, 0, 0, 0)) := X.1.k rfl (by decide)
    refine z_xcV (vs := [.ref 19, .int 0]) (r := []) (L2 := [some (.ref 19), some (.int 0), none, none, none]) zt250 13 rfl zo250 zzcV12_326 (Or.inl rfl) rfl X f19 rfl rfl rfl (Nat.le_of_ble_eq_true rfl) zzm255 (Nat.le_of_ble_eq_true rfl) rfl ?_
    have q0 : ((0 : Int32)).toInt = 0 := rfl
    have f31 : T[31]? = some (.inr (31, 0, 8, 0, 1024)) := X.1.k rfl (by decide)
    have q0 : ((0 : Int32)).toInt = 0 := rfl
    refine zUC255 X.1 (by decide) hp0 ⟨by omega, by omega⟩ hp1 ⟨by omega, by omega⟩ hp2 ⟨by omega, by omega⟩ hn (fun x19 M5 X6 h20 h21 h7 h8 h9 h10 z11 h12 h13 h14 z15 h16 h17 h18 => ?_)
    have X22 := X.go X6 (z_sb (by decide))
    show z_ev (d + 4) 250 38 [some (.ref 19), some (.int p1), some (.int p2), some (.int b3), some (.int x3), some (.int b5)] [.int x19] M5 _
    refine z_xP zt250 14 25 [some (.ref 19), some (.int p1), some (.int p2), some (.int b3), some (.int x3), some (.int x19)] [] rfl rfl ?_
    have h24 := (X6.2.f f19 (by decide) hp0)
    have h25 := (X6.2.f f19 (by decide) hp1)
    have h26 := ((congrFun (X6.2.a f31 (by decide)) _).trans hp2)
    have h27 := z_V5 h7 (by omega) (by omega) (by omega)
    exact ih M5 b3 x3 x19 z0 z1 z2 X22 ⟨by omega, by omega⟩ ⟨by omega, by omega⟩ ⟨by omega, by omega⟩ ⟨by omega, by omega⟩ ⟨by omega, by omega⟩ h24 ⟨by omega, by omega⟩ h25 ⟨by omega, by omega⟩ h26 ⟨by omega, by omega⟩ (by omega) (by omega) (by omega) (by omega) (by omega) (by omega) (by omega) h7 (z_ctiS hT (by omega) (h10 (by decide)) (by omega) (by omega) hn (by omega) (by omega) (by omega) (by omega) (by omega)) hQ hL (by omega)
theorem zUC250 {T : List zK} {d : Nat} {K : Option Value → zH → Prop} {p1 : Int32} {p2 : Int32} {M0 : zH} (hW : z_W M0 T) (hR : z_G4 M0) (kk : ∀ (x : Int32) (M1 : zH), z_X T zw250 M0 M1 → (-4) ≤ x.toInt → x.toInt ≤ 5000 → y_qA M0 p1 x.toInt (z_bnc (z_Ar M0 31 p1.toNatClampNeg).toInt.toNat p2.toInt x.toInt ((z_T (z_Ar M0 31 p1.toNatClampNeg).toInt.toNat p2.toInt.toNat : Nat) : Int)) → K (some (.int x)) M1) : z_ev (d + 4) 250 0 [some (.ref 19), some (.int p1), some (.int p2), none, none, none] [] M0 K := by
  have X : z_X T zw250 M0 M0 := .refl hW
  refine z_xP zt250 0 3 [some (.ref 19), some (.int p1), some (.int p2), none, none, none] [.int p2, .int p1, .ref 19] rfl rfl ?_
  have f19 : T[19]? = some (.inl (12, 0, 0, 0, 0)) := X.1.k rfl (by decide)
  refine z_xcV (vs := [.ref 19, .int p1, .int p2]) (r := []) (L2 := [some (.ref 19), some (.int p1), some (.int p2)]) zt250 1 rfl zo250 zzcV12_320 (Or.inl rfl) rfl X f19 rfl rfl rfl (Nat.le_of_ble_eq_true rfl) zzm251 (Nat.le_of_ble_eq_true rfl) rfl ?_
  refine z_xP zt251 0 2 [some (.ref 19), some (.int p1), some (.int p2)] [.int p1, .ref 19] rfl rfl ?_
  refine z_xcV (vs := [.ref 19, .int p1]) (r := []) (L2 := [some (.ref 19), some (.int p1)]) zt251 1 rfl zo251 zzcV12_209 (Or.inl rfl) rfl X f19 rfl rfl rfl (Nat.le_of_ble_eq_true rfl) zzm209 (Nat.le_of_ble_eq_true rfl) rfl ?_
  refine z_xP zt209 0 1 [some (.ref 19), some (.int p1)] [.int p1] rfl rfl ?_
  refine z_xZ zt209 1 rfl rfl (fun (h1 : p1.toInt < 0) => ?_) (fun (h1 : 0 ≤ p1.toInt) => ?_)
  · skip
    refine z_xP zt209 6 17 [some (.ref 19), some (.int p1)] [.int 0] rfl rfl ?_
    refine z_xrz zt209 7 rfl zzr209 (by decide) (by decide) ?_
    show z_ev (d + 3) 251 5 [some (.ref 19), some (.int p1), some (.int p2)] [.int 0] M0 _
    refine z_xZ zt251 2 rfl rfl (fun (h2 : (0 : Int) = 0) => ?_) (fun (h2 : (0 : Int) ≠ 0) => absurd h2 (by omega))
    refine z_xP zt251 9 21 [some (.ref 19), some (.int p1), some (.int p2)] [.int (-1)] rfl rfl ?_
    refine z_xri zt251 10 rfl zzr251 ?_
    show z_ev (d + 4) 250 6 [some (.ref 19), some (.int p1), some (.int p2), none, none, none] [.int (-1)] M0 _
    refine z_xP zt250 2 8 [some (.ref 19), some (.int p1), some (.int p2), some (.int (-1)), none, none] [.int (-1)] rfl rfl ?_
    refine z_xZ zt250 3 rfl rfl (fun (h3 : 0 ≤ ((-1) : Int)) => absurd h3 (by omega)) (fun (h3 : ((-1) : Int) < 0) => ?_)
    refine z_xP zt250 4 12 [some (.ref 19), some (.int p1), some (.int p2), some (.int (-1)), none, none] [.int (-1)] rfl rfl ?_
    have qm1 : (((-1) : Int32)).toInt = (-1) := rfl
    obtain ⟨x4, h5, h6, h7⟩ := z_W.fi X.1 f19 (k := 13) (lo := 0) (hi := 8) (by decide) rfl
    have qm1 : (((-1) : Int32)).toInt = (-1) := rfl
    exact z_xri zt250 5 rfl zzr250 (kk (-1) M0 X (by omega) (by omega) (y_qA0 h5 (by omega) (by omega)))
  refine z_xP zt209 2 6 [some (.ref 19), some (.int p1)] [.ref 19, .int p1] rfl rfl ?_
  refine z_xgI zt209 3 rfl zo209 zzf12_110 X f19 (by decide) (by decide) rfl (fun (x9 : Int32) h8 (h10 : 0 ≤ x9.toInt) (h11 : x9.toInt ≤ 8) => ?_)
  have h12 := z_b32 p1
  refine z_xJ zt209 4 rfl rfl (fun (h13 : x9.toInt ≤ p1.toInt) => ?_) (fun (h13 : p1.toInt < x9.toInt) => ?_)
  · skip
    refine z_xP zt209 6 17 [some (.ref 19), some (.int p1)] [.int 0] rfl rfl ?_
    refine z_xrz zt209 7 rfl zzr209 (by decide) (by decide) ?_
    show z_ev (d + 3) 251 5 [some (.ref 19), some (.int p1), some (.int p2)] [.int 0] M0 _
    refine z_xZ zt251 2 rfl rfl (fun (h14 : (0 : Int) = 0) => ?_) (fun (h14 : (0 : Int) ≠ 0) => absurd h14 (by omega))
    refine z_xP zt251 9 21 [some (.ref 19), some (.int p1), some (.int p2)] [.int (-1)] rfl rfl ?_
    refine z_xri zt251 10 rfl zzr251 ?_
    show z_ev (d + 4) 250 6 [some (.ref 19), some (.int p1), some (.int p2), none, none, none] [.int (-1)] M0 _
    refine z_xP zt250 2 8 [some (.ref 19), some (.int p1), some (.int p2), some (.int (-1)), none, none] [.int (-1)] rfl rfl ?_
    refine z_xZ zt250 3 rfl rfl (fun (h15 : 0 ≤ ((-1) : Int)) => absurd h15 (by omega)) (fun (h15 : ((-1) : Int) < 0) => ?_)
    refine z_xP zt250 4 12 [some (.ref 19), some (.int p1), some (.int p2), some (.int (-1)), none, none] [.int (-1)] rfl rfl ?_
    have qm1 : (((-1) : Int32)).toInt = (-1) := rfl
    have qm1 : (((-1) : Int32)).toInt = (-1) := rfl
    exact z_xri zt250 5 rfl zzr250 (kk (-1) M0 X (by omega) (by omega) (y_qA0 h8 (by omega) (by omega)))
  refine z_xP zt209 5 17 [some (.ref 19), some (.int p1)] [.int 1] rfl rfl ?_
  refine z_xrz zt209 7 rfl zzr209 (by decide) (by decide) ?_
  show z_ev (d + 3) 251 5 [some (.ref 19), some (.int p1), some (.int p2)] [.int 1] M0 _
  refine z_xZ zt251 2 rfl rfl (fun (h16 : (1 : Int) = 0) => absurd h16 (by omega)) (fun (h16 : (1 : Int) ≠ 0) => ?_)
  refine z_xP zt251 3 9 [some (.ref 19), some (.int p1), some (.int p2)] [.int p2] rfl rfl ?_
  have h17 := z_b32 p2
  refine z_xL zt251 4 rfl rfl (fun (y18 : Int64) (h19 : y18.toInt = p2.toInt) => ?_) (z_qI2L rfl)
  refine z_xP zt251 5 11 [some (.ref 19), some (.int p1), some (.int p2)] [.long 1, .long y18] rfl rfl ?_
  refine z_xl2 zt251 6 rfl zo251 zkl12_318 ?_
  refine z_xcS (vs := [.long y18, .long 1, .long 5]) (r := []) (L2 := [some (.long y18), none, some (.long 1), none, some (.long 5), none]) zt251 7 rfl zo251 zzcS12_116 (Or.inl rfl) (Nat.le_of_ble_eq_true rfl) rfl rfl (Nat.le_of_ble_eq_true rfl) zzm189 (Nat.le_of_ble_eq_true rfl) rfl ?_
  refine z_xP zt189 0 2 [some (.long y18), none, some (.long 1), none, some (.long 5), none] [.long 1, .long y18] rfl rfl ?_
  refine z_xI zt189 1 rfl rfl (fun (x20 : Int32) (h21 : (x20.toInt < 0 ∧ y18.toInt < 1) ∨ (x20.toInt = 0 ∧ y18.toInt = 1) ∨ (0 < x20.toInt ∧ 1 < y18.toInt)) => ?_) (z_qCmp rfl rfl)
  refine z_xZ zt189 2 rfl rfl (fun (h22 : x20.toInt < 0) => ?_) (fun (h22 : 0 ≤ x20.toInt) => ?_)
  · skip
    refine z_xP zt189 7 18 [some (.long y18), none, some (.long 1), none, some (.long 5), none] [.int 0] rfl rfl ?_
    refine z_xrz zt189 8 rfl zzr189 (by decide) (by decide) ?_
    show z_ev (d + 3) 251 17 [some (.ref 19), some (.int p1), some (.int p2)] [.int 0] M0 _
    refine z_xZ zt251 8 rfl rfl (fun (h23 : (0 : Int) ≠ 0) => absurd h23 (by omega)) (fun (h23 : (0 : Int) = 0) => ?_)
    refine z_xP zt251 9 21 [some (.ref 19), some (.int p1), some (.int p2)] [.int (-1)] rfl rfl ?_
    refine z_xri zt251 10 rfl zzr251 ?_
    show z_ev (d + 4) 250 6 [some (.ref 19), some (.int p1), some (.int p2), none, none, none] [.int (-1)] M0 _
    refine z_xP zt250 2 8 [some (.ref 19), some (.int p1), some (.int p2), some (.int (-1)), none, none] [.int (-1)] rfl rfl ?_
    refine z_xZ zt250 3 rfl rfl (fun (h24 : 0 ≤ ((-1) : Int)) => absurd h24 (by omega)) (fun (h24 : ((-1) : Int) < 0) => ?_)
    refine z_xP zt250 4 12 [some (.ref 19), some (.int p1), some (.int p2), some (.int (-1)), none, none] [.int (-1)] rfl rfl ?_
    have qm1 : (((-1) : Int32)).toInt = (-1) := rfl
    have qm1 : (((-1) : Int32)).toInt = (-1) := rfl
    exact z_xri zt250 5 rfl zzr250 (kk (-1) M0 X (by omega) (by omega) (y_qA1 h8 ⟨by omega, by omega⟩ (Or.inl ⟨by omega, by omega⟩)))
  refine z_xP zt189 3 9 [some (.long y18), none, some (.long 1), none, some (.long 5), none] [.long 5, .long y18] rfl rfl ?_
  refine z_xI zt189 4 rfl rfl (fun (x25 : Int32) (h26 : (x25.toInt < 0 ∧ y18.toInt < 5) ∨ (x25.toInt = 0 ∧ y18.toInt = 5) ∨ (0 < x25.toInt ∧ 5 < y18.toInt)) => ?_) (z_qCmp rfl rfl)
  refine z_xZ zt189 5 rfl rfl (fun (h27 : 0 < x25.toInt) => ?_) (fun (h27 : x25.toInt ≤ 0) => ?_)
  · skip
    refine z_xP zt189 7 18 [some (.long y18), none, some (.long 1), none, some (.long 5), none] [.int 0] rfl rfl ?_
    refine z_xrz zt189 8 rfl zzr189 (by decide) (by decide) ?_
    show z_ev (d + 3) 251 17 [some (.ref 19), some (.int p1), some (.int p2)] [.int 0] M0 _
    refine z_xZ zt251 8 rfl rfl (fun (h28 : (0 : Int) ≠ 0) => absurd h28 (by omega)) (fun (h28 : (0 : Int) = 0) => ?_)
    refine z_xP zt251 9 21 [some (.ref 19), some (.int p1), some (.int p2)] [.int (-1)] rfl rfl ?_
    refine z_xri zt251 10 rfl zzr251 ?_
    show z_ev (d + 4) 250 6 [some (.ref 19), some (.int p1), some (.int p2), none, none, none] [.int (-1)] M0 _
    refine z_xP zt250 2 8 [some (.ref 19), some (.int p1), some (.int p2), some (.int (-1)), none, none] [.int (-1)] rfl rfl ?_
    refine z_xZ zt250 3 rfl rfl (fun (h29 : 0 ≤ ((-1) : Int)) => absurd h29 (by omega)) (fun (h29 : ((-1) : Int) < 0) => ?_)
    refine z_xP zt250 4 12 [some (.ref 19), some (.int p1), some (.int p2), some (.int (-1)), none, none] [.int (-1)] rfl rfl ?_
    have qm1 : (((-1) : Int32)).toInt = (-1) := rfl
    have qm1 : (((-1) : Int32)).toInt = (-1) := rfl
    exact z_xri zt250 5 rfl zzr250 (kk (-1) M0 X (by omega) (by omega) (y_qA1 h8 ⟨by omega, by omega⟩ (Or.inl ⟨by omega, by omega⟩)))
  refine z_xP zt189 6 18 [some (.long y18), none, some (.long 1), none, some (.long 5), none] [.int 1] rfl rfl ?_
  refine z_xrz zt189 8 rfl zzr189 (by decide) (by decide) ?_
  show z_ev (d + 3) 251 17 [some (.ref 19), some (.int p1), some (.int p2)] [.int 1] M0 _
  refine z_xZ zt251 8 rfl rfl (fun (h30 : (1 : Int) ≠ 0) => ?_) (fun (h30 : (1 : Int) = 0) => absurd h30 (by omega))
  refine z_xP zt251 11 23 [some (.ref 19), some (.int p1), some (.int p2)] [.ref 19] rfl rfl ?_
  refine z_xgX (b := 31) zt251 12 rfl zo251 zzf12_43 X f19 (by decide) (by decide) rfl ?_
  refine z_xP zt251 13 27 [some (.ref 19), some (.int p1), some (.int p2)] [.int p1, .ref 31] rfl rfl ?_
  have f31 : T[31]? = some (.inr (31, 0, 8, 0, 1024)) := X.1.k rfl (by decide)
  refine z_xil zt251 14 rfl X f31 (by decide) (by omega) (by omega) (fun (x31 : Int32) h32 (h33 : 0 ≤ x31.toInt) (h34 : x31.toInt ≤ 1024) => ?_)
  refine z_xP zt251 15 30 [some (.ref 19), some (.int p1), some (.int p2)] [.int 12, .int x31] rfl rfl ?_
  refine z_xJ zt251 16 rfl rfl (fun (h35 : x31.toInt ≤ 12) => ?_) (fun (h35 : 12 < x31.toInt) => ?_)
  · skip
    refine z_xP zt251 18 39 [some (.ref 19), some (.int p1), some (.int p2)] [.int 0] rfl rfl ?_
    refine z_xri zt251 19 rfl zzr251 ?_
    show z_ev (d + 4) 250 6 [some (.ref 19), some (.int p1), some (.int p2), none, none, none] [.int 0] M0 _
    refine z_xP zt250 2 8 [some (.ref 19), some (.int p1), some (.int p2), some (.int 0), none, none] [.int 0] rfl rfl ?_
    refine z_xZ zt250 3 rfl rfl (fun (h36 : 0 ≤ (0 : Int)) => ?_) (fun (h36 : (0 : Int) < 0) => absurd h36 (by omega))
    refine z_xP zt250 6 19 [some (.ref 19), some (.int p1), some (.int p2), some (.int 0), some (.int 0), none] [.int p2, .int p1, .ref 19] rfl rfl ?_
    refine z_xcV (vs := [.ref 19, .int p1, .int p2]) (r := []) (L2 := [some (.ref 19), some (.int p1), some (.int p2), none]) zt250 7 rfl zo250 zzcV12_323 (Or.inl rfl) rfl X f19 rfl rfl rfl (Nat.le_of_ble_eq_true rfl) zzm252 (Nat.le_of_ble_eq_true rfl) rfl ?_
    have h37 := z_G4u (hR.go X (by decide)) h8 (by omega) (by omega) h32
    refine zC252 X.1 (by omega) (by omega) h32 ⟨by omega, by omega⟩ (fun M38 X39 h40 h41 h42 => ?_)
    have X43 := X.go X39 (z_sb (by decide))
    show z_ev (d + 4) 250 22 [some (.ref 19), some (.int p1), some (.int p2), some (.int 0), some (.int 0), none] [] M38 _
    have h45 := z_NBw (L2 := x31.toInt) h40 (by omega)
    refine z_xP zt250 8 25 [some (.ref 19), some (.int p1), some (.int p2), some (.int 0), some (.int 0), some (.int 1)] [] rfl rfl ?_
    have h46 := ((congrFun (X39.2.a f31 (by decide)) _).trans h32)
    have h47 := z_V5 h45 (by omega) (by omega) (by omega)
    have q0 : ((0 : Int32)).toInt = 0 := rfl
    have q1 : ((1 : Int32)).toInt = 1 := rfl
    exact (zUB250 hR kk 1485176) M38 (0) (0) (1) p1 p2 x31 X43 ⟨by omega, by omega⟩ ⟨by omega, by omega⟩ (by decide) (by decide) (by decide) h41 ⟨by omega, by omega⟩ h42 ⟨by omega, by omega⟩ h46 ⟨by omega, by omega⟩ (by omega) (by omega) (by omega) (by omega) (by omega) (by omega) (by omega) h45 (z_cti0 h40 (by omega) (by omega) (by omega) (by omega) (by omega)) ⟨_, h8, by omega, by omega⟩ h32 (by omega)
  refine z_xP zt251 17 39 [some (.ref 19), some (.int p1), some (.int p2)] [.int (-4)] rfl rfl ?_
  refine z_xri zt251 19 rfl zzr251 ?_
  show z_ev (d + 4) 250 6 [some (.ref 19), some (.int p1), some (.int p2), none, none, none] [.int (-4)] M0 _
  refine z_xP zt250 2 8 [some (.ref 19), some (.int p1), some (.int p2), some (.int (-4)), none, none] [.int (-4)] rfl rfl ?_
  refine z_xZ zt250 3 rfl rfl (fun (h48 : 0 ≤ ((-4) : Int)) => absurd h48 (by omega)) (fun (h48 : ((-4) : Int) < 0) => ?_)
  refine z_xP zt250 4 12 [some (.ref 19), some (.int p1), some (.int p2), some (.int (-4)), none, none] [.int (-4)] rfl rfl ?_
  have qm4 : (((-4) : Int32)).toInt = (-4) := rfl
  have qm4 : (((-4) : Int32)).toInt = (-4) := rfl
  exact z_xri zt250 5 rfl zzr250 (kk (-4) M0 X (by omega) (by omega) (y_qA1 h8 ⟨by omega, by omega⟩ (Or.inr ⟨by omega, Or.inl ⟨by omega, by rw [h32]; omega⟩⟩)))
theorem zT19 {x1 x2 : Int32} {M : zH} (hJ : z_J M) (hc : z_chO M) : z_ev 2046 102 0 (z_ent [.ref 4, .int x1, .int x2] (z_ml 102)) [] M fun v M1 => (∃ y, v = some (.int y)) ∧ z_ev 2046 250 0 (z_ent [.ref 19, .int x1, .int x2] (z_ml 250)) [] M1 fun v2 M2 => (∃ y, v2 = some (.int y)) ∧ v = v2 ∧ z_J M2 ∧ M2.length ≤ M.length + 1171 ∧ z_szr M2 ≤ z_szr M + 14000 := by
  obtain ⟨T, hA, hR⟩ := hJ
  refine z_J.two (r1 := zw102) (r2 := zw250) (C := fun v v2 => v = v2) hA hR rfl rfl ?_
  rw [zzm102]
  show z_ev 2046 102 0 [some (.ref 4), some (.int x1), some (.int x2), none] [] M _
  refine zUC102 (d := 2044) hA.1.1 hR.2 hA.1 fun y M1 X1 _ _ h1 => ?_
  have hB := z_kee hA X1 (by decide)
  refine ⟨⟨y, rfl⟩, X1, ?_⟩
  rw [zzm250]
  show z_ev 2046 250 0 [some (.ref 19), some (.int x1), some (.int x2), none, none, none] [] M1 _
  refine zUC250 (d := 2042) hB.1.1 hB.2.2.1 fun z M2 X2 _ _ h2 => ?_
  have k19 : T[19]? = some (.inl (12, 0, 0, 0, 0)) := hA.1.1.k rfl (by decide)
  have e1 : z_Ar M 1 = fun j => z_tc.getD j 0 := by
    unfold z_Ar
    rw [hc]
  have e := z_qAs hA.1.1 X1.2 rfl ((congrArg Int32.toInt (z_FvK (X1.2.1 19 12 0 0 0 0 13 k19 (by decide)))).trans (z_R5.v hR.1).2.1) h1 h2 (fun q t m pr en B hY q10 _ a b => by
    have e31 := hY.2.2.2.2.1
    have em : (z_Ar M1 31 x1.toNatClampNeg).toInt.toNat = m := by omega
    rw [em] at b
    rcases a with ⟨a1, a2⟩ | ⟨a1, a2⟩
    · rcases b with ⟨b1, _⟩ | ⟨b1, _⟩
      · rw [a1, b1]
      · exact absurd b1 a2
    · rcases b with ⟨_, b1⟩ | ⟨_, b1⟩
      · exact absurd a1 b1
      · rcases a2 with ⟨a2, a3⟩ | ⟨a2, a3, a4⟩
        · rcases b1 with ⟨b2, b3⟩ | ⟨b2, b3, b4⟩
          · rw [a2, b2]
          · exfalso; omega
        · rcases b1 with ⟨b2, b3⟩ | ⟨b2, b3, b4⟩
          · exfalso; omega
          · rw [a4, b4, e1]
            exact z_Tp m (by omega) x2.toInt.toNat (by omega))
  exact ⟨⟨z, rfl⟩, by rw [Int32.toInt_inj.mp e], X2⟩
