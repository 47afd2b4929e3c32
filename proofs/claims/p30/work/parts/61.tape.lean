/-! the class reads a tie: what its helpers say -/
/-- bit i of x is what f says of the set 64 B + i -/
def z_bv (x : Int64) (f : Nat → Nat) (B : Nat) : Prop := ∀ i, i < 64 → f (64 * B + i) ≤ 1 ∧ x.toBitVec.getLsbD i = decide (f (64 * B + i) = 1)
/-- the tape that is read: its bytes, its length, the questions' numbers, the block -/
def z_TP (M : zH) (bb : Nat → Int) (nn : Nat) (nu : Int → Int) (BB : Nat) : Prop := (∀ k, (z_Ar M 6 k).toInt = bb k) ∧ (z_Fv M 5 1).toInt = (nn : Int) ∧ (nn ≤ 160 ∧ ∀ k, k < nn → 0 ≤ bb k ∧ bb k ≤ 255) ∧ (∀ k : Nat, k < 10 → (z_Ar M 7 k).toInt = nu (97 + (k : Int))) ∧ (∀ c, c < 97 ∨ 107 ≤ c → nu c < 0) ∧ (z_Fv M 5 10).toInt = (BB : Int) ∧ ∀ q, q < 6 → z_Lg M 2 q = z_ty2.getD q 0
def z_ok (M : zH) : Prop := (z_Fv M 5 3).toInt < 0
def z_atN (M : zH) : Nat := (z_Fv M 5 2).toInt.toNat
def z_PC (nn : Nat) (M0 M1 : zH) (R : zPR) (W : (Nat → Nat) → Prop) : Prop := (¬ z_ok M0 → ¬ z_ok M1) ∧ (z_ok M0 → z_atN M0 ≤ nn → (R = none ∧ ¬ z_ok M1) ∨ ∃ q f, R = some (q, f) ∧ z_ok M1 ∧ z_atN M1 = q ∧ W f)
def z_PS (bb : Nat → Int) (nn : Nat) (M0 M1 : zH) (c x : Int) : Prop := (x = 1 ∧ z_ok M0 ∧ z_ok M1 ∧ z_atN M0 < nn ∧ bb (z_atN M0) = c ∧ z_atN M1 = z_atN M0 + 1) ∨ (x = 0 ∧ M1 = M0 ∧ ¬ (z_ok M0 ∧ z_atN M0 < nn ∧ bb (z_atN M0) = c))
def z_EX (bb : Nat → Int) (nn : Nat) (M0 M1 : zH) (c : Int) : Prop := (z_ok M0 ∧ z_ok M1 ∧ z_atN M0 < nn ∧ bb (z_atN M0) = c ∧ z_atN M1 = z_atN M0 + 1) ∨ (¬ z_ok M1 ∧ ¬ (z_ok M0 ∧ z_atN M0 < nn ∧ bb (z_atN M0) = c))
def z_QH (bb : Nat → Int) (nn : Nat) (nu : Int → Int) (M : zH) (x : Int) : Prop := (0 ≤ x ∧ z_ok M ∧ z_atN M < nn ∧ nu (bb (z_atN M)) = x) ∨ (x < 0 ∧ ¬ (z_ok M ∧ z_atN M < nn ∧ 0 ≤ nu (bb (z_atN M))))
def z_fr9 (k : Nat) (M0 M1 : zH) : Prop := ∀ i, i < k → z_Lg M1 9 i = z_Lg M0 9 i
theorem z_TP.go {M M1 : zH} {T : List zK} {rs : List Nat} {bb : Nat → Int} {nn : Nat} {nu : Int → Int} {BB : Nat} (h : z_TP M bb nn nu BB) {M' : zH} (hW : z_W M' T) (hX : z_X T rs M M1) (hr : z_dj [2, 6, 7, 1101, 1110] rs = true) : z_TP M1 bb nn nu BB := by
  obtain ⟨h1, h2, h3, h4, h5, h6, h7⟩ := h
  have nr := z_djn hr
  have k5 : T[5]? = some (.inl (1, 0, 0, 0, 0)) := hW.k rfl (by decide)
  have k6 := hW.k (k := 6) (κ := z_af 6 160) rfl (by decide)
  have k7 := hW.k (k := 7) (κ := z_ai 7 10 (-1) 9) rfl (by decide)
  have k2 := hW.k (k := 2) (κ := z_al 2 6) rfl (by decide)
  have e1 : z_Fv M1 5 1 = z_Fv M 5 1 := by unfold z_Fv; rw [hX.2.1 5 1 0 0 0 0 1 k5 (nr _ (by decide))]
  have e2 : z_Fv M1 5 10 = z_Fv M 5 10 := by unfold z_Fv; rw [hX.2.1 5 1 0 0 0 0 10 k5 (nr _ (by decide))]
  refine ⟨fun k => ?_, ?_, h3, fun k hk => ?_, h5, ?_, fun q hq => ?_⟩
  · rw [hX.2.a k6 (nr _ (by decide))]; exact h1 k
  · rw [e1]; exact h2
  · rw [hX.2.a k7 (nr _ (by decide))]; exact h4 k hk
  · rw [e2]; exact h6
  · rw [hX.2.lg k2 (nr _ (by decide))]; exact h7 q hq
theorem z_atF {M : zH} {x : Int32} (h : z_F M 5 2 = some (.int x)) : z_atN M = x.toInt.toNat := by unfold z_atN; rw [z_Fv.of h]
theorem z_okY {M : zH} {x : Int32} (h : z_F M 5 3 = some (.int x)) (h0 : x.toInt < 0) : z_ok M := by unfold z_ok; rw [z_Fv.of h]; exact h0
theorem z_okN {M : zH} {x : Int32} (h : z_F M 5 3 = some (.int x)) (h0 : 0 ≤ x.toInt) : ¬ z_ok M := by unfold z_ok; rw [z_Fv.of h]; omega
theorem z_TP.byte {M : zH} {bb : Nat → Int} {nn : Nat} {nu : Int → Int} {BB : Nat} (h : z_TP M bb nn nu BB) {x y : Int32} (ha : z_F M 5 2 = some (.int x)) (hb : z_Ar M 6 x.toNatClampNeg = y) : bb (z_atN M) = y.toInt := by
  rw [z_atF ha, ← hb]
  exact (h.1 _).symm
theorem z_TP.len {M : zH} {bb : Nat → Int} {nn : Nat} {nu : Int → Int} {BB : Nat} (h : z_TP M bb nn nu BB) {x : Int32} (hl : z_F M 5 1 = some (.int x)) : x.toInt = (nn : Int) := by
  have e := h.2.1
  rw [z_Fv.of hl] at e
  exact e
theorem z_TP.rng {M : zH} {bb : Nat → Int} {nn : Nat} {nu : Int → Int} {BB : Nat} (h : z_TP M bb nn nu BB) {x x3 y : Int32} (hl : z_F M 5 1 = some (.int x3)) (hb : z_Ar M 6 x.toNatClampNeg = y) (h0 : 0 ≤ x.toInt ∧ x.toInt < x3.toInt) : 0 ≤ y.toInt ∧ y.toInt ≤ 255 := by
  have e := h.len hl
  have e1 := h.1 x.toNatClampNeg
  have e2 := h.2.2.1.2 x.toNatClampNeg (by show x.toInt.toNat < nn; omega)
  rw [hb] at e1
  rw [e1]
  exact e2
theorem z_FvK {M M1 : zH} {a k : Nat} (h : z_F M1 a k = z_F M a k) : z_Fv M1 a k = z_Fv M a k := by unfold z_Fv; rw [h]
theorem z_okK {M M1 : zH} (h : z_F M1 5 3 = z_F M 5 3) : z_ok M1 ↔ z_ok M := by unfold z_ok; rw [z_FvK h]
section ZT1
variable {M M1 : zH} {bb : Nat → Int} {nn : Nat} {nu : Int → Int} {BB : Nat} {c : Int} {x1 x2 x3 x4 x5 : Int32}
theorem z_PSa (h : z_F M 5 3 = some (.int x1)) (h0 : 0 ≤ x1.toInt) : z_PS bb nn M M c 0 := Or.inr ⟨rfl, rfl, fun ⟨a, _⟩ => z_okN h h0 a⟩
theorem z_PSb (hT : z_TP M bb nn nu BB) (ha : z_F M 5 2 = some (.int x2)) (hl : z_F M 5 1 = some (.int x3)) (h : x3.toInt ≤ x2.toInt) : z_PS bb nn M M c 0 := Or.inr ⟨rfl, rfl, fun ⟨_, a, _⟩ => by
  have e := hT.len hl
  rw [z_atF ha] at a
  omega⟩
theorem z_PSc (hT : z_TP M bb nn nu BB) (ha : z_F M 5 2 = some (.int x2)) (hb : z_Ar M 6 x2.toNatClampNeg = x4) (h : x4.toInt ≠ c) : z_PS bb nn M M c 0 := Or.inr ⟨rfl, rfl, fun ⟨_, _, a⟩ => by
  rw [hT.byte ha hb] at a
  exact h a⟩
theorem z_PSd (hT : z_TP M bb nn nu BB) (hf : z_F M 5 3 = some (.int x1)) (h0 : x1.toInt < 0) (ha : z_F M 5 2 = some (.int x2)) (hl : z_F M 5 1 = some (.int x3)) (h1 : x2.toInt < x3.toInt) (hb : z_Ar M 6 x2.toNatClampNeg = x4) (h : x4.toInt = c) (hn : z_F M1 5 2 = some (.int x5)) (h5 : x5.toInt = x2.toInt + 1 ∧ 0 ≤ x2.toInt) (hf1 : z_F M1 5 3 = some (.int x1)) : z_PS bb nn M M1 c 1 := by
  have e := hT.len hl
  refine Or.inl ⟨rfl, z_okY hf h0, z_okY hf1 h0, ?_, (hT.byte ha hb).trans h, ?_⟩
  · rw [z_atF ha]; omega
  · rw [z_atF ha, z_atF hn]; omega
theorem z_EXa (h : z_F M 5 3 = some (.int x1)) (h0 : 0 ≤ x1.toInt) : z_EX bb nn M M c := Or.inr ⟨z_okN h h0, fun ⟨a, _⟩ => z_okN h h0 a⟩
theorem z_EXf (h : z_F M1 5 3 = some (.int x5)) (h0 : 0 ≤ x5.toInt) (hp : z_PS bb nn M M c 0) : z_EX bb nn M M1 c := Or.inr ⟨z_okN h h0, hp.elim (fun a => absurd a.1 (by decide)) (fun a => a.2.2)⟩
theorem z_EXd (hp : z_PS bb nn M M1 c 1) : z_EX bb nn M M1 c := Or.inl (hp.elim (fun a => a.2) (fun a => absurd a.1 (by decide)))
theorem z_QHa (h : z_F M 5 3 = some (.int x1)) (h0 : 0 ≤ x1.toInt) : z_QH bb nn nu M (-1) := Or.inr ⟨by decide, fun ⟨a, _⟩ => z_okN h h0 a⟩
theorem z_QHb (hT : z_TP M bb nn nu BB) (ha : z_F M 5 2 = some (.int x2)) (hl : z_F M 5 1 = some (.int x3)) (h : x3.toInt ≤ x2.toInt) : z_QH bb nn nu M (-1) := Or.inr ⟨by decide, fun ⟨_, a, _⟩ => by
  have e := hT.len hl
  rw [z_atF ha] at a
  omega⟩
theorem z_QHc (hT : z_TP M bb nn nu BB) (ha : z_F M 5 2 = some (.int x2)) (hb : z_Ar M 6 x2.toNatClampNeg = x4) (h : x4.toInt < 97 ∨ 107 ≤ x4.toInt) : z_QH bb nn nu M (-1) := Or.inr ⟨by decide, fun ⟨_, _, a⟩ => by
  rw [hT.byte ha hb] at a
  have := hT.2.2.2.2.1 _ h
  omega⟩
theorem z_QHd (hT : z_TP M bb nn nu BB) (hf : z_F M 5 3 = some (.int x1)) (h0 : x1.toInt < 0) (ha : z_F M 5 2 = some (.int x2)) (hl : z_F M 5 1 = some (.int x3)) (h1 : x2.toInt < x3.toInt ∧ 0 ≤ x2.toInt) (hb : z_Ar M 6 x2.toNatClampNeg = x4) (h : x5.toInt = x4.toInt - 97 ∧ 0 ≤ x5.toInt ∧ x5.toInt < 10) {x6 : Int32} (hn : z_Ar M 7 x5.toNatClampNeg = x6) : z_QH bb nn nu M x6.toInt := by
  have e := hT.len hl
  have e2 := hT.2.2.2.1 x5.toInt.toNat (by omega)
  have e3 : (97 : Int) + ((x5.toInt.toNat : Nat) : Int) = x4.toInt := by omega
  have hn : z_Ar M 7 x5.toInt.toNat = x6 := hn
  rw [hn, e3] at e2
  have e4 : z_atN M < nn := by rw [z_atF ha]; omega
  have e5 : nu (bb (z_atN M)) = x6.toInt := by rw [hT.byte ha hb]; exact e2.symm
  by_cases h6 : 0 ≤ x6.toInt
  · exact Or.inl ⟨h6, z_okY hf h0, e4, e5⟩
  · exact Or.inr ⟨by omega, fun ⟨_, _, a⟩ => by rw [e5] at a; exact h6 a⟩
end ZT1
/-- the sets of a block that answer a question yes -/
theorem z_ybit : ∀ q, q < 6 → ∀ i, i < 64 → (z_ty2.getD q 0).toBitVec.getLsbD i = decide (i / 2 ^ q % 2 = 1) := by decide +kernel
theorem z_m2 (a : Nat) : a % 2 ≤ 1 := by omega
theorem z_ybv {q : Nat} (hq : q < 6) (B : Nat) : z_bv (z_ty2.getD q 0) (z_bit q) B := fun i hi => by
  refine ⟨z_m2 _, ?_⟩
  rw [z_ybit q hq i hi]
  have e : z_bit q (64 * B + i) = i / 2 ^ q % 2 := by
    show (64 * B + i) / 2 ^ q % 2 = i / 2 ^ q % 2
    match q, hq with
    | 0, _ => show (64 * B + i) / 1 % 2 = i / 1 % 2; omega
    | 1, _ => show (64 * B + i) / 2 % 2 = i / 2 % 2; omega
    | 2, _ => show (64 * B + i) / 4 % 2 = i / 4 % 2; omega
    | 3, _ => show (64 * B + i) / 8 % 2 = i / 8 % 2; omega
    | 4, _ => show (64 * B + i) / 16 % 2 = i / 16 % 2; omega
    | 5, _ => show (64 * B + i) / 32 % 2 = i / 32 % 2; omega
  rw [e]
theorem z_bbit {k : Nat} (hk : k < 4) (B i : Nat) (hi : i < 64) : z_bit (6 + k) (64 * B + i) = B / 2 ^ k % 2 := by
  show (64 * B + i) / 2 ^ (6 + k) % 2 = B / 2 ^ k % 2
  match k, hk with
  | 0, _ => show (64 * B + i) / 64 % 2 = B / 1 % 2; omega
  | 1, _ => show (64 * B + i) / 128 % 2 = B / 2 % 2; omega
  | 2, _ => show (64 * B + i) / 256 % 2 = B / 4 % 2; omega
  | 3, _ => show (64 * B + i) / 512 % 2 = B / 8 % 2; omega
theorem z_allbit : ∀ i, i < 64 → ((-1 : Int64)).toBitVec.getLsbD i = true := by decide +kernel
theorem z_nobit : ∀ i, i < 64 → ((0 : Int64)).toBitVec.getLsbD i = false := by decide +kernel
theorem z_bvY {k B : Nat} (hk : k < 4) (h : B / 2 ^ k % 2 = 1) : z_bv (-1) (z_bit (6 + k)) B := fun i hi => by
  rw [z_bbit hk B i hi, h, z_allbit i hi]
  exact ⟨Nat.le_refl _, rfl⟩
theorem z_bvN {k B : Nat} (hk : k < 4) (h : B / 2 ^ k % 2 = 0) : z_bv 0 (z_bit (6 + k)) B := fun i hi => by
  rw [z_bbit hk B i hi, h, z_nobit i hi]
  exact ⟨by decide, rfl⟩
/-- a number's bit, as the program asks for it -/
theorem z_sbit {x k r w : Int32} (hr : r = x >>> (k &&& 31)) (hw : w = r &&& 1) (h0 : 0 ≤ x.toInt) (k0 : 0 ≤ k.toInt ∧ k.toInt < 31) : w.toInt = ((x.toInt.toNat / 2 ^ k.toInt.toNat % 2 : Nat) : Int) := by
  have hk := z_nn k0.1
  have e1 : r.toInt = x.toInt / ((2 ^ k.toInt.toNat : Nat) : Int) := by
    rw [hr]
    exact z_pShr k.toInt.toNat rfl (by omega) rfl
  have e2 : 0 ≤ r.toInt := by
    rw [e1]
    exact Int.ediv_nonneg h0 (Int.natCast_nonneg _)
  have hrn := z_nn e2
  have e3 : w.toBitVec.toNat = r.toBitVec.toNat % 2 := by
    rw [hw, Int32.toBitVec_and, BitVec.toNat_and, show (1 : Int32).toBitVec.toNat = 1 from rfl, Nat.and_one_is_mod]
  have e4 : 0 ≤ w.toInt := by
    rw [hw]
    exact (z_pAnd (x := r) (y := 1) (q := 1) rfl (by decide)).1
  have hwn := z_nn e4
  have e5 : r.toBitVec.toNat = x.toInt.toNat / 2 ^ k.toInt.toNat := by
    have e6 : (r.toBitVec.toNat : Int) = x.toInt / ((2 ^ k.toInt.toNat : Nat) : Int) := by rw [← hrn.1, e1]
    have e7 : x.toInt = ((x.toInt.toNat : Nat) : Int) := by omega
    rw [e7] at e6
    exact_mod_cast e6
  rw [hwn.1, e3, e5]
/-- operations on the sets of a block -/
theorem z_bvNot {x y : Int64} {f : Nat → Nat} {B : Nat} (h : z_bv x f B) (e : y = x ^^^ (-1)) : z_bv y (fun s => 1 - f s) B := fun i hi => by
  obtain ⟨h1, h2⟩ := h i hi
  rw [e, Int64.toBitVec_xor, BitVec.getLsbD_xor, h2, z_allbit i hi]
  show 1 - f (64 * B + i) ≤ 1 ∧ _ = decide (1 - f (64 * B + i) = 1)
  clear h2
  generalize f (64 * B + i) = a at h1 ⊢
  have c1 : a = 0 ∨ a = 1 := by omega
  rcases c1 with c1 | c1 <;> subst c1 <;> exact ⟨by decide, by decide⟩
theorem z_bvAnd {x y z : Int64} {f g : Nat → Nat} {B : Nat} (hf : z_bv x f B) (hg : z_bv y g B) (e : z = x &&& y) : z_bv z (fun s => f s * g s) B := fun i hi => by
  obtain ⟨h1, h2⟩ := hf i hi
  obtain ⟨h3, h4⟩ := hg i hi
  rw [e, Int64.toBitVec_and, BitVec.getLsbD_and, h2, h4]
  show f (64 * B + i) * g (64 * B + i) ≤ 1 ∧ _ = decide (f (64 * B + i) * g (64 * B + i) = 1)
  clear h2 h4
  generalize f (64 * B + i) = a at h1 ⊢
  generalize g (64 * B + i) = b at h3 ⊢
  have c1 : a = 0 ∨ a = 1 := by omega
  have c2 : b = 0 ∨ b = 1 := by omega
  rcases c1 with c1 | c1 <;> rcases c2 with c2 | c2 <;> subst c1 <;> subst c2 <;> exact ⟨by decide, by decide⟩
theorem z_bvOr {x y z : Int64} {f g : Nat → Nat} {B : Nat} (hf : z_bv x f B) (hg : z_bv y g B) (e : z = x ||| y) : z_bv z (fun s => max (f s) (g s)) B := fun i hi => by
  obtain ⟨h1, h2⟩ := hf i hi
  obtain ⟨h3, h4⟩ := hg i hi
  rw [e, Int64.toBitVec_or, BitVec.getLsbD_or, h2, h4]
  show max (f (64 * B + i)) (g (64 * B + i)) ≤ 1 ∧ _ = decide (max (f (64 * B + i)) (g (64 * B + i)) = 1)
  clear h2 h4
  generalize f (64 * B + i) = a at h1 ⊢
  generalize g (64 * B + i) = b at h3 ⊢
  have c1 : a = 0 ∨ a = 1 := by omega
  have c2 : b = 0 ∨ b = 1 := by omega
  rcases c1 with c1 | c1 <;> rcases c2 with c2 | c2 <;> subst c1 <;> subst c2 <;> exact ⟨by decide, by decide⟩
theorem z_eqb : ∀ a b : Nat, a ≤ 1 → b ≤ 1 → (if a = b then 1 else 0 : Nat) ≤ 1 ∧ ((decide (a = 1) ^^ decide (b = 1)) ^^ true) = decide ((if a = b then 1 else 0 : Nat) = 1) := by
  intro a b h1 h2
  have c1 : a = 0 ∨ a = 1 := by omega
  have c2 : b = 0 ∨ b = 1 := by omega
  rcases c1 with c1 | c1 <;> rcases c2 with c2 | c2 <;> subst c1 <;> subst c2 <;> exact ⟨by decide, by decide⟩
theorem z_bvEq {x y z w : Int64} {f g : Nat → Nat} {B : Nat} (hf : z_bv x f B) (hg : z_bv y g B) (e : z = x ^^^ y) (e2 : w = z ^^^ (-1)) : z_bv w (fun s => if f s = g s then 1 else 0) B := fun i hi => by
  obtain ⟨h1, h2⟩ := hf i hi
  obtain ⟨h3, h4⟩ := hg i hi
  rw [e2, e, Int64.toBitVec_xor, Int64.toBitVec_xor, BitVec.getLsbD_xor, BitVec.getLsbD_xor, h2, h4, z_allbit i hi]
  exact z_eqb _ _ h1 h3
theorem z_bvZ (B : Nat) : z_bv 0 (fun _ => 0) B := fun i hi => ⟨Nat.zero_le _, by rw [z_nobit i hi]; rfl⟩
theorem z_bvO (B : Nat) : z_bv (-1) (fun _ => 1) B := fun i hi => ⟨Nat.le_refl 1, by rw [z_allbit i hi]; rfl⟩
theorem z_yesA {M : zH} {bb : Nat → Int} {nn : Nat} {nu : Int → Int} {BB : Nat} (hT : z_TP M bb nn nu BB) {x : Int32} {y : Int64} (h : z_Lg M 2 x.toNatClampNeg = y) (hx : 0 ≤ x.toInt ∧ x.toInt < 6) : z_bv y (z_bit x.toInt.toNat) BB := by
  have h : z_Lg M 2 x.toInt.toNat = y := h
  rw [← h, hT.2.2.2.2.2.2 x.toInt.toNat (by omega)]
  exact z_ybv (by omega) BB
theorem z_yesB {M : zH} {bb : Nat → Int} {nn : Nat} {nu : Int → Int} {BB : Nat} (hT : z_TP M bb nn nu BB) {bl k r w p : Int32} (hb : z_F M 5 10 = some (.int bl)) (hr : r = bl >>> (k &&& 31)) (hw : w = r &&& 1) (hk : k.toInt = p.toInt - 6 ∧ 0 ≤ k.toInt ∧ k.toInt < 4) : w.toInt = ((BB / 2 ^ k.toInt.toNat % 2 : Nat) : Int) ∧ p.toInt.toNat = 6 + k.toInt.toNat := by
  have e := hT.2.2.2.2.2.1
  rw [z_Fv.of hb] at e
  have e1 := z_sbit hr hw (by omega) ⟨hk.2.1, by omega⟩
  have e2 : bl.toInt.toNat = BB := by omega
  rw [e2] at e1
  exact ⟨e1, by omega⟩
theorem z_yesBY {M : zH} {bb : Nat → Int} {nn : Nat} {nu : Int → Int} {BB : Nat} (hT : z_TP M bb nn nu BB) {bl k r w p : Int32} (hb : z_F M 5 10 = some (.int bl)) (hr : r = bl >>> (k &&& 31)) (hw : w = r &&& 1) (hk : k.toInt = p.toInt - 6 ∧ 0 ≤ k.toInt ∧ k.toInt < 4) (h1 : w.toInt ≠ 0) : z_bv (-1) (z_bit p.toInt.toNat) BB := by
  obtain ⟨e1, e2⟩ := z_yesB hT hb hr hw hk
  rw [e2]
  exact z_bvY (by omega) (by omega)
theorem z_yesBN {M : zH} {bb : Nat → Int} {nn : Nat} {nu : Int → Int} {BB : Nat} (hT : z_TP M bb nn nu BB) {bl k r w p : Int32} (hb : z_F M 5 10 = some (.int bl)) (hr : r = bl >>> (k &&& 31)) (hw : w = r &&& 1) (hk : k.toInt = p.toInt - 6 ∧ 0 ≤ k.toInt ∧ k.toInt < 4) (h1 : w.toInt = 0) : z_bv 0 (z_bit p.toInt.toNat) BB := by
  obtain ⟨e1, e2⟩ := z_yesB hT hb hr hw hk
  rw [e2]
  exact z_bvN (by omega) (by omega)
