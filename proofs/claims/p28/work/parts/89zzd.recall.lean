/-! twisted: what the class works out, told -/
/-- CHOOSE as it was made -/
def z_cA (M : zH) : Prop := z_Ar M 1 = fun j => z_tc.getD j 0
theorem z_chO.cA {M : zH} (h : z_chO M) : z_cA M := by
  unfold z_cA z_Ar
  rw [h]
theorem z_cA.ke {T : List zK} {M M1 : zH} {rs : List Nat} (h : z_cA M) (hW : z_W M T) (ke : z_ke T rs M M1) (hr : (!rs.elem 1) = true) : z_cA M1 := (ke.a (hW.k (k := 1) (κ := z_ai 1 102 0 4368) rfl (by decide)) (fun hm => by rw [List.elem_iff.mpr hm] at hr; cases hr)).trans h
/-- a word is a way's outcome at a bench of these numbers -/
def z_oW (c : Nat) (B : Nat → Nat) (q pr en sh ch n : Nat) (S : Nat → Int32) (A : Int32) (F : Nat → Nat) (x : Int) : Prop := (0 ≤ x ∧ x < 1048576) ∧ z_oJ c B q pr en sh n ch z_w1 (z_yS S F) (z_nS S A F) (x.toNat % 1024) (x.toNat / 1024)
/-- what is remembered is so -/
def z_RM (M : zH) (a3 c : Nat) (B : Nat → Nat) (q pr en sh ch m n : Nat) (S : Nat → Int32) (A : Int32) : Prop := ∀ p : Nat, p < 16380 → (z_Ar M a3 p).toInt < 0 ∨ ∃ F H : Nat → Nat, (∀ j, j < n → F j < m) ∧ z_sr H n ∧ z_eqm F H n ∧ z_plc c m n ch (z_Rk H n) F = p ∧ z_oW c B q pr en sh ch n S A F (z_Ar M a3 p).toInt
theorem z_RM.eq {M M1 : zH} {a3 c : Nat} {B : Nat → Nat} {q pr en sh ch m n : Nat} {S : Nat → Int32} {A : Int32} (h : z_RM M a3 c B q pr en sh ch m n S A) (e : z_Ar M1 a3 = z_Ar M a3) : z_RM M1 a3 c B q pr en sh ch m n S A := by
  unfold z_RM
  rw [e]
  exact h
