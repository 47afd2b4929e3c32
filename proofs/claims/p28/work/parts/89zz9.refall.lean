/-! over all benches, the reference -/
section ZRALL
variable {T : List zK} {M M1 : zH} {a q t m pr en n : Nat} {B F F2 : Nat → Nat} {S : Nat → Int32} {A : Int32} {rs : List Nat}
/-- an agenda of the reference, as all benches ask it -/
def y_tnb (M : zH) (a q t m pr en : Nat) (B : Nat → Nat) (S : Nat → Int32) (A : Int32) : Prop := (1 ≤ q ∧ q ≤ 10) ∧ y_AGO M a q t m pr en B ∧ (m = z_lc B (2 ^ q) ∧ 1 ≤ m) ∧ (∀ k, k < m → z_Ar M 30 (1024 * a + k) = S k) ∧ A.toInt = ((2 ^ q : Nat) : Int) - 1
/-- what sits there can decide -/
theorem y_TN.rp (hT : y_TN T M a q t m pr en n B F S A) (hS : y_ST M n F S A) (hm : m = z_lc B (2 ^ q) ∧ 1 ≤ m) {av : Int32} (hav : z_F M 19 29 = some (.int av)) : ∃ sv : Int32, z_RP T M a q m pr en B av sv ∧ sv.toInt.toNat = n := by
  obtain ⟨hW, ⟨av2, h1, ea, a8⟩, ⟨sv, h3, esv, n5⟩, hG, hSS, hA, q10, hnu⟩ := id hT
  have eav := z_ive hav h1
  rw [← eav] at ea h1
  have jok : ∀ j, j < n → z_jok q (z_w1 j) (z_yS S F j) (z_nS S A F j) := fun j hj => by
    have hF := (hnu j hj).2
    obtain ⟨s, s1, s2, s3⟩ := z_lc_ex (B := B) (2 ^ q) (F j) (by omega)
    have e : (z_Ar M 30 (1024 * a + z_lc B s)).toInt = (s : Int) := hG.2.2.2.2.2.2 s s1 s2
    rw [s3, hSS _ hF] at e
    exact ⟨z_ansNo (Y := S (F j)) hA q10.2 ⟨by omega, by rw [e]; exact Int.ofNat_lt.mpr s1⟩, show 1 ≤ (1 : Int32).toInt ∧ (1 : Int32).toInt ≤ 9 by decide⟩
  have ok := z_jokJ q10.2 jok
  refine ⟨sv, ⟨hW, ⟨h1, ea, a8⟩, ⟨h3, by omega, by omega⟩, q10, ⟨t, hG⟩, hm, fun j hj => ?_, fun j hj => ?_⟩, by omega⟩
  · obtain ⟨_, u2, u3⟩ := hS j (by omega)
    rw [u2, u3]
    exact (jok j (by omega)).1
  · obtain ⟨u1, u2, u3⟩ := hS j (by omega)
    rw [u1, u2, u3]
    exact ok j (by omega)
/-- whether it can stand -/
theorem y_TN.cs (hT : y_TN T M a q t m pr en n B F S A) (hm : m = z_lc B (2 ^ q) ∧ 1 ≤ m) {av yv nv : Int32} {x : Int} (hav : z_F M 19 29 = some (.int av)) (hy : 0 ≤ yv.toInt ∧ yv.toInt < 1024) (hn : 0 ≤ nv.toInt ∧ nv.toInt < 1024) (h : y_cb (fun j => z_Ar M 30 (1024 * av.toNatClampNeg + j)) yv nv (z_Ar M 31 av.toNatClampNeg).toInt.toNat x) : (x = 1 ∧ z_cs B q yv.toInt.toNat nv.toInt.toNat) ∨ (x = 0 ∧ ¬ z_cs B q yv.toInt.toNat nv.toInt.toNat) := by
  obtain ⟨hW, ⟨av2, h1, ea, a8⟩, _, hG, hSS, hA, q10, hnu⟩ := id hT
  have eav := z_ive hav h1
  rw [← eav] at ea
  rw [z_tnA ea] at h
  have e31 := hG.2.2.2.2.1
  have e := y_csE (y := yv) (n := nv) hG.2.2.2.2.2.2 hm.1 q10.2 hy hn
  rw [← e, show m = (z_Ar M 31 a).toInt.toNat by omega]
  exact h
/-- a way of the reference -/
def y_wy (M : zH) (p : Int32) (kd sh ch : Nat) : Prop := (z_Ar M 36 p.toNatClampNeg).toInt = (kd : Int) ∧ (z_Ar M 37 p.toNatClampNeg).toInt = (sh : Int) ∧ (z_Ar M 38 p.toNatClampNeg).toInt = (ch : Int)
theorem y_wy.ke {p : Int32} {kd sh ch : Nat} (h : y_wy M p kd sh ch) (hW : z_W M T) (ke : z_ke T rs M M1) (hr : (([36, 37, 38] : List Nat).all fun x => !rs.elem x) = true) : y_wy M1 p kd sh ch := by
  have n0 := z_nin hr
  unfold y_wy
  rw [ke.a (hW.k (k := 36) (κ := z_ai 36 20 0 7) rfl (by decide)) (n0 _ rfl), ke.a (hW.k (k := 37) (κ := z_ai 37 20 0 9) rfl (by decide)) (n0 _ rfl), ke.a (hW.k (k := 38) (κ := z_ai 38 20 0 8) rfl (by decide)) (n0 _ rfl)]
  exact h
theorem y_wyX (hW : z_W M T) {p : Int32} (h : p.toNatClampNeg < 20) : ∃ kd sh ch : Nat, y_wy M p kd sh ch := by
  obtain ⟨kd, e1⟩ := z_aiN hW (r := 36) (n := 20) (hi := 7) 36 rfl (by decide) (by decide) p.toNatClampNeg h
  obtain ⟨sh, e2⟩ := z_aiN hW (r := 37) (n := 20) (hi := 9) 37 rfl (by decide) (by decide) p.toNatClampNeg h
  obtain ⟨ch, e3⟩ := z_aiN hW (r := 38) (n := 20) (hi := 8) 38 rfl (by decide) (by decide) p.toNatClampNeg h
  exact ⟨kd, sh, ch, e1, e2, e3⟩
end ZRALL
