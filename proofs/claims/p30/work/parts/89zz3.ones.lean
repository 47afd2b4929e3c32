/-! over all benches, the class -/
section ZALLB
variable {T : List zK} {M M1 : zH} {b N q t m pr en sa n : Nat} {B F G : Nat → Nat} {S : Nat → Int32} {A : Int32} {rs : List Nat}
def z_tsr : List Nat := z_agf ++ z_bkf ++ [1300, 1304, 201, 202, 203, 205, 206, 207, 210]
theorem z_TSG.ke (h : z_TSG T M b N q t m pr en sa n B F G S A) (X : z_X T rs M M1) (hr : (z_tsr.all fun x => !rs.elem x) = true) : z_TSG T M1 b N q t m pr en sa n B F G S A := by
  obtain ⟨⟨hW, hbk⟩, kb, ⟨hN0, hag⟩, ⟨hsa, ksa, hSS⟩, hA, ⟨n5, jv, hj4, ejv⟩, hnu, har, hln, hlz⟩ := h
  have n0 := z_nin hr
  have sub : ∀ l : List Nat, (l.all fun x => z_tsr.elem x) = true → (l.all fun x => !rs.elem x) = true := fun l hl => List.all_eq_true.mpr fun x hx => List.all_eq_true.mp hr x (List.elem_iff.mp (List.all_eq_true.mp hl x hx))
  refine ⟨⟨X.1, hbk.ke X.2 (sub _ rfl)⟩, kb, ⟨X.2.f kb (n0 _ rfl) hN0, hag.ke (fun _ _ h => h) X.2 (sub _ rfl)⟩, ⟨X.2.f hag.1 (n0 _ rfl) hsa, ksa, fun k hk => (congrFun (X.2.a ksa (n0 _ rfl)) k).trans (hSS k hk)⟩, hA, ⟨n5, jv, X.2.f kb (n0 _ rfl) hj4, ejv⟩, fun j hj => ?_, fun j hj => ?_, hln.ke hbk hW kb X.2 (sub _ rfl), hlz.ke hbk hW kb X.2 (sub _ rfl)⟩
  · rw [X.2.a (hbk.k8 hW kb) (n0 _ rfl)]
    exact hnu j hj
  · rw [X.2.a (hbk.k1 hW kb) (n0 _ rfl), X.2.a (hbk.k2 hW kb) (n0 _ rfl), X.2.a (hbk.k3 hW kb) (n0 _ rfl)]
    exact har j hj
/-- a way has decided -/
theorem z_TSG.dc (h : z_TSG T M b N q t m pr en sa n B F G S A) (X : z_X T zwVdecide M M1) (hz : z_lz M1 b) : z_TSG T M1 b N q t m pr en sa n B F G S A := by
  obtain ⟨⟨hW, hbk⟩, kb, ⟨hN0, hag⟩, ⟨hsa, ksa, hSS⟩, hA, ⟨n5, jv, hj4, ejv⟩, hnu, har, hln, hlz⟩ := h
  refine ⟨⟨X.1, hbk.ke X.2 (by decide)⟩, kb, ⟨X.2.f kb (by decide) hN0, hag.ke (fun _ _ h => h) X.2 (by decide)⟩, ⟨X.2.f hag.1 (by decide) hsa, ksa, fun k hk => (congrFun (X.2.a ksa (by decide)) k).trans (hSS k hk)⟩, hA, ⟨n5, jv, X.2.f kb (by decide) hj4, ejv⟩, fun j hj => ?_, fun j hj => ?_, hln.ke hbk hW kb X.2 (by decide), hz⟩
  · rw [X.2.a (hbk.k8 hW kb) (by decide)]
    exact hnu j hj
  · rw [X.2.a (hbk.k1 hW kb) (by decide), X.2.a (hbk.k2 hW kb) (by decide), X.2.a (hbk.k3 hW kb) (by decide)]
    exact har j hj
def z_w1 : Nat → Int32 := fun _ => 1
def z_yS (S : Nat → Int32) (F : Nat → Nat) : Nat → Int32 := fun j => S (F j)
def z_nS (S : Nat → Int32) (A : Int32) (F : Nat → Nat) : Nat → Int32 := fun j => A &&& (S (F j) ^^^ (-1 : Int32))
theorem z_TSG.jok (h : z_TSG T M b N q t m pr en sa n B F F S A) (hF : ∀ j, j < n → F j < m) : ∀ j, j < n → z_jok q (z_w1 j) (z_yS S F j) (z_nS S A F j) := fun j hj => by
  obtain ⟨⟨hW, hbk⟩, kb, ⟨hN0, hag⟩, ⟨hsa, ksa, hSS⟩, hA, _⟩ := h
  have q10 : q ≤ 10 := by have := hW.p3 kb; omega
  have h1 := z_LSlt hag hsa (hF j hj)
  rw [hSS _ (hF j hj)] at h1
  exact ⟨z_ansNo hA q10 h1, show 1 ≤ (1 : Int32).toInt ∧ (1 : Int32).toInt ≤ 9 by decide⟩
/-- what decides on it -/
theorem z_TSG.dp {w : Nat} {sh ch : Int32} (h : z_TSG T M b N q t m pr en sa n B F F S A) (hF : ∀ j, j < n → F j < m) (hpe : pr < 1024 ∧ en < 1024) (fs : z_F M w 1 = some (.int sh)) (fc : z_F M w 2 = some (.int ch)) : ∃ jv : Int32, jv.toInt = (n : Int) ∧ z_DP T M w b N q t m 5 pr en B sh jv ch ∧ (∀ k : Nat, k < q → (z_Ar M (b + 4) k).toInt = z_LW z_w1 (z_yS S F) (z_nS S A F) n k) ∧ ∀ j, j < n → z_Ar M (b + 1) j = z_w1 j ∧ z_Ar M (b + 2) j = z_yS S F j ∧ z_Ar M (b + 3) j = z_nS S A F j := by
  have jok := h.jok hF
  obtain ⟨⟨hW, hbk⟩, kb, ⟨hN0, hag⟩, ⟨hsa, ksa, hSS⟩, hA, ⟨n5, jv, hj4, ejv⟩, hnu, har, hln, hlz⟩ := h
  have q10 : q ≤ 10 := by have := hW.p3 kb; omega
  have cj : ∀ j, j < n → z_Ar M (b + 1) j = z_w1 j ∧ z_Ar M (b + 2) j = z_yS S F j ∧ z_Ar M (b + 3) j = z_nS S A F j := har
  have hl := z_lnW hln hj4 ejv (by omega) q10 cj jok
  refine ⟨jv, ejv, ⟨⟨hW, hbk⟩, kb, hN0, hag, hpe, hlz, fun k hk => (hl k hk).2, ⟨hj4, by omega, fun j hj => ?_⟩, fs, fc⟩, fun k hk => (hl k hk).1, cj⟩
  obtain ⟨_, u2, u3⟩ := cj j (by omega)
  rw [u2, u3]
  exact (jok j (by omega)).1
end ZALLB
