/-! a trial bench on which judges sit that have lawful sets -/
def z_TSG (T : List zK) (M : zH) (b N q t m pr en sa n : Nat) (B F G : Nat → Nat) (S : Nat → Int32) (A : Int32) : Prop :=
  (z_W M T ∧ z_blk T M) ∧ T[b]? = some (.inl (3, q, t, m, 5)) ∧ (z_F M b 0 = some (.ref N) ∧ z_AGO T M N q t m pr en B) ∧ (z_F M N 5 = some (.ref sa) ∧ T[sa]? = some (.inr (102, 0, m, 0, 1023)) ∧ ∀ k, k < m → z_Ar M sa k = S k) ∧ A.toInt = ((2 ^ q : Nat) : Int) - 1 ∧ (n ≤ 5 ∧ ∃ jv : Int32, z_F M b 4 = some (.int jv) ∧ jv.toInt = (n : Int)) ∧ (∀ j, j < n → (z_Ar M (b + 8) j).toInt = (F j : Int)) ∧ (∀ j, j < n → z_Ar M (b + 1) j = 1 ∧ z_Ar M (b + 2) j = S (G j) ∧ z_Ar M (b + 3) j = A &&& (S (G j) ^^^ (-1 : Int32))) ∧ z_LN M b q ∧ z_lz M b
section ZTSG
variable {T : List zK} {M M1 : zH} {b N q t m pr en sa n : Nat} {B F G F2 G2 : Nat → Nat} {S : Nat → Int32} {A : Int32} {rs : List Nat}
theorem z_blk.k8 (h : z_blk T M) (hW : z_W M T) {J : Nat} (hb : T[b]? = some (.inl (3, q, t, m, J))) : T[b + 8]? = some (.inr (210, 0, 5, 0, ((m : Nat) : Int) - 1)) := z_obf hW hb (h b q t m J hb).2.2.2.2.2.2.2.1
theorem z_TSG.C (h : z_TSG T M b N q t m pr en sa n B F G S A) (hF : ∀ j, j < n → F j = F2 j) (hG : ∀ j, j < n → S (G j) = S (G2 j)) : z_TSG T M b N q t m pr en sa n B F2 G2 S A := by
  obtain ⟨h1, h2, h3, h4, h5, h6, h7, h8, h9, h10⟩ := h
  exact ⟨h1, h2, h3, h4, h5, h6, fun j hj => by rw [← hF j hj]; exact h7 j hj, fun j hj => by rw [← hG j hj]; exact h8 j hj, h9, h10⟩
/-- only the numbers change -/
theorem z_TSG.nu (h : z_TSG T M b N q t m pr en sa n B F G S A) (hW1 : z_W M1 T) (ke : z_ke T [210] M M1) (e : ∀ j, j < n → (z_Ar M1 (b + 8) j).toInt = (F2 j : Int)) : z_TSG T M1 b N q t m pr en sa n B F2 G S A := by
  obtain ⟨⟨hW, hbk⟩, kb, ⟨hN0, hag⟩, ⟨hsa, ksa, hSS⟩, hA, ⟨n5, jv, hj4, ejv⟩, hnu, har, hln, hlz⟩ := h
  refine ⟨⟨hW1, hbk.ke ke (by decide)⟩, kb, ⟨ke.f kb (by decide) hN0, hag.ke (fun _ _ h => h) ke (by decide)⟩, ⟨ke.f hag.1 (by decide) hsa, ksa, fun k hk => (congrFun (ke.a ksa (by decide)) k).trans (hSS k hk)⟩, hA, ⟨n5, jv, ke.f kb (by decide) hj4, ejv⟩, e, fun j hj => ?_, hln.ke hbk hW kb ke (by decide), hlz.ke hbk hW kb ke (by decide)⟩
  rw [ke.a (hbk.k1 hW kb) (by decide), ke.a (hbk.k2 hW kb) (by decide), ke.a (hbk.k3 hW kb) (by decide)]
  exact har j hj
/-- a judge has another set -/
theorem z_TSG.al {i Y No : Int32} {w : Nat} (h : z_TSG T M b N q t m pr en sa n B F G S A) (X : z_X T zw54 M M1) (ha : z_alt M M1 b i Y No) (hl : z_LN M1 b q) (hY : Y = S w) (hN : No = A &&& (Y ^^^ (-1 : Int32))) : z_TSG T M1 b N q t m pr en sa n B F (fun j => if j = i.toInt.toNat then w else G j) S A := by
  obtain ⟨⟨hW, hbk⟩, kb, ⟨hN0, hag⟩, ⟨hsa, ksa, hSS⟩, hA, ⟨n5, jv, hj4, ejv⟩, hnu, har, hln, hlz⟩ := h
  refine ⟨⟨X.1, hbk.ke X.2 (by decide)⟩, kb, ⟨X.2.f kb (by decide) hN0, hag.ke (fun _ _ h => h) X.2 (by decide)⟩, ⟨X.2.f hag.1 (by decide) hsa, ksa, fun k hk => (congrFun (X.2.a ksa (by decide)) k).trans (hSS k hk)⟩, hA, ⟨n5, jv, X.2.f kb (by decide) hj4, ejv⟩, fun j hj => ?_, fun j hj => ?_, hl, hlz.ke hbk hW kb X.2 (by decide)⟩
  · rw [X.2.a (hbk.k8 hW kb) (by decide)]
    exact hnu j hj
  · obtain ⟨g1, g2, g3⟩ := har j hj
    rw [X.2.a (hbk.k1 hW kb) (by decide), ha.1, ha.2]
    refine ⟨g1, ?_⟩
    show (if j = i.toInt.toNat then Y else z_Ar M (b + 2) j) = _ ∧ (if j = i.toInt.toNat then No else z_Ar M (b + 3) j) = _
    dsimp only
    by_cases c : j = i.toInt.toNat
    · rw [if_pos c, if_pos c, if_pos c, ← hY]
      exact ⟨rfl, hN⟩
    · rw [if_neg c, if_neg c, if_neg c]
      exact ⟨g2, g3⟩
/-- one more sits down -/
theorem z_TSG.se {jv w Y No : Int32} {u : Nat} (h : z_TSG T M b N q t m pr en sa n B F G S A) (X : z_X T zw53 M M1) (hj : z_F M b 4 = some (.int jv)) (ha : z_se M M1 b jv w Y No) (hl : z_LN M1 b q) (n4 : n < 5) (hw : w = 1) (hY : Y = S u) (hN : No = A &&& (Y ^^^ (-1 : Int32))) (hnx : (z_Ar M (b + 8) n).toInt = (F n : Int)) : z_TSG T M1 b N q t m pr en sa (n + 1) B F (fun j => if j = n then u else G j) S A := by
  obtain ⟨⟨hW, hbk⟩, kb, ⟨hN0, hag⟩, ⟨hsa, ksa, hSS⟩, hA, ⟨n5, jv2, hj4, ejv⟩, hnu, har, hln, hlz⟩ := h
  have ej := z_ive hj hj4
  rw [← ej] at ejv
  obtain ⟨⟨x, f4, ex⟩, a1, a2, a3⟩ := ha
  have en : jv.toNatClampNeg = n := by
    show jv.toInt.toNat = n
    omega
  rw [en] at a1 a2 a3
  refine ⟨⟨X.1, hbk.ke X.2 (by decide)⟩, kb, ⟨X.2.f kb (by decide) hN0, hag.ke (fun _ _ h => h) X.2 (by decide)⟩, ⟨X.2.f hag.1 (by decide) hsa, ksa, fun k hk => (congrFun (X.2.a ksa (by decide)) k).trans (hSS k hk)⟩, hA, ⟨by omega, x, f4, by omega⟩, fun j hj => ?_, fun j hj => ?_, hl, hlz.ke hbk hW kb X.2 (by decide)⟩
  · rw [X.2.a (hbk.k8 hW kb) (by decide)]
    by_cases c : j = n
    · rw [c]
      exact hnx
    · exact hnu j (by omega)
  · rw [a1, a2, a3]
    show (if j = n then w else z_Ar M (b + 1) j) = 1 ∧ (if j = n then Y else if j = n then 0 else z_Ar M (b + 2) j) = _ ∧ (if j = n then No else if j = n then 0 else z_Ar M (b + 3) j) = _
    dsimp only
    by_cases c : j = n
    · rw [if_pos c, if_pos c, if_pos c, if_pos c, ← hY]
      exact ⟨hw, rfl, hN⟩
    · rw [if_neg c, if_neg c, if_neg c, if_neg c, if_neg c, if_neg c]
      exact har j (by omega)
end ZTSG
