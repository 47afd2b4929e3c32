/-! judges on both sides -/
def z_set1 (f : Nat → Int32) (J : Nat) (v : Int32) : Nat → Int32 := fun j => if j = J then v else f j
section ZJU
variable {T : List zK} {M M1 : zH} {a b J : Nat} {w y n : Nat → Int32}
theorem z_CB.se {jv w0 Y N : Int32} (h : z_CB M b J w y n) (hj : z_F M b 4 = some (.int jv)) (j0 : 0 ≤ jv.toInt) (hs : z_se M M1 b jv w0 Y N) : z_CB M1 b (J + 1) (z_set1 w J w0) (z_set1 y J Y) (z_set1 n J N) := by
  obtain ⟨⟨x, h1, h2⟩, h3⟩ := h
  have ex := z_ive h1 hj
  subst ex
  obtain ⟨⟨x2, g1, g2⟩, s1, s2, s3⟩ := hs
  have e : x.toNatClampNeg = J := by
    show x.toInt.toNat = J
    omega
  rw [e] at s1 s2 s3
  refine ⟨⟨x2, g1, by omega⟩, fun j hj => ?_⟩
  rw [s1, s2, s3]
  show (if j = J then w0 else z_Ar M (b + 1) j) = (if j = J then w0 else w j) ∧ (if j = J then Y else (if j = J then 0 else z_Ar M (b + 2) j)) = (if j = J then Y else y j) ∧ (if j = J then N else (if j = J then 0 else z_Ar M (b + 3) j)) = (if j = J then N else n j)
  by_cases c : j = J
  · rw [if_pos c, if_pos c, if_pos c, if_pos c, if_pos c, if_pos c]
    exact ⟨rfl, rfl, rfl⟩
  · rw [if_neg c, if_neg c, if_neg c, if_neg c, if_neg c, if_neg c, if_neg c, if_neg c]
    exact h3 j (by omega)
theorem y_CB.se {p w0 Y N : Int32} (h : y_CB M a J w y n) (ha : p.toNatClampNeg = a) (p0 : 0 ≤ p.toInt) (hs : y_se M M1 p w0 Y N) : y_CB M1 a (J + 1) (z_set1 w J w0) (z_set1 y J Y) (z_set1 n J N) := by
  obtain ⟨h1, h3⟩ := h
  obtain ⟨⟨v, g1, g2⟩, i, g3, s1, s2, s3⟩ := hs
  have ea : (a : Int) = p.toInt := by
    rw [← ha]
    show ((p.toInt.toNat : Nat) : Int) = p.toInt
    omega
  rw [ha] at g1 g2 g3
  have e : i.toNatClampNeg = 9 * a + J := by
    show i.toInt.toNat = 9 * a + J
    omega
  rw [e] at s1 s2 s3
  refine ⟨?_, fun j hj => ?_⟩
  · rw [g2]
    show (if a = a then v else z_Ar M 35 a).toInt = _
    rw [if_pos rfl]
    omega
  · rw [s1, s2, s3]
    show (if 9 * a + j = 9 * a + J then w0 else z_Ar M 32 (9 * a + j)) = (if j = J then w0 else w j) ∧ (if 9 * a + j = 9 * a + J then Y else z_Ar M 33 (9 * a + j)) = (if j = J then Y else y j) ∧ (if 9 * a + j = 9 * a + J then N else z_Ar M 34 (9 * a + j)) = (if j = J then N else n j)
    by_cases c : j = J
    · have c2 : 9 * a + j = 9 * a + J := by omega
      rw [if_pos c, if_pos c, if_pos c, if_pos c2, if_pos c2, if_pos c2]
      exact ⟨rfl, rfl, rfl⟩
    · have c2 : ¬ 9 * a + j = 9 * a + J := by omega
      rw [if_neg c, if_neg c, if_neg c, if_neg c2, if_neg c2, if_neg c2]
      exact h3 j (by omega)
theorem z_CB.al {jp Y N : Int32} (h : z_CB M b J w y n) (j0 : 0 ≤ jp.toInt) (hs : z_alt M M1 b jp Y N) (h4 : z_F M1 b 4 = z_F M b 4) (h5 : z_Ar M1 (b + 1) = z_Ar M (b + 1)) : z_CB M1 b J w (z_set1 y jp.toInt.toNat Y) (z_set1 n jp.toInt.toNat N) := by
  obtain ⟨⟨x, h1, h2⟩, h3⟩ := h
  obtain ⟨s2, s3⟩ := hs
  refine ⟨⟨x, h4.trans h1, h2⟩, fun j hj => ?_⟩
  rw [h5, s2, s3]
  obtain ⟨g1, g2, g3⟩ := h3 j hj
  show z_Ar M (b + 1) j = w j ∧ (if j = jp.toInt.toNat then Y else z_Ar M (b + 2) j) = (if j = jp.toInt.toNat then Y else y j) ∧ (if j = jp.toInt.toNat then N else z_Ar M (b + 3) j) = (if j = jp.toInt.toNat then N else n j)
  by_cases c : j = jp.toInt.toNat
  · rw [if_pos c, if_pos c, if_pos c, if_pos c]
    exact ⟨g1, rfl, rfl⟩
  · rw [if_neg c, if_neg c, if_neg c, if_neg c]
    exact ⟨g1, g2, g3⟩
theorem y_CB.al {p jp Y N : Int32} (h : y_CB M a J w y n) (ha : p.toNatClampNeg = a) (p0 : 0 ≤ p.toInt) (j0 : 0 ≤ jp.toInt) (h32 : z_Ar M1 32 = z_Ar M 32) (h35 : z_Ar M1 35 = z_Ar M 35) (hs : y_alt M M1 p jp Y N) : y_CB M1 a J w (z_set1 y jp.toInt.toNat Y) (z_set1 n jp.toInt.toNat N) := by
  obtain ⟨h1, h3⟩ := h
  obtain ⟨i, g3, s2, i2, g4, s3⟩ := hs
  have ea : (a : Int) = p.toInt := by
    rw [← ha]
    show ((p.toInt.toNat : Nat) : Int) = p.toInt
    omega
  have e : i.toNatClampNeg = 9 * a + jp.toInt.toNat := by
    show i.toInt.toNat = 9 * a + jp.toInt.toNat
    omega
  have e2 : i2.toNatClampNeg = 9 * a + jp.toInt.toNat := by
    show i2.toInt.toNat = 9 * a + jp.toInt.toNat
    omega
  rw [e] at s2
  rw [e2] at s3
  refine ⟨by rw [h35]; exact h1, fun j hj => ?_⟩
  rw [h32, s2, s3]
  obtain ⟨k1, k2, k3⟩ := h3 j hj
  show z_Ar M 32 (9 * a + j) = w j ∧ (if 9 * a + j = 9 * a + jp.toInt.toNat then Y else z_Ar M 33 (9 * a + j)) = (if j = jp.toInt.toNat then Y else y j) ∧ (if 9 * a + j = 9 * a + jp.toInt.toNat then N else z_Ar M 34 (9 * a + j)) = (if j = jp.toInt.toNat then N else n j)
  by_cases c : j = jp.toInt.toNat
  · have c2 : 9 * a + j = 9 * a + jp.toInt.toNat := by omega
    rw [if_pos c, if_pos c, if_pos c2, if_pos c2]
    exact ⟨k1, rfl, rfl⟩
  · have c2 : ¬ 9 * a + j = 9 * a + jp.toInt.toNat := by omega
    rw [if_neg c, if_neg c, if_neg c2, if_neg c2]
    exact ⟨k1, k2, k3⟩
/-- other agendas' places of the reference -/
theorem y_hro {k : Nat} {f g : Nat → Int32} {x : Int32} {a2 j : Nat} (e : g = upd f (9 * a + k) x) (hk : k < 9) (hj : j < 9) (ha : a2 ≠ a) : g (9 * a2 + j) = f (9 * a2 + j) := by
  rw [e]
  show (if 9 * a2 + j = 9 * a + k then x else f (9 * a2 + j)) = _
  rw [if_neg (by omega)]
theorem z_jok.st {q : Nat} {w0 Y N : Int32} (h : ∀ j, j < J → z_jok q (w j) (y j) (n j)) (h0 : z_jok q w0 Y N) : ∀ j, j < J + 1 → z_jok q (z_set1 w J w0 j) (z_set1 y J Y j) (z_set1 n J N j) := fun j hj => by
  show z_jok q (if j = J then w0 else w j) (if j = J then Y else y j) (if j = J then N else n j)
  by_cases c : j = J
  · rw [if_pos c, if_pos c, if_pos c]
    exact h0
  · rw [if_neg c, if_neg c, if_neg c]
    exact h j (by omega)
theorem z_jok.al {q k : Nat} {Y N : Int32} (h : ∀ j, j < J → z_jok q (w j) (y j) (n j)) (h0 : z_ans q Y N) : ∀ j, j < J → z_jok q (w j) (z_set1 y k Y j) (z_set1 n k N j) := fun j hj => by
  show z_jok q (w j) (if j = k then Y else y j) (if j = k then N else n j)
  by_cases c : j = k
  · rw [if_pos c, if_pos c]
    exact ⟨h0, (h j hj).2⟩
  · rw [if_neg c, if_neg c]
    exact h j hj
end ZJU
/-- both sides speak of the same told bench -/
theorem z_qBs {T : List zK} {M M1 : zH} {p : Int32} {x y : Int} {rs : List Nat} {R0 R0' : Prop} {R : Nat → Nat → (Nat → Nat) → Prop} {R2 : Prop} (h7 : z_R7 T M) (hW : z_W M T) (ke : z_ke T rs M M1) (hs : (z_agr.all fun x => !rs.elem x) = true) (hc : (([32, 33, 34, 35] : List Nat).all fun x => !rs.elem x) = true) (hA2 : (z_Fv M1 19 13).toInt = (z_Fv M 4 3).toInt) (h1 : z_qB T M p x R0 R) (h2 : y_qB M1 p y R0' R2) : (x = -1 ∧ y = -1 ∧ R0 ∧ R0') ∨ ∃ (A : Int32) (b q t m pr en J : Nat) (B : Nat → Nat) (w yy n : Nat → Int32), z_F M 4 3 = some (.int A) ∧ (0 ≤ p.toInt ∧ p.toInt < A.toInt) ∧ z_O M 10 p.toNatClampNeg = some b ∧ T[b]? = some (.inl (3, q, t, m, 9)) ∧ y_AGO M1 p.toNatClampNeg q t m pr en B ∧ q ≤ 10 ∧ m = z_lc B (2 ^ q) ∧ J ≤ 9 ∧ z_CB M b J w yy n ∧ y_CB M1 p.toNatClampNeg J w yy n ∧ (∀ j, j < J → z_jok q (w j) (yy j) (n j)) ∧ R b q B ∧ R2 := by
  obtain ⟨A, hA, h1⟩ := h1
  obtain ⟨A2, hA3, h2⟩ := h2
  rw [z_Fv.of hA3, z_Fv.of hA] at hA2
  rcases h1 with ⟨h1, h3, h0⟩ | ⟨h3, b, N, q, t, m, pr, en, B, hAB, h1⟩
  · rcases h2 with ⟨h2, _, h00⟩ | ⟨h4, _⟩
    · exact Or.inl ⟨h1, h2, h0, h00⟩
    · exfalso; omega
  · rcases h2 with ⟨_, h4, _⟩ | ⟨_, h2⟩
    · exfalso; omega
    · obtain ⟨b2, q2, t2, m2, g1, g2, J, w, yy, n, g3, g4, g5, g6⟩ := (h7.2 A hA).1 p.toNatClampNeg (by show ((p.toInt.toNat : Nat) : Int) < A.toInt; omega)
      have ob := hAB.1
      have kb := hAB.2.1
      obtain rfl : b = b2 := Option.some.inj (ob.symm.trans g1)
      rw [kb] at g2
      cases g2
      exact Or.inr ⟨A, b, q, t, m, pr, en, J, B, w, yy, n, hA, h3, ob, kb, hAB.2.2.2.2.ke hW ke hs, (hW.p2 hAB.2.2.2.1.1).1.2.1, hAB.2.2.2.1.2.2.1, g3, g4, g5.ke hW ke hc, g6, h1, h2⟩
/-- what the rest of the relation keeps, over both calls -/
theorem z_RR.two7 {T : List zK} {M M1 M2 : zH} {r1 r2 : List Nat} (h : z_RR T M) (hW : z_W M T) (X1 : z_X T r1 M M1) (X2 : z_X T r2 M1 M2) (hr1 : z_dj z_prA r1 = true) (hr2 : z_dj z_prA r2 = true) (h7 : z_R7 T M2) : z_RR T M2 :=
  ⟨(h.1.ke hW X1.2 (z_djs hr1 (by decide))).ke X1.1 X2.2 (z_djs hr2 (by decide)), (h.2.1.ke hW (fun _ _ h => h) X1.2 (z_djs hr1 (by decide)) (z_djs hr1 (by decide)) (z_djs hr1 (by decide))).ke X1.1 (fun _ _ h => h) X2.2 (z_djs hr2 (by decide)) (z_djs hr2 (by decide)) (z_djs hr2 (by decide)), h7⟩
theorem z_R7.id {T : List zK} {M M1 M2 : zH} (h : z_R7 T M) (hW : z_W M T) (hW1 : z_W M1 T) (k1 : z_ke T [] M M1) (k2 : z_ke T [] M1 M2) : z_R7 T M2 :=
  (h.ke hW (fun _ _ h => h) (h.1.ke k1 rfl) k1 rfl).ke hW1 (fun _ _ h => h) ((h.1.ke k1 rfl).ke k2 rfl) k2 rfl
theorem z_pc {p : Int32} {A : Int32} (h : 0 ≤ p.toInt ∧ p.toInt < A.toInt) : (p.toNatClampNeg : Int) < A.toInt := by
  show ((p.toInt.toNat : Nat) : Int) < A.toInt
  omega
