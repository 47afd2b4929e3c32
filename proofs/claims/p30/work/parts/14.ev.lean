/-! runs in the continuation's style: 'from this place the method comes to an answer and a heap with K' -/
def z_ev (d j pc : Nat) (L : zL) (S : zS) (M : zH) (K : Option Value → zH → Prop) : Prop := ∃ n v M1, z_run n d j pc L S M = some (v, M1) ∧ K v M1
theorem z_run_s : ∀ (n d j pc : Nat) (L : zL) (S : zS) (M : zH) (q : Option Value × zH), z_run n d j pc L S M = some q → z_run (n + 1) d j pc L S M = some q
  | 0, d, j, pc, L, S, M, q, h => by cases h
  | n + 1, d, j, pc, L, S, M, q, h => by
    rw [z_run] at h
    rw [z_run]
    split at h
    · cases h
    · split at h
      · rename_i hlen
        rw [if_pos hlen]
        split at h
        · exact h
        · split at h
          · exact z_run_s n _ _ _ _ _ _ _ h
          · split at h
            · split at h
              · rename_i hg
                rw [if_pos hg]
                split at h
                · rename_i h1
                  rw [z_run_s n _ _ _ _ _ _ _ h1]
                  exact z_run_s n _ _ _ _ _ _ _ h
                · cases h
              · cases h
            · cases h
      · cases h
theorem z_run_up {n d j pc : Nat} {L : zL} {S : zS} {M : zH} {q : Option Value × zH} (h : z_run n d j pc L S M = some q) : ∀ k, z_run (n + k) d j pc L S M = some q
  | 0 => h
  | k + 1 => z_run_s _ _ _ _ _ _ _ _ (z_run_up h k)
theorem z_ev.mono {d j pc : Nat} {L : zL} {S : zS} {M : zH} {K K2 : Option Value → zH → Prop} (h : z_ev d j pc L S M K) (hk : ∀ v M1, K v M1 → K2 v M1) : z_ev d j pc L S M K2 := by
  obtain ⟨n, v, M1, h1, h2⟩ := h
  exact ⟨n, v, M1, h1, hk _ _ h2⟩
theorem z_o3 {p q : Prop} {a : Nat} (hi : ¬ (p ∨ q)) (ha : 4 ≤ a) : ¬ (p ∨ q ∨ a < 4) := fun h => h.elim (fun z => hi (Or.inl z)) fun z => z.elim (fun z => hi (Or.inr z)) fun z => absurd ha (Nat.not_le.mpr z)
theorem z_o4 {p q : Prop} {a t : Nat} (hi : ¬ (p ∨ q)) (ha : 4 ≤ a) (ht : 2 ≤ t) : ¬ (p ∨ q ∨ a < 4 ∨ t < 2) := fun h => h.elim (fun z => hi (Or.inl z)) fun z => z.elim (fun z => hi (Or.inr z)) fun z => z.elim (fun z => absurd ha (Nat.not_le.mpr z)) fun z => absurd ht (Nat.not_le.mpr z)
theorem z_o5 {p q u : Prop} {a v : Nat} (hi : ¬ (p ∨ q)) (ha : 4 ≤ a) (hv : 4 ≤ v) (hu : u) : ¬ (p ∨ q ∨ a < 4 ∨ v < 4 ∨ ¬ u) := fun h => h.elim (fun z => hi (Or.inl z)) fun z => z.elim (fun z => hi (Or.inr z)) fun z => z.elim (fun z => absurd ha (Nat.not_le.mpr z)) fun z => z.elim (fun z => absurd hv (Nat.not_le.mpr z)) fun z => z hu
section ZEV
variable {d j pc len pc1 : Nat} {i : Instr} {L L1 : zL} {S S1 r : zS} {M M1 : zH} {K : Option Value → zH → Prop}
theorem z_est (hd : decode (z_b j) pc = .ok (i, len)) (hl : len = z_len i len) (he : z_end j i S = none) (hs : z_st j i pc L S M = some (pc1, L1, S1, M1)) (k : z_ev d j pc1 L1 S1 M1 K) : z_ev d j pc L S M K := by
  obtain ⟨n, v, M2, h1, h2⟩ := k
  refine ⟨n + 1, v, M2, ?_, h2⟩
  rw [z_run, hd]
  simp only [he, hs]
  rw [if_pos hl]
  exact h1
/-- an instruction over numbers, locals, the stack -/
theorem z_e1 (hd : decode (z_b j) pc = .ok (i, len)) (hl : len = z_len i len) (he : z_end j i S = none) (hs : z_s1 i pc L S = some (pc1, L1, S1)) (k : z_ev d j pc1 L1 S1 M K) : z_ev d j pc L S M K :=
  z_est hd hl he (by unfold z_st; rw [hs]) k
/-- .. over the heap -/
theorem z_e2 (hd : decode (z_b j) pc = .ok (i, len)) (hl : len = z_len i len) (he : z_end j i S = none) (h1 : z_s1 i pc L S = none) (hs : z_s2 (z_oc j) ((z_name j).name == "<init>") i pc S M = some (pc1, S1, M1)) (k : z_ev d j pc1 L S1 M1 K) : z_ev d j pc L S M K :=
  z_est hd hl he (by unfold z_st; rw [h1, hs]) k
theorem z_e3 (hd : decode (z_b j) pc = .ok (i, len)) (hl : len = z_len i len) (he : z_end j i S = none) (h1 : z_s1 i pc L S = none) (h2 : z_s2 (z_oc j) ((z_name j).name == "<init>") i pc S M = none) (hs : z_s3 (z_oc j) i pc S M = some (pc1, S1, M1)) (k : z_ev d j pc1 L S1 M1 K) : z_ev d j pc L S M K :=
  z_est hd hl he (by unfold z_st; rw [h1, h2, hs]) k
theorem z_ej {c : ClassFile.Cond} {off : Int} {t t2 : Nat} {x y : Int32} (hd : decode (z_b j) pc = .ok (.if_icmp c off, 3)) (ht : z_tg pc off = some t) (hb : z_br c x y t (pc + 3) = t2) (k : z_ev d j t2 L r M K) : z_ev d j pc L (.int y :: .int x :: r) M K :=
  z_e1 hd rfl rfl (by simp only [z_s1, ht]) (hb ▸ k)
theorem z_ez {c : ClassFile.Cond} {off : Int} {t t2 : Nat} {x : Int32} (hd : decode (z_b j) pc = .ok (.ifCond c off, 3)) (ht : z_tg pc off = some t) (hb : z_br c x 0 t (pc + 3) = t2) (k : z_ev d j t2 L r M K) : z_ev d j pc L (.int x :: r) M K :=
  z_e1 hd rfl rfl (by simp only [z_s1, ht]) (hb ▸ k)
def z_fF (c i : Nat) : Option ((Nat × List Nat) × String) := (z_find z_fl c i).map fun q => (q.1, q.2.1.2.1)
theorem z_fF_use {c i : Nat} {q : (Nat × List Nat) × String} (h : z_fF c i = some q) : ∃ z, z_find z_fl c i = some z ∧ z.1 = q.1 ∧ z.2.1.2.1 = q.2 := by
  obtain ⟨z, h1, h2⟩ := Option.map_eq_some_iff.mp h
  exact ⟨z, h1, by rw [← h2], by rw [← h2]⟩
theorem z_egf {idx a k ci : Nat} {cis : List Nat} {dc : String} {fs : List Value} {v : Value} (hd : decode (z_b j) pc = .ok (.getfield idx, 3)) (hq : z_fF (z_oc j) idx = some ((k, cis), dc)) (hM : M[a]? = some (.inr (ci, fs))) (hc : ci ∈ cis) (ha : 4 ≤ a) (hv : fs[k]? = some v) (kk : z_ev d j (pc + 3) L (v :: r) M K) : z_ev d j pc L (.ref a :: r) M K := by
  obtain ⟨z, h1, h2, h3⟩ := z_fF_use hq
  refine z_e2 hd rfl rfl rfl ?_ kk
  simp only [z_s2, hM, h1, h2]
  rw [if_pos ⟨hc, ha⟩, hv]
  rfl
theorem z_epf {idx a k ci : Nat} {cis : List Nat} {dc : String} {fs : List Value} {v : Value} (hd : decode (z_b j) pc = .ok (.putfield idx, 3)) (hq : z_fF (z_oc j) idx = some ((k, cis), dc)) (hM : M[a]? = some (.inr (ci, fs))) (hc : ci ∈ cis) (ha : 4 ≤ a) (hf : z_fit (z_fty ci k) v = true) (hl : k < fs.length) (hw : ((z_cl[ci]?).map fun w => (w.2.1 k).2.2.2) = some false ∨ (((z_name j).name == "<init>") = true ∧ dc = z_cn (z_oc j))) (kk : z_ev d j (pc + 3) L r (M.set a (.inr (ci, fs.set k v))) K) : z_ev d j pc L (v :: .ref a :: r) M K := by
  obtain ⟨z, h1, h2, h3⟩ := z_fF_use hq
  refine z_e2 hd rfl rfl rfl ?_ kk
  simp only [z_s2, hM, h1, h2, h3]
  rw [if_pos ⟨hc, ha, hf, hl, hw⟩]
theorem z_eial {a n : Nat} {f : Nat → Int32} {x y : Int32} (hd : decode (z_b j) pc = .ok (.iaload, 1)) (hM : M[a]? = some (.inl (0, n, .inl f))) (hi : ¬ (x < 0 ∨ n ≤ x.toNatClampNeg)) (hv : f x.toNatClampNeg = y) (kk : z_ev d j (pc + 1) L (.int y :: r) M K) : z_ev d j pc L (.int x :: .ref a :: r) M K := by
  refine z_e2 hd rfl rfl rfl ?_ kk
  simp only [z_s2, hM]
  rw [if_neg hi, hv]
theorem z_elal {a n : Nat} {f : Nat → Int64} {x : Int32} {y : Int64} (hd : decode (z_b j) pc = .ok (.laload, 1)) (hM : M[a]? = some (.inl (1, n, .inr (.inl f)))) (hi : ¬ (x < 0 ∨ n ≤ x.toNatClampNeg)) (hv : f x.toNatClampNeg = y) (kk : z_ev d j (pc + 1) L (.long y :: r) M K) : z_ev d j pc L (.int x :: .ref a :: r) M K := by
  refine z_e2 hd rfl rfl rfl ?_ kk
  simp only [z_s2, hM]
  rw [if_neg hi, hv]
theorem z_eaal {a t n : Nat} {f : Nat → Option Nat} {x : Int32} {y : Option Nat} (hd : decode (z_b j) pc = .ok (.aaload, 1)) (hM : M[a]? = some (.inl (t, n, .inr (.inr f)))) (hi : ¬ (x < 0 ∨ n ≤ x.toNatClampNeg)) (ha : 4 ≤ a) (ht : 2 ≤ t) (hv : f x.toNatClampNeg = y) (kk : z_ev d j (pc + 1) L (va_rf y :: r) M K) : z_ev d j pc L (.int x :: .ref a :: r) M K := by
  refine z_e2 hd rfl rfl rfl ?_ kk
  simp only [z_s2, hM]
  rw [if_neg (z_o4 hi ha ht), hv]
theorem z_eias {a n : Nat} {f : Nat → Int32} {x v : Int32} (hd : decode (z_b j) pc = .ok (.iastore, 1)) (hM : M[a]? = some (.inl (0, n, .inl f))) (hi : ¬ (x < 0 ∨ n ≤ x.toNatClampNeg)) (ha : 4 ≤ a) (kk : z_ev d j (pc + 1) L r (M.set a (.inl (0, n, .inl (upd f x.toNatClampNeg v)))) K) : z_ev d j pc L (.int v :: .int x :: .ref a :: r) M K := by
  refine z_e2 hd rfl rfl rfl ?_ kk
  simp only [z_s2, hM]
  rw [if_neg (z_o3 hi ha)]
theorem z_elas {a n : Nat} {f : Nat → Int64} {x : Int32} {v : Int64} (hd : decode (z_b j) pc = .ok (.lastore, 1)) (hM : M[a]? = some (.inl (1, n, .inr (.inl f)))) (hi : ¬ (x < 0 ∨ n ≤ x.toNatClampNeg)) (ha : 4 ≤ a) (kk : z_ev d j (pc + 1) L r (M.set a (.inl (1, n, .inr (.inl (z_updL f x.toNatClampNeg v))))) K) : z_ev d j pc L (.long v :: .int x :: .ref a :: r) M K := by
  refine z_e2 hd rfl rfl rfl ?_ kk
  simp only [z_s2, hM]
  rw [if_neg (z_o3 hi ha)]
theorem z_easN {a t n : Nat} {f : Nat → Option Nat} {x : Int32} (hd : decode (z_b j) pc = .ok (.aastore, 1)) (hM : M[a]? = some (.inl (t, n, .inr (.inr f)))) (hi : ¬ (x < 0 ∨ n ≤ x.toNatClampNeg)) (ha : 4 ≤ a) (ht : 2 ≤ t) (kk : z_ev d j (pc + 1) L r (M.set a (.inl (t, n, .inr (.inr (z_updR f x.toNatClampNeg none))))) K) : z_ev d j pc L (.null :: .int x :: .ref a :: r) M K := by
  refine z_e2 hd rfl rfl rfl ?_ kk
  simp only [z_s2, hM]
  rw [if_neg (z_o4 hi ha ht)]
theorem z_eas {a t n v ci : Nat} {fs : List Value} {f : Nat → Option Nat} {x : Int32} (hd : decode (z_b j) pc = .ok (.aastore, 1)) (hM : M[a]? = some (.inl (t, n, .inr (.inr f)))) (hV : M[v]? = some (.inr (ci, fs))) (hi : ¬ (x < 0 ∨ n ≤ x.toNatClampNeg)) (ha : 4 ≤ a) (hv4 : 4 ≤ v) (ht : (t = 2 ∧ ci = 3) ∨ (t = 3 ∧ 4 ≤ ci ∧ ci ≤ 11)) (kk : z_ev d j (pc + 1) L r (M.set a (.inl (t, n, .inr (.inr (z_updR f x.toNatClampNeg (some v)))))) K) : z_ev d j pc L (.ref v :: .int x :: .ref a :: r) M K := by
  refine z_e2 hd rfl rfl rfl ?_ kk
  simp only [z_s2, hM, hV]
  rw [if_neg (z_o5 hi ha hv4 ht)]
theorem z_ealn {a t n : Nat} {x} (hd : decode (z_b j) pc = .ok (.arraylength, 1)) (hM : M[a]? = some (.inl (t, n, x))) {y : Int32} (hy : Int32.ofNat n = y) (kk : z_ev d j (pc + 1) L (.int y :: r) M K) : z_ev d j pc L (.ref a :: r) M K := by
  refine z_e2 hd rfl rfl rfl ?_ kk
  simp only [z_s2, hM]
  rw [hy]
theorem z_eldc {idx : Nat} {y : Int32} (hd : decode (z_b j) pc = .ok (.ldc idx, 2)) (hq : (z_find z_ld (z_oc j) idx).map (·.1) = some y) (kk : z_ev d j (pc + 2) L (.int y :: S) M K) : z_ev d j pc L S M K := by
  obtain ⟨z, h1, h2⟩ := Option.map_eq_some_iff.mp hq
  refine z_e2 hd rfl rfl rfl ?_ kk
  simp only [z_s2, h1]
  rw [← h2]
  rfl
theorem z_eldw {idx : Nat} {y : Int32} (hd : decode (z_b j) pc = .ok (.ldc_w idx, 3)) (hq : (z_find z_ld (z_oc j) idx).map (·.1) = some y) (kk : z_ev d j (pc + 3) L (.int y :: S) M K) : z_ev d j pc L S M K := by
  obtain ⟨z, h1, h2⟩ := Option.map_eq_some_iff.mp hq
  refine z_e2 hd rfl rfl rfl ?_ kk
  simp only [z_s2, h1]
  rw [← h2]
  rfl
theorem z_eld2 {idx : Nat} {y : Int64} (hd : decode (z_b j) pc = .ok (.ldc2_w idx, 3)) (hq : (z_find z_l2 (z_oc j) idx).map (·.1) = some y) (kk : z_ev d j (pc + 3) L (.long y :: S) M K) : z_ev d j pc L S M K := by
  obtain ⟨z, h1, h2⟩ := Option.map_eq_some_iff.mp hq
  refine z_e2 hd rfl rfl rfl ?_ kk
  simp only [z_s2, h1]
  rw [← h2]
  rfl
theorem z_egs {idx k : Nat} (hd : decode (z_b j) pc = .ok (.getstatic idx, 3)) (hq : (z_find z_gs (z_oc j) idx).map (·.1) = some k) (kk : z_ev d j (pc + 3) L (.ref k :: S) M K) : z_ev d j pc L S M K := by
  obtain ⟨z, h1, h2⟩ := Option.map_eq_some_iff.mp hq
  refine z_e2 hd rfl rfl rfl ?_ kk
  simp only [z_s2, h1]
  rw [← h2]
  rfl
theorem z_enew {idx ci N : Nat} {fs : List Value} (hd : decode (z_b j) pc = .ok (.new idx, 3)) (hq : (z_find z_nw (z_oc j) idx).map (·.1) = some ci) (hb : z_blank ci = fs) (hN : M.length = N) (kk : z_ev d j (pc + 3) L (.ref N :: S) (M ++ [.inr (ci, fs)]) K) : z_ev d j pc L S M K := by
  obtain ⟨z, h1, h2⟩ := Option.map_eq_some_iff.mp hq
  refine z_e2 hd rfl rfl rfl ?_ kk
  simp only [z_s2, h1]
  rw [← h2] at hb
  rw [← h2, ← hb, ← hN]
  rfl
/-- Object's own start -/
theorem z_eoi {idx n : Nat} {tg : List (Nat × Nat)} {a : Nat} (hd : decode (z_b j) pc = .ok (.invokespecial idx, 3)) (hq : (z_find z_cI (z_oc j) idx).map (·.1) = some (7, n, tg)) (hw : z_ws r ≤ 8) (kk : z_ev d j (pc + 3) L r M K) : z_ev d j pc L (.ref a :: r) M K := by
  obtain ⟨⟨z1, z2⟩, h1, h2⟩ := Option.map_eq_some_iff.mp hq
  cases h2
  refine z_e3 hd rfl rfl rfl rfl ?_ kk
  simp only [z_s3, h1]
  rw [if_pos hw]
/-- System.arraycopy -/
theorem z_ecp {idx n a b na nb : Nat} {tg : List (Nat × Nat)} {f g : Nat → Int64} {sp dp x : Int32} (hd : decode (z_b j) pc = .ok (.invokestatic idx, 3)) (hq : (z_find z_cS (z_oc j) idx).map (·.1) = some (8, n, tg)) (hw : z_ws r ≤ 8) (hA : M[a]? = some (.inl (1, na, .inr (.inl g)))) (hB : M[b]? = some (.inl (1, nb, .inr (.inl f))))
    (hg : ¬ (sp < 0 ∨ dp < 0 ∨ x < 0 ∨ a < 4 ∨ b < 4 ∨ nb < sp.toNatClampNeg + x.toNatClampNeg ∨ na < dp.toNatClampNeg + x.toNatClampNeg))
    (kk : z_ev d j (pc + 3) L r (M.set a (.inl (1, na, .inr (.inl (z_cpy f g sp.toNatClampNeg dp.toNatClampNeg x.toNatClampNeg))))) K) : z_ev d j pc L (.int x :: .int dp :: .ref a :: .int sp :: .ref b :: r) M K := by
  obtain ⟨⟨z1, z2⟩, h1, h2⟩ := Option.map_eq_some_iff.mp hq
  cases h2
  refine z_est hd rfl (by cases r <;> rfl) ?_ kk
  unfold z_st
  simp only [z_s1, z_s2, z_s3, z_s4, h1, z_copy, hA, hB]
  rw [if_neg hg]
  simp only [if_pos hw]
theorem z_emx {idx n : Nat} {tg : List (Nat × Nat)} {x y : Int32} (hd : decode (z_b j) pc = .ok (.invokestatic idx, 3)) (hq : (z_find z_cS (z_oc j) idx).map (·.1) = some (10, n, tg)) (hw : z_ws r ≤ 8) (kk : z_ev d j (pc + 3) L (.int (if x < y then y else x) :: r) M K) : z_ev d j pc L (.int y :: .int x :: r) M K := by
  obtain ⟨⟨z1, z2⟩, h1, h2⟩ := Option.map_eq_some_iff.mp hq
  cases h2
  refine z_e3 hd rfl rfl rfl rfl ?_ kk
  simp only [z_s3, h1]
  rw [if_pos hw]
theorem z_emn {idx n : Nat} {tg : List (Nat × Nat)} {x y : Int32} (hd : decode (z_b j) pc = .ok (.invokestatic idx, 3)) (hq : (z_find z_cS (z_oc j) idx).map (·.1) = some (11, n, tg)) (hw : z_ws r ≤ 8) (kk : z_ev d j (pc + 3) L (.int (if y < x then y else x) :: r) M K) : z_ev d j pc L (.int y :: .int x :: r) M K := by
  obtain ⟨⟨z1, z2⟩, h1, h2⟩ := Option.map_eq_some_iff.mp hq
  cases h2
  refine z_e3 hd rfl rfl rfl rfl ?_ kk
  simp only [z_s3, h1]
  rw [if_pos hw]
/-- the ends -/
theorem z_eend {v : Option Value} (hd : decode (z_b j) pc = .ok (i, len)) (hl : len = z_len i len) (he : z_end j i S = some v) (k : K v M) : z_ev d j pc L S M K := by
  refine ⟨1, v, M, ?_, k⟩
  rw [z_run, hd]
  simp only [he]
  rw [if_pos hl]
theorem z_eri {x : Int32} (hd : decode (z_b j) pc = .ok (.ireturn, 1)) (hr : z_rt j = some .int) (k : K (some (.int x)) M) : z_ev d j pc L [.int x] M K := z_eend hd rfl (by unfold z_end; rw [hr]) k
theorem z_erz {x : Int32} (hd : decode (z_b j) pc = .ok (.ireturn, 1)) (hr : z_rt j = some .boolean) (hx : x = 0 ∨ x = 1) (k : K (some (.int x)) M) : z_ev d j pc L [.int x] M K := z_eend hd rfl (by unfold z_end; rw [hr]; exact if_pos hx) k
theorem z_erl {x : Int64} (hd : decode (z_b j) pc = .ok (.lreturn, 1)) (hr : z_rt j = some .long) (k : K (some (.long x)) M) : z_ev d j pc L [.long x] M K := z_eend hd rfl (by unfold z_end; rw [hr]) k
theorem z_era {a : Nat} {C : String} (hd : decode (z_b j) pc = .ok (.areturn, 1)) (hr : z_rt j = some (.object C)) (k : K (some (.ref a)) M) : z_ev d j pc L [.ref a] M K := z_eend hd rfl (by unfold z_end; rw [hr]) k
theorem z_ern {C : String} (hd : decode (z_b j) pc = .ok (.areturn, 1)) (hr : z_rt j = some (.object C)) (k : K (some .null) M) : z_ev d j pc L [.null] M K := z_eend hd rfl (by unfold z_end; rw [hr]) k
theorem z_erv (hd : decode (z_b j) pc = .ok (.return_, 1)) (hr : z_rt j = none) (k : K none M) : z_ev d j pc L [] M K := z_eend hd rfl (by unfold z_end; rw [hr]) k
/-- what comes behind a call -/
def z_go (d j pc : Nat) (L : zL) (r : zS) (K : Option Value → zH → Prop) : Option Value → zH → Prop := fun v M1 => z_ev d j pc L (v.toList ++ r) M1 K
theorem z_ecall {kd k : Nat} {vs : List Value} (hd : decode (z_b j) pc = .ok (i, 3)) (hl : 3 = z_len i 3) (he : z_end j i S = none) (hs : z_st j i pc L S M = none) (hc : z_call (z_oc j) i S M = some (kd, k, vs, r)) (hg : z_ws r ≤ 8 ∧ kd ≠ 8 ∧ (z_ent vs 0).length ≤ z_ml k) (kk : z_ev d k 0 (z_ent vs (z_ml k)) [] M (z_go (d + 1) j (pc + 3) L r K)) : z_ev (d + 1) j pc L S M K := by
  obtain ⟨n1, v1, M1, h1, n2, v2, M2, h2, h3⟩ := kk
  refine ⟨n1 + n2 + 1, v2, M2, ?_, h3⟩
  rw [z_run, hd]
  simp only [he, hs, hc]
  rw [if_pos hl, if_pos hg, z_run_up h1 n2]
  show z_run (n1 + n2) _ _ _ _ _ _ = _
  rw [Nat.add_comm]
  exact z_run_up h2 n1
theorem z_ecS {idx kd n t k n2 : Nat} {vs : List Value} {L2 : zL} (hd : decode (z_b j) pc = .ok (.invokestatic idx, 3)) (hq : (z_find z_cS (z_oc j) idx).map (·.1) = some (kd, n, [(t, k)])) (hkd : kd = 0 ∨ kd = 5) (hn : n ≤ S.length) (hv : (S.take n).reverse = vs) (hr : S.drop n = r) (hw : z_ws r ≤ 8) (hm : z_ml k = n2) (he : (z_ent vs 0).length ≤ n2) (hL : z_ent vs n2 = L2) (kk : z_ev d k 0 L2 [] M (z_go (d + 1) j (pc + 3) L r K)) : z_ev (d + 1) j pc L S M K := by
  obtain ⟨⟨z1, z2⟩, h1, h2⟩ := Option.map_eq_some_iff.mp hq
  cases h2
  subst hm
  refine z_ecall (kd := kd) (k := k) (vs := vs) hd rfl (by cases S <;> rfl) ?_ ?_ ⟨hw, by omega, he⟩ (hL ▸ kk)
  · unfold z_st
    simp only [z_s1, z_s2, z_s3, z_s4, h1]
    rcases hkd with rfl | rfl <;> rfl
  · simp only [z_call, h1]
    rw [if_pos hn, hv, hr]
theorem z_ecV {idx kd n b ci k n2 : Nat} {tg : List (Nat × Nat)} {fs vs : List Value} {L2 : zL} (hd : decode (z_b j) pc = .ok (.invokevirtual idx, 3)) (hq : (z_find z_cV (z_oc j) idx).map (·.1) = some (kd, n, tg)) (hkd : kd = 1 ∨ kd = 2) (hS : S[n]? = some (.ref b)) (hM : M[b]? = some (.inr (ci, fs))) (hb : 4 ≤ b) (ht : (tg.find? fun t => t.1 == ci) = some (ci, k)) (hv : .ref b :: (S.take n).reverse = vs) (hr : S.drop (n + 1) = r) (hw : z_ws r ≤ 8) (hm : z_ml k = n2) (he : (z_ent vs 0).length ≤ n2) (hL : z_ent vs n2 = L2) (kk : z_ev d k 0 L2 [] M (z_go (d + 1) j (pc + 3) L r K)) : z_ev (d + 1) j pc L S M K := by
  obtain ⟨⟨z1, z2⟩, h1, h2⟩ := Option.map_eq_some_iff.mp hq
  cases h2
  subst hm
  refine z_ecall (kd := kd) (k := k) (vs := vs) hd rfl (by cases S <;> rfl) rfl ?_ ⟨hw, by omega, he⟩ (hL ▸ kk)
  simp only [z_call, h1, hS, hM]
  rw [if_pos hb, ht, ← hv, ← hr]
  rfl
theorem z_ecI {idx kd n b t k ci n2 : Nat} {fs vs : List Value} {L2 : zL} (hd : decode (z_b j) pc = .ok (.invokespecial idx, 3)) (hq : (z_find z_cI (z_oc j) idx).map (·.1) = some (kd, n, [(t, k)])) (hkd : kd = 3 ∨ kd = 4 ∨ kd = 6 ∨ kd = 9) (hS : S[n]? = some (.ref b)) (hM : M[b]? = some (.inr (ci, fs))) (hb : 4 ≤ b) (hv : .ref b :: (S.take n).reverse = vs) (hr : S.drop (n + 1) = r) (hw : z_ws r ≤ 8) (hm : z_ml k = n2) (he : (z_ent vs 0).length ≤ n2) (hL : z_ent vs n2 = L2) (kk : z_ev d k 0 L2 [] M (z_go (d + 1) j (pc + 3) L r K)) : z_ev (d + 1) j pc L S M K := by
  obtain ⟨⟨z1, z2⟩, h1, h2⟩ := Option.map_eq_some_iff.mp hq
  cases h2
  subst hm
  refine z_ecall (kd := kd) (k := k) (vs := vs) hd rfl (by cases S <;> rfl) ?_ ?_ ⟨hw, by omega, he⟩ (hL ▸ kk)
  · unfold z_st
    simp only [z_s1, z_s2, z_s3, z_s4, h1]
    rcases hkd with rfl | rfl | rfl | rfl <;> rfl
  · simp only [z_call, h1, hS, hM]
    rw [if_pos hb, ← hv, ← hr]
/-- reading a heap that was written -/
theorem z_gn {a b : Nat} {e : zE} {o : Option zE} (h : a ≠ b) (hM : M[b]? = o) : (M.set a e)[b]? = o := by rw [List.getElem?_set_ne h]; exact hM
theorem z_gs1 {a : Nat} {e e0 : zE} (hM : M[a]? = some e0) : (M.set a e)[a]? = some e := by
  rw [List.getElem?_set]
  simp [(List.getElem?_eq_some_iff.mp hM).1]
theorem z_gp {b : Nat} {e e0 : zE} (hM : M[b]? = some e0) : (M ++ [e])[b]? = some e0 := by
  rw [List.getElem?_append_left (List.getElem?_eq_some_iff.mp hM).1]
  exact hM
theorem z_gl {N : Nat} {e : zE} (hN : M.length = N) : (M ++ [e])[N]? = some e := by
  rw [← hN, List.getElem?_append_right (Nat.le_refl _), Nat.sub_self]
  rfl
end ZEV
