/-! steps together; how a call's start and end are told -/
section ZST
variable {p : Program} {l : Launch} {e : Env} {R : Room} {s : State} {m : MethodId} {args : Array Value} {below : List Frame} {meth : Method} {c : Code} {H : Heap} {locs : List Loc} {cells slots : Nat} {Q : State → Prop}
variable {G : zG} {r : Nat → Nat} {base : Nat} {ro M : zH} {pc : Nat} {ls : Array Slot} {j : Nat}
theorem z_s2_ok (X : z_Cx G p s m args meth c j) (hR : z_R r (z_A base) ro s s.heap) (hRl : z_Rl G r base ro s.heap M H locs) {i : Instr} {len pc1 : Nat} {S S1 : zS} {M1 : zH} (hdg : decode (z_b j) pc = .ok (i, len)) (hlen : len = z_len i len) (hst : z_s2 (z_oc j) ((z_name j).name == "<init>") i pc S M = some (pc1, S1, M1))
    (hc : cells + (M1.length - M.length) ≤ R.cells) (hs : slots + (z_sz M1 - z_sz M) ≤ R.slots)
    (kk : ∀ H1 locs1, z_Rl G r base ro s.heap M1 H1 locs1 → W p l e R s m args below meth c H1 locs1 (cells + (M1.length - M.length)) (slots + (z_sz M1 - z_sz M)) Q (F0 m pc1 ls (S1.map (z_sh (z_ad r base))))) : W p l e R s m args below meth c H locs cells slots Q (F0 m pc ls (S.map (z_sh (z_ad r base)))) := by
  have same : ∀ {pc2 : Nat} {S2 : zS}, some (pc2, S2, M) = some (pc1, S1, M1) → W p l e R s m args below meth c H locs cells slots Q (F0 m pc2 ls (S2.map (z_sh (z_ad r base)))) := by
    intro pc2 S2 h
    cases h
    have k := kk H locs hRl
    simp only [Nat.sub_self, Nat.add_zero] at k
    exact k
  have put : ∀ {pc2 : Nat} {S2 : zS} {a : Nat} {e0 e1 : zE}, M[a]? = some e0 → z_cz e1 = z_cz e0 → some (pc2, S2, M.set a e1) = some (pc1, S1, M1) → ∀ H1 locs1, z_Rl G r base ro s.heap (M.set a e1) H1 locs1 → W p l e R s m args below meth c H1 locs1 cells slots Q (F0 m pc2 ls (S2.map (z_sh (z_ad r base)))) := by
    intro pc2 S2 a e0 e1 h0 hz h H1 locs1 h1
    cases h
    have k := kk H1 locs1 h1
    simp only [List.length_set, z_sz_set h0 hz, Nat.sub_self, Nat.add_zero] at k
    exact k
  have more : ∀ {pc2 : Nat} {S2 : zS} {e1 : zE}, some (pc2, S2, M ++ [e1]) = some (pc1, S1, M1) → (cells + 1 ≤ R.cells ∧ slots + z_cz e1 ≤ R.slots) ∧ ∀ H1, z_Rl G r base ro s.heap (M ++ [e1]) H1 locs → W p l e R s m args below meth c H1 locs (cells + 1) (slots + z_cz e1) Q (F0 m pc2 ls (S2.map (z_sh (z_ad r base)))) := by
    intro pc2 S2 e1 h
    cases h
    have e2 : (M ++ [e1]).length - M.length = 1 := by simp
    have e3 : z_sz (M ++ [e1]) - z_sz M = z_cz e1 := by rw [z_sz_push]; omega
    rw [e2, e3] at kk
    rw [e2] at hc
    rw [e3] at hs
    exact ⟨⟨hc, hs⟩, fun H1 h1 => kk H1 locs h1⟩
  cases i
  case ldc k =>
    obtain rfl : len = 2 := hlen
    dsimp only [z_s2] at hst
    obtain ⟨q, hq, h⟩ := Option.map_eq_some_iff.mp hst
    exact lv_ldc X.1 X.2.1 X.2.2.2.1 (X.2.2.2.2.1 _ (z_in_mem (z_ld_ok _ (z_find_mem hq)))) hdg (same (congrArg some h))
  case ldc_w k =>
    obtain rfl : len = 3 := hlen
    dsimp only [z_s2] at hst
    obtain ⟨q, hq, h⟩ := Option.map_eq_some_iff.mp hst
    exact lv_ldcw X.1 X.2.1 X.2.2.2.1 (X.2.2.2.2.1 _ (z_in_mem (z_ld_ok _ (z_find_mem hq)))) hdg (same (congrArg some h))
  case ldc2_w k =>
    obtain rfl : len = 3 := hlen
    dsimp only [z_s2] at hst
    obtain ⟨q, hq, h⟩ := Option.map_eq_some_iff.mp hst
    exact lv_ldc2 X.1 X.2.1 X.2.2.2.1 (X.2.2.2.2.1 _ (z_in_mem (z_l2_ok _ (z_find_mem hq)))) hdg (same (congrArg some h))
  case getstatic k =>
    obtain rfl : len = 3 := hlen
    dsimp only [z_s2] at hst
    obtain ⟨q, hq, h⟩ := Option.map_eq_some_iff.mp hst
    exact z_gets X hR hRl hq hdg (same (congrArg some h))
  case getfield k =>
    obtain rfl : len = 3 := hlen
    dsimp only [z_s2] at hst
    split at hst
    · split at hst
      · rename_i hM hq
        split at hst
        · rename_i hci
          obtain ⟨v, hv, h⟩ := Option.map_eq_some_iff.mp hst
          exact z_getf X hRl hM hq hci.1 hci.2 hv hdg (same (congrArg some h))
        · cases hst
      · cases hst
    · cases hst
  case putfield k =>
    obtain rfl : len = 3 := hlen
    dsimp only [z_s2] at hst
    split at hst
    · split at hst
      · rename_i hM hq
        split at hst
        · rename_i hci
          exact z_putf X hRl hM hq hci.1 hci.2.1 hci.2.2.1 hci.2.2.2.1 hci.2.2.2.2 hdg (put hM rfl hst)
        · cases hst
      · cases hst
    · cases hst
  case new k =>
    obtain rfl : len = 3 := hlen
    dsimp only [z_s2] at hst
    obtain ⟨q, hq, h⟩ := Option.map_eq_some_iff.mp hst
    obtain ⟨h1, h2⟩ := more (congrArg some h)
    exact z_newo X hRl hq hdg h1.1 h1.2 h2
  case newarray t =>
    obtain rfl : len = 2 := hlen
    dsimp only [z_s2] at hst
    split at hst
    · split at hst
      · cases hst
      · rename_i hn
        split at hst
        · obtain ⟨h1, h2⟩ := more hst
          exact z_newi X hRl hn hdg h1.1 h1.2 h2
        · obtain ⟨h1, h2⟩ := more hst
          exact z_newl X hRl hn hdg h1.1 h1.2 h2
        · cases hst
    · cases hst
  case anewarray k =>
    obtain rfl : len = 3 := hlen
    dsimp only [z_s2] at hst
    split at hst
    · split at hst
      · cases hst
      · rename_i hn
        obtain ⟨q, hq, h⟩ := Option.map_eq_some_iff.mp hst
        obtain ⟨h1, h2⟩ := more (congrArg some h)
        exact z_newr X hRl hq hn hdg h1.1 h1.2 h2
    · cases hst
  case arraylength =>
    obtain rfl : len = 1 := hlen
    dsimp only [z_s2] at hst
    split at hst
    · split at hst
      · rename_i hM
        exact z_alen X hR hRl hM hdg (same hst)
      · cases hst
    · cases hst
  case iaload =>
    obtain rfl : len = 1 := hlen
    dsimp only [z_s2] at hst
    split at hst
    · split at hst
      · rename_i hM
        split at hst
        · cases hst
        · rename_i hi
          exact z_iald X hR hRl hM hi hdg (same hst)
      · cases hst
    · cases hst
  case laload =>
    obtain rfl : len = 1 := hlen
    dsimp only [z_s2] at hst
    split at hst
    · split at hst
      · rename_i hM
        split at hst
        · cases hst
        · rename_i hi
          exact z_lald X hR hRl hM hi hdg (same hst)
      · cases hst
    · cases hst
  case aaload =>
    obtain rfl : len = 1 := hlen
    dsimp only [z_s2] at hst
    split at hst
    · split at hst
      · rename_i hM
        split at hst
        · cases hst
        · rename_i hi
          have hi1 : ¬ (_ ∨ _) := fun q => hi (q.elim Or.inl fun z => Or.inr (Or.inl z))
          have k := same hst
          rw [List.map_cons, z_sh_rf] at k
          exact z_aald X hRl hM hi1 (Nat.not_lt.mp fun q => hi (Or.inr (Or.inr (Or.inl q)))) (Nat.not_lt.mp fun q => hi (Or.inr (Or.inr (Or.inr q)))) hdg k
      · cases hst
    · cases hst
  case iastore =>
    obtain rfl : len = 1 := hlen
    dsimp only [z_s2] at hst
    split at hst
    · split at hst
      · rename_i hM
        split at hst
        · cases hst
        · rename_i hi
          have hi1 : ¬ (_ ∨ _) := fun q => hi (q.elim Or.inl fun z => Or.inr (Or.inl z))
          exact z_iast X hRl hM hi1 (Nat.not_lt.mp fun q => hi (Or.inr (Or.inr q))) hdg (put hM rfl hst)
      · cases hst
    · cases hst
  case lastore =>
    obtain rfl : len = 1 := hlen
    dsimp only [z_s2] at hst
    split at hst
    · split at hst
      · rename_i hM
        split at hst
        · cases hst
        · rename_i hi
          have hi1 : ¬ (_ ∨ _) := fun q => hi (q.elim Or.inl fun z => Or.inr (Or.inl z))
          exact z_last X hRl hM hi1 (Nat.not_lt.mp fun q => hi (Or.inr (Or.inr q))) hdg (put hM rfl hst)
      · cases hst
    · cases hst
  case aastore =>
    obtain rfl : len = 1 := hlen
    dsimp only [z_s2] at hst
    split at hst
    · split at hst
      · rename_i hM
        split at hst
        · cases hst
        · rename_i hi
          have hi1 : ¬ (_ ∨ _) := fun q => hi (q.elim Or.inl fun z => Or.inr (Or.inl z))
          exact z_aastN X hRl hM hi1 (Nat.not_lt.mp fun q => hi (Or.inr (Or.inr (Or.inl q)))) (Nat.not_lt.mp fun q => hi (Or.inr (Or.inr (Or.inr q)))) hdg (put hM rfl hst)
      · cases hst
    · split at hst
      · rename_i hM hV
        split at hst
        · cases hst
        · rename_i hi
          have hi1 : ¬ (_ ∨ _) := fun q => hi (q.elim Or.inl fun z => Or.inr (Or.inl z))
          exact z_aast X hRl hM hV hi1 (Nat.not_lt.mp fun q => hi (Or.inr (Or.inr (Or.inl q)))) (Nat.not_lt.mp fun q => hi (Or.inr (Or.inr (Or.inr (Or.inl q))))) (Classical.byContradiction fun q => hi (Or.inr (Or.inr (Or.inr (Or.inr q))))) hdg (put hM rfl hst)
      · cases hst
    · cases hst
  all_goals cases hst
theorem z_oi : Jvm.Cond.code Jvm.Lib.objectInit ⟨#[0xb1]⟩ 1 none ∈ z_tb := z_in_mem (p := 1027) (by decide +kernel)
theorem z_ws_sh (ad : Nat → Nat) (S : zS) : ((S.map (z_sh ad)).map fun v => v.category).sum = z_ws S := by
  unfold z_ws
  rw [List.map_map]
  congr 1
  exact List.map_congr_left fun v _ => z_sh_cat ad v
theorem z_s3_ok (X : z_Cx G p s m args meth c j) (hls : ls.size = z_ml j) {i : Instr} {len pc1 : Nat} {S S1 : zS} {M1 : zH} (hdg : decode (z_b j) pc = .ok (i, len)) (hlen : len = z_len i len) (hst : z_s3 (z_oc j) i pc S M = some (pc1, S1, M1))
    (hf : 1 ≤ R.frames) (ho : 40 ≤ R.locals) (hc : cells ≤ R.cells) (hs : slots ≤ R.slots)
    (kk : M1 = M → W p l e R s m args below meth c H locs cells slots Q (F0 m pc1 ls (S1.map (z_sh (z_ad r base))))) : W p l e R s m args below meth c H locs cells slots Q (F0 m pc ls (S.map (z_sh (z_ad r base)))) := by
  obtain ⟨hx, hb, hml, hown, hts, hnm, hK⟩ := X
  cases i
  case invokespecial k =>
    obtain rfl : len = 3 := hlen
    dsimp only [z_s3] at hst
    split at hst
    · rename_i hq
      split at hst
      · rename_i hw
        cases hst
        have h1 := z_cI_ok _ (z_find_mem hq)
        dsimp only [z_okI] at h1
        split at h1
        all_goals first | (rename_i h2; cases h2; done) | skip
        all_goals first | (exact absurd h1 (by decide)) | skip
        simp only [Bool.and_eq_true, decide_eq_true_eq] at h1
        obtain ⟨he, h2⟩ := h1
        rw [he] at h2
        have h3 := z_ins_mem h2
        refine W.objInit hx hb hown (hts _ (h3 _ (by simp))) (hts _ (h3 _ (by simp))) (hts _ z_oi) rfl (by rw [hml]; exact hls) rfl hdg hf ?_ (kk rfl)
        rw [z_ws_sh]
        show 2 * 0 + _ + 12 ≤ _
        omega
      · cases hst
    · cases hst
  case invokestatic k =>
    obtain rfl : len = 3 := hlen
    dsimp only [z_s3] at hst
    split at hst
    · rename_i hq
      split at hst
      · split at hst
        · rename_i hw
          cases hst
          have h1 := z_cS_ok _ (z_find_mem hq)
          dsimp only [z_okS] at h1
          split at h1
          all_goals first | (rename_i h2; cases h2; done) | skip
          all_goals first | (exact absurd h1 (by decide)) | skip
          simp only [Bool.and_eq_true, decide_eq_true_eq] at h1
          obtain ⟨he, h2⟩ := h1
          rw [he] at h2
          have h3 := z_ins_mem h2
          refine va_mmax hx hb (by rw [hml]; exact hls.symm) hown (hts _ (h3 _ (by simp))) (hts _ (h3 _ (by simp))) (hts _ (h3 _ (by simp))) (hts _ (h3 _ (by simp))) hf ?_ hc hs hdg (kk rfl)
          rw [z_ws_sh]
          omega
        · cases hst
      · cases hst
    · rename_i hq
      split at hst
      · split at hst
        · rename_i hw
          cases hst
          have h1 := z_cS_ok _ (z_find_mem hq)
          dsimp only [z_okS] at h1
          split at h1
          all_goals first | (rename_i h2; cases h2; done) | skip
          all_goals first | (exact absurd h1 (by decide)) | skip
          simp only [Bool.and_eq_true, decide_eq_true_eq] at h1
          obtain ⟨he, h2⟩ := h1
          rw [he] at h2
          have h3 := z_ins_mem h2
          refine va_mmin hx hb (by rw [hml]; exact hls.symm) hown (hts _ (h3 _ (by simp))) (hts _ (h3 _ (by simp))) (hts _ (h3 _ (by simp))) (hts _ (h3 _ (by simp))) hf ?_ hc hs hdg (kk rfl)
          rw [z_ws_sh]
          omega
        · cases hst
      · cases hst
    · cases hst
  all_goals cases hst
theorem z_nfw : nativeFrameWords "java/lang/System" "arraycopy" 5 ≤ 20 := by decide +kernel
theorem z_s4_ok (X : z_Cx G p s m args meth c j) (hRl : z_Rl G r base ro s.heap M H locs) (hls : ls.size = z_ml j) {i : Instr} {len pc1 : Nat} {S S1 : zS} {M1 : zH} (hdg : decode (z_b j) pc = .ok (i, len)) (hlen : len = z_len i len) (hst : z_s4 (z_oc j) i pc S M = some (pc1, S1, M1))
    (hf : 1 ≤ R.frames) (ho : 40 ≤ R.locals) (kk : ∀ H1 locs1, z_Rl G r base ro s.heap M1 H1 locs1 → W p l e R s m args below meth c H1 locs1 cells slots Q (F0 m pc1 ls (S1.map (z_sh (z_ad r base))))) : W p l e R s m args below meth c H locs cells slots Q (F0 m pc ls (S.map (z_sh (z_ad r base)))) := by
  cases i
  case invokestatic k =>
    obtain rfl : len = 3 := hlen
    dsimp only [z_s4] at hst
    split at hst
    · rename_i hq
      split at hst
      · rename_i hcp
        split at hst
        · rename_i hw
          cases hst
          have h1 := z_cS_ok _ (z_find_mem hq)
          dsimp only [z_okS] at h1
          split at h1
          all_goals first | (rename_i h2; cases h2; done) | skip
          all_goals first | (exact absurd h1 (by decide)) | skip
          simp only [Bool.and_eq_true, decide_eq_true_eq] at h1
          obtain ⟨he, -, h2⟩ := h1
          rw [he] at h2
          have h3 := z_ins_mem h2
          have hts := X.2.2.2.2.1
          unfold z_copy at hcp
          split at hcp
          · split at hcp
            · rename_i hA hB
              split at hcp
              · cases hcp
              · rename_i hg
                cases hcp
                simp only [not_or, Nat.not_lt] at hg
                obtain ⟨g1, g2, g3, g4, g5, g6, g7⟩ := hg
                refine z_acopy X hRl hls hA hB g4 g5 g1 g2 g3 g6 g7 (hts _ (h3 _ (by simp))) (hts _ (h3 _ (by simp))) (hts _ (h3 _ (by simp))) (hts _ (h3 _ (by simp [arraycopyName]))) hf ?_ hdg kk
                have h4 := z_nfw
                rw [z_ws_sh]
                omega
            · cases hcp
          · cases hcp
        · cases hst
      · cases hst
    · cases hst
  all_goals cases hst
end ZST
