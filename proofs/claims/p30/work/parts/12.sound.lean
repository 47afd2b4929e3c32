/-! the whole -/
section ZSO
variable {p : Program} {l : Launch} {e : Env} {R : Room} {s : State} {m : MethodId} {args : Array Value} {below : List Frame} {meth : Method} {c : Code} {H : Heap} {locs : List Loc} {cells slots : Nat} {Q : State → Prop}
variable {G : zG} {r : Nat → Nat} {base : Nat} {ro M M1 : zH} {pc : Nat} {ls : Array Slot} {j : Nat}
/-- the end of a method under contract -/
theorem z_ret (X : z_Cx G p s m args meth c j) (hr : meth.sig.returnType = z_rt j) (hlocks : meth.locks = false) (hRl : z_Rl G r base ro s.heap M H locs) {i : Instr} {len : Nat} {S : zS} {v : Option Value} (hdg : decode (z_b j) pc = .ok (i, len)) (hlen : len = z_len i len) (he : z_end j i S = some v) :
    W p l e R s m args below meth c H locs cells slots (MQ below (z_Qc G r base ro v M) args s cells slots (z_A base)) (F0 m pc ls (S.map (z_sh (z_ad r base)))) := by
  obtain ⟨hx, hb, hml, hown, hts, hnm, hK⟩ := X
  have hf : ∀ q ∈ locs, z_A base q.base := hRl.2.2.2.2.1.2.2
  have hq : ∀ t : State, t.heap = H → s.WarmedH t.vm → z_Qc G r base ro v M args s (.returned (v.map (z_sh (z_ad r base)))) t := by
    intro t ht _
    obtain ⟨h1, h2, h3, h4, h5, h6⟩ := hRl
    refine ⟨rfl, ?_⟩
    rw [ht]
    exact ⟨h1, h2, h3, h4, ⟨h5.1, h5.2.1, fun _ h => by cases h⟩, h6⟩
  unfold z_end at he
  split at he
  · rename_i hz
    cases he
    obtain rfl : len = 1 := hlen
    rw [hz] at hr
    exact W.vret hx hb hr hq hf hdg hlocks
  · rename_i hz
    cases he
    obtain rfl : len = 1 := hlen
    rw [hz] at hr
    exact W.iret hx hb hr hq hf hdg hlocks
  · rename_i hz
    split at he
    · rename_i hv
      cases he
      obtain rfl : len = 1 := hlen
      rw [hz] at hr
      refine W.zret hx hb hr ?_ hq hf hdg hlocks
      rcases hv with rfl | rfl
      · decide
      · decide
    · cases he
  · rename_i hz
    cases he
    obtain rfl : len = 1 := hlen
    rw [hz] at hr
    exact W.lret hx hb hr hq hf hdg hlocks
  · rename_i hz
    cases he
    obtain rfl : len = 1 := hlen
    rw [hz] at hr
    exact W.aret hx hb hr (Or.inl ⟨_, rfl⟩) (Or.inr ⟨_, rfl⟩) hq hf hdg hlocks
  · rename_i hz
    cases he
    obtain rfl : len = 1 := hlen
    rw [hz] at hr
    exact W.aret hx hb hr (Or.inl ⟨_, rfl⟩) (Or.inl rfl) hq hf hdg hlocks
  · cases he
end ZSO
/-- A RUN OF THE MINI-VM IS A RUN OF THE MACHINE, from any place of any method -/
theorem z_sound (l : Launch) (G : zG) (r : Nat → Nat) (base : Nat) (ro : zH) : ∀ (n : Nat) {p : Program} {e : Env} {R : Room} {s : State} {m : MethodId} {args : Array Value} {below : List Frame} {meth : Method} {c : Code} {Q : State → Prop} {j d pc : Nat} {L : zL} {S : zS} {M M1 : zH} {v : Option Value} {H : Heap} {locs : List Loc} {cells slots : Nat} {ls : Array Slot},
    z_Cx G p s m args meth c j → z_R r (z_A base) ro s s.heap → z_Rl G r base ro s.heap M H locs → z_lv (z_ad r base) ls (z_ml j) L → z_run n d j pc L S M = some (v, M1) →
    cells + (M1.length - M.length) ≤ R.cells → slots + (z_sz M1 - z_sz M) ≤ R.slots → d + 1 ≤ R.frames → 40 * (d + 1) ≤ R.locals →
    (∀ (pc2 len : Nat) (i : Instr) (S2 : zS) (H2 : Heap) (locs2 : List Loc) (ls2 : Array Slot), decode (z_b j) pc2 = .ok (i, len) → len = z_len i len → z_end j i S2 = some v → z_Rl G r base ro s.heap M1 H2 locs2 → W p l e R s m args below meth c H2 locs2 (cells + (M1.length - M.length)) (slots + (z_sz M1 - z_sz M)) Q (F0 m pc2 ls2 (S2.map (z_sh (z_ad r base))))) →
    W p l e R s m args below meth c H locs cells slots Q (F0 m pc ls (S.map (z_sh (z_ad r base)))) := by
  intro n
  induction n with
  | zero => intro p e R s m args below meth c Q j d pc L S M M1 v H locs cells slots ls X hR hRl hl hrun; cases hrun
  | succ n ih =>
    intro p e R s m args below meth c Q j d pc L S M M1 v H locs cells slots ls X hR hRl hl hrun hc hs hf ho fin
    unfold z_run at hrun
    split at hrun
    · cases hrun
    · rename_i i len hdg
      split at hrun
      · rename_i hlen
        split at hrun
        · rename_i v' he
          cases hrun
          have k := fin pc len i S H locs ls hdg hlen he hRl
          simp only [Nat.sub_self, Nat.add_zero] at k
          exact k
        · split at hrun
          · rename_i pc1 L1 S1 M2 hst
            have hm := z_st_mono hst
            have hm2 := z_run_mono n _ _ _ _ _ _ _ _ hrun
            have e1 : cells + (M2.length - M.length) + (M1.length - M2.length) = cells + (M1.length - M.length) := by omega
            have e2 : slots + (z_sz M2 - z_sz M) + (z_sz M1 - z_sz M2) = slots + (z_sz M1 - z_sz M) := by omega
            have go : ∀ (H2 : Heap) (locs2 : List Loc) (ls2 : Array Slot), z_Rl G r base ro s.heap M2 H2 locs2 → z_lv (z_ad r base) ls2 (z_ml j) L1 → W p l e R s m args below meth c H2 locs2 (cells + (M2.length - M.length)) (slots + (z_sz M2 - z_sz M)) Q (F0 m pc1 ls2 (S1.map (z_sh (z_ad r base)))) := by
              intro H2 locs2 ls2 h1 h2
              refine ih X hR h1 h2 hrun (by rw [e1]; exact hc) (by rw [e2]; exact hs) hf ho ?_
              rw [e1, e2]
              exact fin
            unfold z_st at hst
            split at hst
            · rename_i h1
              cases hst
              refine z_s1_ok X.1 X.2.1 hl hdg hlen h1 (fun ls1 h2 => ?_)
              have k := go H locs ls1 hRl h2
              simp only [Nat.sub_self, Nat.add_zero] at k
              exact k
            · split at hst
              · rename_i h1
                cases hst
                exact z_s2_ok X hR hRl hdg hlen h1 (by omega) (by omega) (fun H1 locs1 h2 => go H1 locs1 ls h2 hl)
              · split at hst
                · rename_i h1
                  cases hst
                  refine z_s3_ok X hl.1 hdg hlen h1 (by omega) (by omega) (by omega) (by omega) (fun h2 => ?_)
                  subst h2
                  have k := go H locs ls hRl hl
                  simp only [Nat.sub_self, Nat.add_zero] at k
                  exact k
                · split at hst
                  · rename_i h1
                    cases hst
                    obtain ⟨a1, a2⟩ := z_s4_len h1
                    refine z_s4_ok X hRl hl.1 hdg hlen h1 (by omega) (by omega) (fun H1 locs1 h2 => ?_)
                    have k := go H1 locs1 ls h2 hl
                    rw [a1, a2, Nat.sub_self, Nat.sub_self] at k
                    exact k
                  · cases hst
          · split at hrun
            · rename_i d1 kd k vs rst hcall
              split at hrun
              · rename_i hg
                split at hrun
                · rename_i v2 M2 hrun2
                  have hm := z_run_mono n _ _ _ _ _ _ _ _ hrun2
                  have hm2 := z_run_mono n _ _ _ _ _ _ _ _ hrun
                  have e1 : cells + (M2.length - M.length) + (M1.length - M2.length) = cells + (M1.length - M.length) := by omega
                  have e2 : slots + (z_sz M2 - z_sz M) + (z_sz M1 - z_sz M2) = slots + (z_sz M1 - z_sz M) := by omega
                  have hMet : 1 ≤ k → k < z_nm → Met l (z_name k) (z_wsj k) (z_rm d1 (M2.length - M.length) (z_sz M2 - z_sz M)) (z_Pc G r base ro vs M) (z_Qc G r base ro v2 M2) (M2.length - M.length) (z_sz M2 - z_sz M) (z_A base) := by
                    intro hk1 hk2
                    obtain ⟨g1, g2, g3, g4⟩ := z_okm_use hk2
                    refine Met.ofW (cc := z_b k) (maxL := z_ml k) (ret := z_rt k) g1 rfl ?_
                    intro p e s m args below meth c s₁ B hml hv
                    obtain ⟨rfl, hK, hR', hRl'⟩ := hv
                    have hts := atoms_spec (ws := z_wsj k) B.pre
                    have hown : s.vm.findClass (z_name k).cls = some m.cls := findClass_of_methodNamed B.named
                    have X' : z_Cx G p s m (vs.map (z_sh (z_ad r base))).toArray meth c k := ⟨B.exec, B.bytes, hml, by rw [g2]; exact hown, fun w hw => hts w (List.mem_cons_of_mem _ hw), fun h => by rw [(name_of_methodNamed B.named B.method).1]; exact eq_of_beq h, hK⟩
                    rw [lg_entry_eq]
                    refine ih X' hR' hRl' (z_lv_entry _ vs hg.2.2) hrun2 ?_ ?_ ?_ ?_ ?_
                    · show 0 + _ ≤ M2.length - M.length
                      omega
                    · show 0 + _ ≤ z_sz M2 - z_sz M
                      omega
                    · exact Nat.le_refl _
                    · exact Nat.le_refl _
                    · intro pc2 len2 i2 S2 H2 locs2 ls2 q1 q2 q3 q4
                      rw [Nat.zero_add, Nat.zero_add]
                      exact z_ret X' B.returns B.notSynchronized q4 q1 q2 q3
                  obtain ⟨a, hrr⟩ := z_callrun (l := l) (cells := cells) (slots := slots) (d1 := d1) X hR hRl hl.1 hdg hlen hcall hg.1 hMet (by omega) (by omega) ⟨by omega, by omega⟩
                  refine z_back hrr hRl (fun H2 locs2 h1 => ?_)
                  have k := ih X hR h1 hl hrun (by rw [e1]; exact hc) (by rw [e2]; exact hs) hf ho (by rw [e1, e2]; exact fin)
                  rw [List.map_append] at k
                  have hv2 : (v2.toList).map (z_sh (z_ad r base)) = (v2.map (z_sh (z_ad r base))).toList := by cases v2 <;> rfl
                  rw [hv2] at k
                  exact k
                · cases hrun
              · cases hrun
            · cases hrun
      · cases hrun
