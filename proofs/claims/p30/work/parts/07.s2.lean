/-! one step over the heap: the machine follows the mini-VM -/
def z_cz (e : zE) : Nat := match e with
  | .inl (_, (n, _)) => n
  | .inr (ci, _) => z_nf ci
def z_sz (M : zH) : Nat := (M.map z_cz).sum
theorem z_sz_set : ∀ {M : zH} {a : Nat} {e e' : zE}, M[a]? = some e → z_cz e' = z_cz e → z_sz (M.set a e') = z_sz M
  | [], a, e, e', h, _ => by simp at h
  | x :: M, 0, e, e', h, he => by
    cases h
    show z_cz e' + _ = z_cz x + _
    rw [he]
  | x :: M, a + 1, e, e', h, he => by
    have := z_sz_set (M := M) (a := a) (e := e) (e' := e') h he
    show z_cz x + z_sz (M.set a e') = z_cz x + z_sz M
    rw [this]
theorem z_sz_push (M : zH) (e : zE) : z_sz (M ++ [e]) = z_sz M + z_cz e := by simp [z_sz]
/-- the machine inside method j -/
def z_Cx (G : zG) (p : Program) (s : State) (m : MethodId) (args : Array Value) (meth : Method) (c : Code) (j : Nat) : Prop :=
  p.tables.exec = Jvm.exec ∧ c.code = z_b j ∧ c.maxLocals = z_ml j ∧ s.vm.findClass (z_cn (z_oc j)) = some m.cls ∧ (∀ w ∈ z_tb, w.before args s = true) ∧ (((z_name j).name == "<init>") = true → meth.name = "<init>") ∧ z_K G s
theorem z_at.kept {G : zG} {ad : Nat → Nat} {k : Nat} {e : zE} {H H1 : Heap} (h : z_at G ad k e H) (hq : H1[ad k]? = H[ad k]?) : z_at G ad k e H1 := by
  cases e with
  | inl q => exact ⟨h.1, hq.trans h.2⟩
  | inr q =>
    obtain ⟨r, h1, h2⟩ := h
    exact ⟨r, h1, h2.kept hq⟩
theorem z_at.lt {G : zG} {ad : Nat → Nat} {k : Nat} {e : zE} {H : Heap} (h : z_at G ad k e H) : ad k < H.size := by
  cases e with
  | inl q => exact (Array.getElem?_eq_some_iff.mp h.2).1
  | inr q =>
    obtain ⟨r, h1, cell, h2, -⟩ := h
    exact (Array.getElem?_eq_some_iff.mp h2).1
theorem z_ad_ge {r : Nat → Nat} {base k : Nat} (h : 4 ≤ k) : z_ad r base k = base + (k - 4) := by
  unfold z_ad
  rw [if_neg (by omega)]
theorem z_ad_lt {r : Nat → Nat} {base k : Nat} (h : k < 4) : z_ad r base k = r k := by
  unfold z_ad
  rw [if_pos h]
theorem z_Rl.set {G : zG} {r : Nat → Nat} {base : Nat} {ro : zH} {H0 : Heap} {M : zH} {H H1 : Heap} {locs locs1 : List Loc} (h : z_Rl G r base ro H0 M H locs) {k : Nat} {e' : zE} (hk : 4 ≤ k) (hat : z_at G (z_ad r base) k e' H1) (hz : H1.size = H.size) (hq : ∀ q, q ≠ z_ad r base k → H1[q]? = H[q]?) (hS : va_S (z_A base) H0 H1 locs1) : z_Rl G r base ro H0 (M.set k e') H1 locs1 := by
  obtain ⟨h1, h2, h3, h4, h5, h6⟩ := h
  refine ⟨by rw [hz, List.length_set]; exact h1, by rw [List.length_set]; exact h2, ?_, fun j x hj hx => ?_, hS, h6⟩
  · rw [List.take_set_of_le hk]
    exact h3
  · by_cases hjk : j = k
    · subst hjk
      rw [List.getElem?_set] at hx
      simp only [if_true] at hx
      split at hx
      · cases hx; exact hat
      · cases hx
    · rw [List.getElem?_set_ne (Ne.symm hjk)] at hx
      refine (h4 j x hj hx).kept (hq _ ?_)
      rw [z_ad_ge hj, z_ad_ge hk]
      omega
theorem z_Rl.push {G : zG} {r : Nat → Nat} {base : Nat} {ro : zH} {H0 : Heap} {M : zH} {H H1 : Heap} {locs : List Loc} (h : z_Rl G r base ro H0 M H locs) {e' : zE} (hat : z_at G (z_ad r base) M.length e' H1) (hz : H1.size = H.size + 1) (hq : ∀ q, q < H.size → H1[q]? = H[q]?) : z_Rl G r base ro H0 (M ++ [e']) H1 locs := by
  obtain ⟨h1, h2, h3, h4, h5, h6⟩ := h
  refine ⟨by rw [hz, List.length_append]; simp only [List.length_cons, List.length_nil]; omega, by rw [List.length_append]; omega, ?_, fun j x hj hx => ?_, ⟨Nat.le_trans h5.1 (by omega), fun q g1 g2 => (hq q (Nat.lt_of_lt_of_le g1 h5.1)).trans (h5.2.1 q g1 g2), h5.2.2⟩, h6⟩
  · rw [List.take_append_of_le_length h2]
    exact h3
  · by_cases hl : j < M.length
    · rw [List.getElem?_append_left hl] at hx
      have h7 := h4 j x hj hx
      exact h7.kept (hq _ h7.lt)
    · rw [List.getElem?_append_right (by omega)] at hx
      have hz1 : j - M.length < 1 := (List.getElem?_eq_some_iff.mp hx).1
      rw [show j - M.length = 0 by omega] at hx
      cases hx
      rw [show j = M.length by omega]
      exact hat
theorem z_Rl.next {G : zG} {r : Nat → Nat} {base : Nat} {ro : zH} {H0 : Heap} {M : zH} {H : Heap} {locs : List Loc} (h : z_Rl G r base ro H0 M H locs) : z_ad r base M.length = H.size := by
  obtain ⟨h1, h2, -⟩ := h
  rw [z_ad_ge h2]
  omega
theorem z_A_in {r : Nat → Nat} {base k : Nat} (h : 4 ≤ k) : z_A base (z_ad r base k) := by
  rw [z_ad_ge h]
  exact Nat.le_add_right _ _
/-- what a field's entry says -/
theorem z_fl_use {G : zG} {p : Program} {s : State} {m : MethodId} {args : Array Value} {meth : Method} {c : Code} {j : Nat} (X : z_Cx G p s m args meth c j) {idx ci : Nat} {q : (Nat × List Nat) × (String × String × String × String) × (Nat × Nat)} (h : z_find z_fl (z_oc j) idx = some q) (hci : ci ∈ q.1.2) :
    ∃ (w : vw_C) (ref : String), z_cl[ci]? = some w ∧ q.1.1 < w.2.2 ∧ (∀ u ∈ u_ws w.1 w.2.1 w.2.2, u ∈ z_tb) ∧ (w.2.1 q.1.1).1 = q.2.1.2.1 ∧ (Jvm.Cond.fieldLink (z_cn (z_oc j)) idx ref (w.2.1 q.1.1).2.1 (w.2.1 q.1.1).2.2.1).before args s = true ∧
      (∀ x, s.fieldFound? (w.2.1 q.1.1).1 (w.2.1 q.1.1).2.1 (w.2.1 q.1.1).2.2.1 = some x → s.fieldFound? ref (w.2.1 q.1.1).2.1 (w.2.1 q.1.1).2.2.1 = some x) := by
  obtain ⟨-, -, -, -, hts, -, -⟩ := X
  have h1 := z_fl_ok _ (z_find_mem h)
  obtain ⟨⟨k, cis⟩, ⟨ref, decl, name, desc⟩, ⟨p1, p2⟩⟩ := q
  dsimp only [z_okf] at h1 hci ⊢
  simp only [Bool.and_eq_true, List.all_eq_true, Bool.or_eq_true, decide_eq_true_eq] at h1
  obtain ⟨h1, h2, h3⟩ := h1
  have h4 := h3 ci hci
  cases hw : z_cl[ci]? with
  | none => rw [hw] at h4; cases h4
  | some w =>
    rw [hw] at h4
    simp only [decide_eq_true_eq] at h4
    obtain ⟨h5, h6, h7, h8⟩ := h4
    refine ⟨w, ref, rfl, h5, fun u hu => ?_, h6, ?_, ?_⟩
    · have := z_lay_all w (List.mem_of_getElem? hw) u hu
      exact List.mem_filter.mpr this
    · rw [h7, h8]
      exact hts _ (z_in_mem h1)
    · rw [h6, h7, h8]
      rcases h2 with h2 | h2
      · intro x hx
        rw [h2]
        exact hx
      · exact u_same (hts _ (z_in_mem h2))
theorem z_okc_use {ci : Nat} {w : vw_C} (h : z_cl[ci]? = some w) : w.1 = z_cn ci ∧ (∀ k, k < w.2.2 → parseFieldDescriptor (w.2.1 k).2.2.1 = some (z_fty ci k)) ∧ (∀ a, a < w.2.2 → ∀ b, b < w.2.2 → a ≠ b → (w.2.1 a).2.1 ≠ (w.2.1 b).2.1) := by
  have hl : ci < 13 := (List.getElem?_eq_some_iff.mp h).1
  have h1 := z_okc_all ci hl
  unfold z_okc at h1
  rw [h] at h1
  simp only [Bool.and_eq_true, List.all_eq_true, Bool.or_eq_true, decide_eq_true_eq, List.mem_range] at h1
  obtain ⟨h1, h2⟩ := h1
  exact ⟨h1, fun k hk => (h2 k hk).1, fun a ha b hb hab => ((h2 a ha).2 b hb).resolve_left hab⟩
theorem z_fit_ok {ty : FieldType} {v : Value} (ad : Nat → Nat) (h : z_fit ty v = true) : narrow ty (z_sh ad v) = z_sh ad v ∧ fits ty (z_sh ad v) = true := by
  cases ty <;> cases v <;> first | exact ⟨rfl, rfl⟩ | (simp [z_fit] at h; done) | skip
  rename_i x
  simp only [z_fit, Bool.or_eq_true, beq_iff_eq] at h
  rcases h with rfl | rfl
  · show narrow .boolean (.int 0) = .int 0 ∧ fits .boolean (.int 0) = true
    exact ⟨by decide, by decide⟩
  · show narrow .boolean (.int 1) = .int 1 ∧ fits .boolean (.int 1) = true
    exact ⟨by decide, by decide⟩
theorem z_fs_get {ad : Nat → Nat} {fs : List Value} {k : Nat} {v : Value} (h : fs[k]? = some v) : (fs.map (z_sh ad))[k]? = some (z_sh ad v) := by rw [List.getElem?_map, h]; rfl
theorem z_fs_set {ad : Nat → Nat} (fs : List Value) (k : Nat) (v : Value) : (fs.set k v).map (z_sh ad) = (fs.map (z_sh ad)).set k (z_sh ad v) := by rw [List.map_set]
section ZS2
variable {p : Program} {l : Launch} {e : Env} {R : Room} {s : State} {m : MethodId} {args : Array Value} {below : List Frame} {meth : Method} {c : Code} {H : Heap} {locs : List Loc} {cells slots : Nat} {Q : State → Prop}
variable {G : zG} {r : Nat → Nat} {base : Nat} {ro M : zH} {pc : Nat} {ls : Array Slot} {j : Nat}
/-- a field is read -/
theorem z_getf (X : z_Cx G p s m args meth c j) (hRl : z_Rl G r base ro s.heap M H locs) {idx a ci : Nat} {fs : List Value} {v : Value} {rest : List Value} {q : (Nat × List Nat) × (String × String × String × String) × (Nat × Nat)} (hM : M[a]? = some (.inr (ci, fs))) (hq : z_find z_fl (z_oc j) idx = some q) (hci : ci ∈ q.1.2) (ha : 4 ≤ a) (hv : fs[q.1.1]? = some v) (hdg : decode (z_b j) pc = .ok (.getfield idx, 3))
    (kk : W p l e R s m args below meth c H locs cells slots Q (F0 m (pc + 3) ls (z_sh (z_ad r base) v :: rest))) : W p l e R s m args below meth c H locs cells slots Q (F0 m pc ls (.ref (z_ad r base a) :: rest)) := by
  obtain ⟨w, ref, hw, hk, hin, hd, hlink, hsame⟩ := z_fl_use X hq hci
  obtain ⟨hx, hb, hml, hown, hts, hnm, hK⟩ := X
  obtain ⟨C, T, N⟩ := w
  have hP : va_P (G.1, G.2.1) z_cl [(z_ad r base a, .inr (ci, fs.map (z_sh (z_ad r base))))] H := by
    intro k x hx
    have hz : k < 1 := (List.getElem?_eq_some_iff.mp hx).1
    rw [show k = 0 by omega] at hx
    cases hx
    exact hRl.2.2.2.1 a _ ha hM
  have hKa : va_K (G.1, G.2.1) z_cl [] s := ⟨hK.1, fun k x h => by simp at h⟩
  exact va_get (ci := ci) hx hb hts hin hown hKa hP 0 rfl hw q.1.1 hk hlink hsame (z_fs_get hv) hdg kk
/-- a field is written -/
theorem z_putf (X : z_Cx G p s m args meth c j) (hRl : z_Rl G r base ro s.heap M H locs) {idx a ci : Nat} {fs : List Value} {v : Value} {rest : List Value} {q : (Nat × List Nat) × (String × String × String × String) × (Nat × Nat)} (hM : M[a]? = some (.inr (ci, fs))) (hq : z_find z_fl (z_oc j) idx = some q) (hci : ci ∈ q.1.2) (ha : 4 ≤ a) (hfit : z_fit (z_fty ci q.1.1) v = true) (hl : q.1.1 < fs.length)
    (hfin : ((z_cl[ci]?).map fun w => (w.2.1 q.1.1).2.2.2) = some false ∨ (((z_name j).name == "<init>") = true ∧ q.2.1.2.1 = z_cn (z_oc j))) (hdg : decode (z_b j) pc = .ok (.putfield idx, 3))
    (kk : ∀ H1 locs1, z_Rl G r base ro s.heap (M.set a (.inr (ci, fs.set q.1.1 v))) H1 locs1 → W p l e R s m args below meth c H1 locs1 cells slots Q (F0 m (pc + 3) ls rest)) : W p l e R s m args below meth c H locs cells slots Q (F0 m pc ls (z_sh (z_ad r base) v :: .ref (z_ad r base a) :: rest)) := by
  obtain ⟨w, ref, hw, hk, hin, hd, hlink, hsame⟩ := z_fl_use X hq hci
  obtain ⟨hx, hb, hml, hown, hts, hnm, hK⟩ := X
  obtain ⟨-, hty, hne⟩ := z_okc_use hw
  obtain ⟨C, T, N⟩ := w
  have hKa : va_K (G.1, G.2.1) z_cl [] s := ⟨hK.1, fun k x h => by simp at h⟩
  have hap := va_apart (own := z_cn (z_oc j)) hts hin (z_fty ci) hty hne hKa hw
  obtain ⟨r', h1, cell, q1, q2, q3, q4⟩ := hRl.2.2.2.1 a _ ha hM
  have hr : r' = (C, T, N) := Option.some.inj (h1.symm.trans hw)
  subst hr
  obtain ⟨hn, hf⟩ := z_fit_ok (z_ad r base) hfit
  obtain ⟨hS, hfc, kC, hkC, hkind⟩ := hK.1 ci _ hw
  obtain ⟨cf, kf, fi, f, hi, hsl⟩ := hS q.1.1 hk
  have hl' : q.1.1 < (fs.map (z_sh (z_ad r base))).length := by rw [List.length_map]; exact hl
  have hlay := hts _ (hin _ (u_in_lay hk))
  have hst := (u_facts hfc hkC (u_lays hts hin hk) hi).1
  have fin : ∀ H' : Heap, H'[z_ad r base a]? = some (cell.setSlot f.slot (z_sh (z_ad r base) v)) → H'.size = H.size → (∀ q, q ≠ z_ad r base a → H'[q]? = H[q]?) → W p l e R s m args below meth c H' (locs ++ [⟨z_ad r base a, f.slot⟩]) cells slots Q (F0 m (pc + 3) ls rest) := by
    intro H' e1 e2 e3
    rw [hsl] at e1 ⊢
    refine kk H' _ (hRl.set ha ?_ e2 e3 (hRl.2.2.2.2.1.put e2 e3 (z_A_in ha)))
    refine ⟨_, hw, ?_⟩
    rw [z_fs_set]
    exact t_OB.to (V := updV (vp_V (fs.map (z_sh (z_ad r base)))) q.1.1 (z_sh (z_ad r base) v)) ⟨_, e1, q2, q3, t_set q4 hap hk _⟩ (fun i _ => vp_updV_set hl' _ i)
  by_cases hff : (T q.1.1).2.2.2 = true
  · rcases hfin with hfin | hfin
    · rw [hw] at hfin
      have hz : (T q.1.1).2.2.2 = false := Option.some.inj hfin
      rw [hz] at hff
      cases hff
    · unfold u_lay at hlay
      rw [if_pos hff] at hlay
      have hin2 : meth.name = "<init>" := hnm hfin.1
      have hcf : m.cls = cf := by
        obtain ⟨_, _, c', _, _, _, -, -, hf', -, -, -, hown2, -⟩ := Cond.laysFinal_spec hlay
        have e1 : c' = cf := by have := hi.symm.trans hf'; simp at this; exact this.1.symm
        have hdo : (T q.1.1).1 = z_cn (z_oc j) := hd.trans hfin.2
        rw [hdo] at hown2
        rw [← e1]; exact Option.some.inj (hown.symm.trans hown2)
      have h6 := u_fits hfc hkC hkind (Or.inr hlay) hi (hty _ hk) hn hf
      exact W.putFinK hx hb hown hlink (hsame _ hi) hst hcf hin2 (by rw [q2]; exact h6) q1 q3 (by rw [hsl]; exact k2_hasslot (q4 _ hk)) rfl rfl hdg fin
  · unfold u_lay at hlay
    rw [if_neg hff] at hlay
    have h6 := u_store hfc hkC hkind hlay hi (hty _ hk) hn hf
    exact W.putK hx hb (f := f) ⟨hown, hlink, ⟨_, _, _, hsame _ hi⟩, hst⟩ (by rw [q2]; exact h6) q1 q3 (by rw [hsl]; exact k2_hasslot (q4 _ hk)) rfl rfl hdg fin
theorem z_newo (X : z_Cx G p s m args meth c j) (hRl : z_Rl G r base ro s.heap M H locs) {idx : Nat} {rest : List Value} {q : Nat × (Nat × Nat × Nat)} (hq : z_find z_nw (z_oc j) idx = some q) (hdg : decode (z_b j) pc = .ok (.new idx, 3)) (hc : cells + 1 ≤ R.cells) (hs : slots + z_nf q.1 ≤ R.slots)
    (kk : ∀ H1, z_Rl G r base ro s.heap (M ++ [.inr (q.1, z_blank q.1)]) H1 locs → W p l e R s m args below meth c H1 locs (cells + 1) (slots + z_nf q.1) Q (F0 m (pc + 3) ls (.ref (z_ad r base M.length) :: rest))) : W p l e R s m args below meth c H locs cells slots Q (F0 m pc ls rest) := by
  obtain ⟨hx, hb, hml, hown, hts, hnm, hK⟩ := X
  have h1 := z_nw_ok _ (z_find_mem hq)
  obtain ⟨ci, p1, p2, p3⟩ := q
  dsimp only [z_okn] at h1 hs kk
  simp only [Bool.and_eq_true, decide_eq_true_eq] at h1
  obtain ⟨h0, h1, h2, h3⟩ := h1
  cases hw : z_cl[ci]? with
  | none => exact absurd h0 (Nat.not_lt.mpr (List.getElem?_eq_none_iff.mp hw))
  | some w =>
    obtain ⟨hcn, hty, hne⟩ := z_okc_use hw
    obtain ⟨C, T, N⟩ := w
    have hN : z_nf ci = N := by unfold z_nf; rw [hw]; rfl
    rw [hN] at hs kk h2
    have hin : ∀ u ∈ u_ws C T N, u ∈ z_tb := fun u hu => List.mem_filter.mpr (z_lay_all _ (List.mem_of_getElem? hw) u hu)
    have hKn := hK.1 ci _ hw
    have hcn' : C = z_cn ci := hcn
    rw [← hcn'] at h1 h2 h3
    have hnx := hRl.next
    refine W.newcK hx hb hown (hts _ (z_in_mem h1)) (hts _ (z_in_mem h2)) (hts _ (z_in_mem h3)) rfl hdg hc hs hKn.2.1 hnx.symm fun H1 kC hkC e1 z1 o1 => ?_
    refine kk H1 (hRl.push ⟨_, hw, ?_⟩ (by rw [z1, hnx]) (fun q hq' => o1 q (by rw [hnx]; exact hq')))
    refine (u_born (z_fty ci) hts hin hKn hkC e1 hty).to (fun k hk => ?_)
    show defaultValue (z_fty ci k) = ((z_blank ci).map (z_sh (z_ad r base))).getD k .null
    have hb2 : (z_blank ci)[k]? = some (z_dv (z_fty ci k)) := by
      unfold z_blank
      rw [hN]
      simp only [List.getElem?_map]
      rw [List.getElem?_range hk]
      rfl
    rw [List.getD_eq_getElem?_getD, z_fs_get hb2]
    have hok : z_tyk (z_fty ci k) = true := by
      have hl : ci < 13 := (List.getElem?_eq_some_iff.mp hw).1
      have h9 := z_tyk_all ci hl k (by rw [hN]; exact hk)
      exact h9
    revert hok
    cases z_fty ci k <;> intro hok <;> first | rfl | (simp [z_tyk] at hok; done)
end ZS2
