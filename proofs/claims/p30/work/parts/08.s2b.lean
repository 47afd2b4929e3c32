/-! one step over the heap: arrays, constants, statics -/
theorem z_val_upd {ad : Nat → Nat} {n k : Nat} {f : Nat → Int32} {x : Int32} : updV (z_val ad (n, .inl f)) k (.int x) = z_val ad (n, .inl (upd f k x)) := by
  funext q
  by_cases hq : q = k
  · subst hq; simp [updV, upd, z_val]
  · simp [updV, upd, z_val, hq]
theorem z_val_updL {ad : Nat → Nat} {n k : Nat} {f : Nat → Int64} {x : Int64} : updV (z_val ad (n, .inr (.inl f))) k (.long x) = z_val ad (n, .inr (.inl (z_updL f k x))) := by
  funext q
  by_cases hq : q = k
  · subst hq; simp [updV, z_updL, z_val]
  · simp [updV, z_updL, z_val, hq]
theorem z_val_updR {ad : Nat → Nat} {n k : Nat} {f : Nat → Option Nat} {x : Option Nat} : updV (z_val ad (n, .inr (.inr f))) k (va_rf (x.map ad)) = z_val ad (n, .inr (.inr (z_updR f k x))) := by
  funext q
  by_cases hq : q = k
  · subst hq; simp [updV, z_updR, z_val]
  · simp [updV, z_updR, z_val, hq]
theorem z_sh_rf (ad : Nat → Nat) (o : Option Nat) : z_sh ad (va_rf o) = va_rf (o.map ad) := by cases o <;> rfl
theorem z_ro_get {ro M : zH} {a : Nat} {e : zE} (h : M.take 4 = ro) (ha : a < 4) (hM : M[a]? = some e) : ro[a]? = some e := by
  rw [← h, List.getElem?_take]
  rw [if_pos ha]
  exact hM
section ZS2b
variable {p : Program} {l : Launch} {e : Env} {R : Room} {s : State} {m : MethodId} {args : Array Value} {below : List Frame} {meth : Method} {c : Code} {H : Heap} {locs : List Loc} {cells slots : Nat} {Q : State → Prop}
variable {G : zG} {r : Nat → Nat} {base : Nat} {ro M : zH} {pc : Nat} {ls : Array Slot} {j : Nat}
theorem z_iald (X : z_Cx G p s m args meth c j) (hR : z_R r (z_A base) ro s s.heap) (hRl : z_Rl G r base ro s.heap M H locs) {a n : Nat} {f : Nat → Int32} {i : Int32} {rest : List Value} (hM : M[a]? = some (.inl (0, n, .inl f))) (hi : ¬ (i < 0 ∨ n ≤ i.toNatClampNeg)) (hdg : decode (z_b j) pc = .ok (.iaload, 1))
    (kk : W p l e R s m args below meth c H locs cells slots Q (F0 m (pc + 1) ls (.int (f i.toNatClampNeg) :: rest))) : W p l e R s m args below meth c H locs cells slots Q (F0 m pc ls (.int i :: .ref (z_ad r base a) :: rest)) := by
  obtain ⟨hx, hb, hml, hown, hts, hnm, hK⟩ := X
  have hlt : i.toNatClampNeg < n := Nat.not_le.mp fun q => hi (Or.inr q)
  by_cases ha : a < 4
  · obtain ⟨-, hT⟩ := hR.2.2.2 a _ (z_ro_get hRl.2.2.1 ha hM)
    rw [z_ad_lt ha]
    exact va_ti hx hb hT hRl.2.2.2.2.1 hi rfl hdg kk
  · obtain ⟨ht, hc⟩ := hRl.2.2.2.1 a _ (by omega) hM
    exact W.iald (v := .int (f i.toNatClampNeg)) hx hb hc ((hK.2.1 0 ht).1 n _) (fun q => by cases q) (by show ¬ (i < 0 ∨ (arrV _ _ _).slots.size ≤ _); rw [arrV_size]; exact hi) (by show (arrV _ _ _).slots[_]? = _; rw [arrV_read _ _ hlt]; rfl) rfl rfl hdg kk
theorem z_lald (X : z_Cx G p s m args meth c j) (hR : z_R r (z_A base) ro s s.heap) (hRl : z_Rl G r base ro s.heap M H locs) {a n : Nat} {f : Nat → Int64} {i : Int32} {rest : List Value} (hM : M[a]? = some (.inl (1, n, .inr (.inl f)))) (hi : ¬ (i < 0 ∨ n ≤ i.toNatClampNeg)) (hdg : decode (z_b j) pc = .ok (.laload, 1))
    (kk : W p l e R s m args below meth c H locs cells slots Q (F0 m (pc + 1) ls (.long (f i.toNatClampNeg) :: rest))) : W p l e R s m args below meth c H locs cells slots Q (F0 m pc ls (.int i :: .ref (z_ad r base a) :: rest)) := by
  obtain ⟨hx, hb, hml, hown, hts, hnm, hK⟩ := X
  have hlt : i.toNatClampNeg < n := Nat.not_le.mp fun q => hi (Or.inr q)
  by_cases ha : a < 4
  · obtain ⟨-, hT⟩ := hR.2.2.2 a _ (z_ro_get hRl.2.2.1 ha hM)
    rw [z_ad_lt ha]
    exact va_tl hx hb hT hRl.2.2.2.2.1 hi rfl hdg kk
  · obtain ⟨ht, hc⟩ := hRl.2.2.2.1 a _ (by omega) hM
    exact W.lald (v := .long (f i.toNatClampNeg)) hx hb hc ((hK.2.1 1 ht).1 n _) (fun q => by cases q) (by show ¬ (i < 0 ∨ (arrV _ _ _).slots.size ≤ _); rw [arrV_size]; exact hi) (by show (arrV _ _ _).slots[_]? = _; rw [arrV_read _ _ hlt]; rfl) rfl rfl hdg kk
theorem z_aald (X : z_Cx G p s m args meth c j) (hRl : z_Rl G r base ro s.heap M H locs) {a t n : Nat} {f : Nat → Option Nat} {i : Int32} {rest : List Value} (hM : M[a]? = some (.inl (t, n, .inr (.inr f)))) (hi : ¬ (i < 0 ∨ n ≤ i.toNatClampNeg)) (ha : 4 ≤ a) (ht2 : 2 ≤ t) (hdg : decode (z_b j) pc = .ok (.aaload, 1))
    (kk : W p l e R s m args below meth c H locs cells slots Q (F0 m (pc + 1) ls (va_rf ((f i.toNatClampNeg).map (z_ad r base)) :: rest))) : W p l e R s m args below meth c H locs cells slots Q (F0 m pc ls (.int i :: .ref (z_ad r base a) :: rest)) := by
  obtain ⟨hx, hb, hml, hown, hts, hnm, hK⟩ := X
  have hlt : i.toNatClampNeg < n := Nat.not_le.mp fun q => hi (Or.inr q)
  obtain ⟨ht, hc⟩ := hRl.2.2.2.1 a _ ha hM
  have href : (z_ty t).isReference = true := by
    match t, ht2 with
    | 2, _ => rfl
    | t + 3, _ => rfl
  exact W.aald (v := va_rf ((f i.toNatClampNeg).map (z_ad r base))) (ty := z_ty t) hx hb hc ((hK.2.1 t ht).1 n _) href (fun q => by cases q) (by show ¬ (i < 0 ∨ (arrV _ _ _).slots.size ≤ _); rw [arrV_size]; exact hi) (by show (arrV _ _ _).slots[_]? = _; rw [arrV_read _ _ hlt]; rfl) rfl rfl hdg kk
theorem z_alen (X : z_Cx G p s m args meth c j) (hR : z_R r (z_A base) ro s s.heap) (hRl : z_Rl G r base ro s.heap M H locs) {a t n : Nat} {x} {rest : List Value} (hM : M[a]? = some (.inl (t, n, x))) (hdg : decode (z_b j) pc = .ok (.arraylength, 1))
    (kk : W p l e R s m args below meth c H locs cells slots Q (F0 m (pc + 1) ls (.int (Int32.ofNat n) :: rest))) : W p l e R s m args below meth c H locs cells slots Q (F0 m pc ls (.ref (z_ad r base a) :: rest)) := by
  obtain ⟨hx, hb, hml, hown, hts, hnm, hK⟩ := X
  by_cases ha : a < 4
  · have hro := hR.2.2.2 a _ (z_ro_get hRl.2.2.1 ha hM)
    rw [z_ad_lt ha]
    match x, hro with
    | .inl f, ⟨_, hT⟩ => exact va_tlen hx hb hT hRl.2.2.2.2.1 rfl hdg kk
    | .inr (.inl f), ⟨_, hT⟩ => exact va_tlen hx hb hT hRl.2.2.2.2.1 rfl hdg kk
    | .inr (.inr f), h => exact h.elim
  · obtain ⟨ht, hc⟩ := hRl.2.2.2.1 a _ (by omega) hM
    exact W.alen (n := Int32.ofNat n) hx hb hc ((hK.2.1 t ht).1 n _) (by rw [arrV_size] <;> rfl) rfl rfl hdg kk
theorem z_iast (X : z_Cx G p s m args meth c j) (hRl : z_Rl G r base ro s.heap M H locs) {a n : Nat} {f : Nat → Int32} {i x : Int32} {rest : List Value} (hM : M[a]? = some (.inl (0, n, .inl f))) (hi : ¬ (i < 0 ∨ n ≤ i.toNatClampNeg)) (ha : 4 ≤ a) (hdg : decode (z_b j) pc = .ok (.iastore, 1))
    (kk : ∀ H1 locs1, z_Rl G r base ro s.heap (M.set a (.inl (0, n, .inl (upd f i.toNatClampNeg x)))) H1 locs1 → W p l e R s m args below meth c H1 locs1 cells slots Q (F0 m (pc + 1) ls rest)) : W p l e R s m args below meth c H locs cells slots Q (F0 m pc ls (.int x :: .int i :: .ref (z_ad r base a) :: rest)) := by
  obtain ⟨hx, hb, hml, hown, hts, hnm, hK⟩ := X
  obtain ⟨ht, hc⟩ := hRl.2.2.2.1 a _ ha hM
  refine W.iast hx hb hc ((hK.2.1 0 ht).1 n _) (fun q => by cases q) (by show ¬ (i < 0 ∨ (arrV _ _ _).slots.size ≤ _); rw [arrV_size]; exact hi) rfl rfl hdg fun H1 e1 z oq => ?_
  refine kk H1 _ (hRl.set ha ⟨ht, ?_⟩ z oq (hRl.2.2.2.2.1.put z oq (z_A_in ha)))
  rw [e1, arrV_store, z_val_upd]
theorem z_last (X : z_Cx G p s m args meth c j) (hRl : z_Rl G r base ro s.heap M H locs) {a n : Nat} {f : Nat → Int64} {i : Int32} {x : Int64} {rest : List Value} (hM : M[a]? = some (.inl (1, n, .inr (.inl f)))) (hi : ¬ (i < 0 ∨ n ≤ i.toNatClampNeg)) (ha : 4 ≤ a) (hdg : decode (z_b j) pc = .ok (.lastore, 1))
    (kk : ∀ H1 locs1, z_Rl G r base ro s.heap (M.set a (.inl (1, n, .inr (.inl (z_updL f i.toNatClampNeg x))))) H1 locs1 → W p l e R s m args below meth c H1 locs1 cells slots Q (F0 m (pc + 1) ls rest)) : W p l e R s m args below meth c H locs cells slots Q (F0 m pc ls (.long x :: .int i :: .ref (z_ad r base a) :: rest)) := by
  obtain ⟨hx, hb, hml, hown, hts, hnm, hK⟩ := X
  obtain ⟨ht, hc⟩ := hRl.2.2.2.1 a _ ha hM
  refine W.last hx hb hc ((hK.2.1 1 ht).1 n _) (fun q => by cases q) (by show ¬ (i < 0 ∨ (arrV _ _ _).slots.size ≤ _); rw [arrV_size]; exact hi) rfl rfl hdg fun H1 e1 z oq => ?_
  refine kk H1 _ (hRl.set ha ⟨ht, ?_⟩ z oq (hRl.2.2.2.2.1.put z oq (z_A_in ha)))
  rw [e1, arrV_store, z_val_updL]
theorem z_ty_obj {t : Nat} (h : 2 ≤ t) : z_ty t = .object (if t = 2 then "DoorBench$Bench" else "DoorBench$Way") := by
  match t, h with
  | 2, _ => rfl
  | t + 3, _ => rfl
theorem z_aastN (X : z_Cx G p s m args meth c j) (hRl : z_Rl G r base ro s.heap M H locs) {a t n : Nat} {f : Nat → Option Nat} {i : Int32} {rest : List Value} (hM : M[a]? = some (.inl (t, n, .inr (.inr f)))) (hi : ¬ (i < 0 ∨ n ≤ i.toNatClampNeg)) (ha : 4 ≤ a) (ht2 : 2 ≤ t) (hdg : decode (z_b j) pc = .ok (.aastore, 1))
    (kk : ∀ H1 locs1, z_Rl G r base ro s.heap (M.set a (.inl (t, n, .inr (.inr (z_updR f i.toNatClampNeg none))))) H1 locs1 → W p l e R s m args below meth c H1 locs1 cells slots Q (F0 m (pc + 1) ls rest)) : W p l e R s m args below meth c H locs cells slots Q (F0 m pc ls (.null :: .int i :: .ref (z_ad r base a) :: rest)) := by
  obtain ⟨hx, hb, hml, hown, hts, hnm, hK⟩ := X
  obtain ⟨ht, hc⟩ := hRl.2.2.2.1 a _ ha hM
  refine va_WaastN (C := if t = 2 then "DoorBench$Bench" else "DoorBench$Way") hx hb hc (by rw [← z_ty_obj ht2]; exact (hK.2.1 t ht).1 n _) (fun h => by cases h) (by show ¬ (i < 0 ∨ (arrV _ _ _).slots.size ≤ _); rw [arrV_size]; exact hi) rfl rfl hdg fun H1 e1 z oq => ?_
  refine kk H1 _ (hRl.set ha ⟨ht, ?_⟩ z oq (hRl.2.2.2.2.1.put z oq (z_A_in ha)))
  rw [e1, arrV_store, show (Value.null) = va_rf ((none : Option Nat).map (z_ad r base)) from rfl, z_val_updR]
theorem z_cast_ok : ∀ ci, ci < 12 → 5 ≤ ci → Jvm.Cond.castable (z_cn ci) "DoorBench$Way" ∈ z_xw := by decide +kernel
theorem z_aast (X : z_Cx G p s m args meth c j) (hRl : z_Rl G r base ro s.heap M H locs) {a t n v ci : Nat} {fs : List Value} {f : Nat → Option Nat} {i : Int32} {rest : List Value} (hM : M[a]? = some (.inl (t, n, .inr (.inr f)))) (hV : M[v]? = some (.inr (ci, fs))) (hi : ¬ (i < 0 ∨ n ≤ i.toNatClampNeg)) (ha : 4 ≤ a) (hv4 : 4 ≤ v) (htc : (t = 2 ∧ ci = 3) ∨ (t = 3 ∧ 4 ≤ ci ∧ ci ≤ 11)) (hdg : decode (z_b j) pc = .ok (.aastore, 1))
    (kk : ∀ H1 locs1, z_Rl G r base ro s.heap (M.set a (.inl (t, n, .inr (.inr (z_updR f i.toNatClampNeg (some v)))))) H1 locs1 → W p l e R s m args below meth c H1 locs1 cells slots Q (F0 m (pc + 1) ls rest)) : W p l e R s m args below meth c H locs cells slots Q (F0 m pc ls (.ref (z_ad r base v) :: .int i :: .ref (z_ad r base a) :: rest)) := by
  obtain ⟨hx, hb, hml, hown, hts, hnm, hK⟩ := X
  have hlt : i.toNatClampNeg < n := Nat.not_le.mp fun q => hi (Or.inr q)
  have h0 : ¬ i < 0 := fun q => hi (Or.inl q)
  obtain ⟨ht, hc⟩ := hRl.2.2.2.1 a _ ha hM
  obtain ⟨w, hw, cellV, g1, g2, g3, -⟩ := hRl.2.2.2.1 v _ hv4 hV
  have hcls := (hK.1 ci w hw).2
  have hRA := (hK.2.1 t ht).2
  have hcn : w.1 = z_cn ci := (z_okc_use hw).1
  have ht2 : 2 ≤ t := by omega
  have key : ∃ (kA kE kC : Class) (comp : ClassId), s.vm.classes[G.2.2 t]? = some kA ∧ kA.kind = .array comp (z_ty t) ∧ s.vm.classes[comp]? = some kE ∧ s.vm.classes[cellV.cls]? = some kC ∧ s.vm.assignable cellV.cls comp = true := by
    rw [z_ty_obj ht2] at hRA ⊢
    obtain ⟨kA, comp, k1, k2, k3, -⟩ := hRA
    obtain ⟨kE, hkE, -⟩ := Vm.findClass_spec k3
    obtain ⟨kC, hkC, -⟩ := id hcls.2
    refine ⟨kA, kE, kC, comp, k1, k2, hkE, by rw [g2]; exact hkC, ?_⟩
    rw [g2]
    by_cases hsame : w.1 = (if t = 2 then "DoorBench$Bench" else "DoorBench$Way")
    · have h5 := hcls.1
      rw [hsame] at h5
      cases k3.symm.trans h5
      exact va_asg _ _
    · have h6 : t = 3 ∧ 5 ≤ ci ∧ ci ≤ 11 := by
        rcases htc with ⟨rfl, rfl⟩ | ⟨rfl, h7, h8⟩
        · exact absurd (by rw [hcn]; decide +kernel) hsame
        · refine ⟨rfl, ?_, h8⟩
          by_cases h9 : ci = 4
          · subst h9
            exact absurd (by rw [hcn]; decide +kernel) hsame
          · omega
      obtain ⟨rfl, h7, h8⟩ := h6
      obtain ⟨c0, t1, f1, f2, f3⟩ := Cond.castable_spec (va_Nw.use (A := args) rfl (hK.2.2.1 _ (z_cast_ok ci (by omega) h7)))
      have h5 := hcls.1
      rw [hcn] at h5
      cases h5.symm.trans f1
      cases k3.symm.trans f2
      exact f3
  obtain ⟨kA, kE, kC, comp, k1, k2, k3, k4, k5⟩ := key
  have href : (z_ty t).isReference = true := by rw [z_ty_obj ht2]; rfl
  refine W.aast hx hb hc (fun q h => by cases h) (fun h => by cases h) k1 k2 href k3 ⟨h0, by show _ < (arrV _ _ _).slots.size; rw [arrV_size]; exact hlt⟩ g1 (fun q h => by rw [g3] at h; cases h) k4 k5 rfl rfl hdg fun H1 e1 z oq => ?_
  refine kk H1 _ (hRl.set ha ⟨ht, ?_⟩ z oq (hRl.2.2.2.2.1.put z oq (z_A_in ha)))
  rw [e1, arrV_store, show (Value.ref (z_ad r base v)) = va_rf ((some v : Option Nat).map (z_ad r base)) from rfl, z_val_updR]
theorem z_newi (X : z_Cx G p s m args meth c j) (hRl : z_Rl G r base ro s.heap M H locs) {n : Int32} {rest : List Value} (hn : ¬ (n < 0 ∨ 1000000 < n.toNatClampNeg)) (hdg : decode (z_b j) pc = .ok (.newarray .int, 2)) (hc : cells + 1 ≤ R.cells) (hs : slots + n.toNatClampNeg ≤ R.slots)
    (kk : ∀ H1, z_Rl G r base ro s.heap (M ++ [.inl (0, n.toNatClampNeg, .inl fun _ => 0)]) H1 locs → W p l e R s m args below meth c H1 locs (cells + 1) (slots + n.toNatClampNeg) Q (F0 m (pc + 2) ls (.ref (z_ad r base M.length) :: rest))) : W p l e R s m args below meth c H locs cells slots Q (F0 m pc ls (.int n :: rest)) := by
  obtain ⟨hx, hb, hml, hown, hts, hnm, hK⟩ := X
  obtain ⟨h1, h2⟩ := not_or.mp hn
  have hnx := hRl.next
  refine va_newaK (atype := .int) hx hb (hts _ (z_arr_ok .int (Or.inl rfl))) rfl hdg rfl h1 rfl (by show n.toNatClampNeg * 4 ≤ _; omega) hc hs hnx.symm fun H1 cA e1 z1 o1 hAr hNm => ?_
  refine kk H1 (hRl.push ⟨(by decide : 0 < 4), ?_⟩ (by rw [z1, hnx]) (fun q hq' => o1 q (by rw [hnx]; exact hq')))
  have hcA : cA = G.2.2 0 := Option.some.inj (hNm.symm.trans (hK.2.1 0 (by decide)).2)
  rw [← hcA]
  exact e1
theorem z_newl (X : z_Cx G p s m args meth c j) (hRl : z_Rl G r base ro s.heap M H locs) {n : Int32} {rest : List Value} (hn : ¬ (n < 0 ∨ 1000000 < n.toNatClampNeg)) (hdg : decode (z_b j) pc = .ok (.newarray .long, 2)) (hc : cells + 1 ≤ R.cells) (hs : slots + n.toNatClampNeg ≤ R.slots)
    (kk : ∀ H1, z_Rl G r base ro s.heap (M ++ [.inl (1, n.toNatClampNeg, .inr (.inl fun _ => 0))]) H1 locs → W p l e R s m args below meth c H1 locs (cells + 1) (slots + n.toNatClampNeg) Q (F0 m (pc + 2) ls (.ref (z_ad r base M.length) :: rest))) : W p l e R s m args below meth c H locs cells slots Q (F0 m pc ls (.int n :: rest)) := by
  obtain ⟨hx, hb, hml, hown, hts, hnm, hK⟩ := X
  obtain ⟨h1, h2⟩ := not_or.mp hn
  have hnx := hRl.next
  refine va_newaK (atype := .long) hx hb (hts _ (z_arr_ok .long (Or.inr rfl))) rfl hdg rfl h1 rfl (by show n.toNatClampNeg * 8 ≤ _; omega) hc hs hnx.symm fun H1 cA e1 z1 o1 hAr hNm => ?_
  refine kk H1 (hRl.push ⟨(by decide : 1 < 4), ?_⟩ (by rw [z1, hnx]) (fun q hq' => o1 q (by rw [hnx]; exact hq')))
  have hcA : cA = G.2.2 1 := Option.some.inj (hNm.symm.trans (hK.2.1 1 (by decide)).2)
  rw [← hcA]
  exact e1
theorem z_newr (X : z_Cx G p s m args meth c j) (hRl : z_Rl G r base ro s.heap M H locs) {idx : Nat} {q : Nat × Nat} {n : Int32} {rest : List Value} (hq : z_find z_an (z_oc j) idx = some q) (hn : ¬ (n < 0 ∨ 1000000 < n.toNatClampNeg)) (hdg : decode (z_b j) pc = .ok (.anewarray idx, 3)) (hc : cells + 1 ≤ R.cells) (hs : slots + n.toNatClampNeg ≤ R.slots)
    (kk : ∀ H1, z_Rl G r base ro s.heap (M ++ [.inl (q.1, n.toNatClampNeg, .inr (.inr fun _ => none))]) H1 locs → W p l e R s m args below meth c H1 locs (cells + 1) (slots + n.toNatClampNeg) Q (F0 m (pc + 3) ls (.ref (z_ad r base M.length) :: rest))) : W p l e R s m args below meth c H locs cells slots Q (F0 m pc ls (.int n :: rest)) := by
  obtain ⟨hx, hb, hml, hown, hts, hnm, hK⟩ := X
  obtain ⟨h1, h2⟩ := not_or.mp hn
  have hnx := hRl.next
  have h3 := z_an_ok _ (z_find_mem hq)
  obtain ⟨t, p1⟩ := q
  have key : ∃ C, t < 4 ∧ z_ty t = .object C ∧ Jvm.Cond.classLink (z_cn (z_oc j)) idx C ∈ z_tb ∧ va_AO C s := by
    match t, h3 with
    | 2, h3 => exact ⟨_, by decide, rfl, z_in_mem h3, hK.2.2.2.1⟩
    | 3, h3 => exact ⟨_, by decide, rfl, z_in_mem h3, hK.2.2.2.2⟩
  obtain ⟨C, ht, hty, hcl, hAO⟩ := key
  have hRA := (hK.2.1 t ht).2
  rw [hty] at hRA
  obtain ⟨-, -, -, -, -, hRA⟩ := hRA
  refine W.anew hx hb hown (hts _ hcl) (va_AO.use hAO) rfl hdg rfl h1 (by omega) hc hs fun cA kA comp f1 f2 f3 f4 => ?_
  rw [← hnx]
  refine kk _ (hRl.push ⟨ht, ?_⟩ (by rw [Array.size_push]) (fun q hq' => by rw [Array.getElem?_push, if_neg (Nat.ne_of_lt hq')]))
  have hcA : cA = G.2.2 t := Option.some.inj (f1.symm.trans hRA)
  rw [hnx, Array.getElem?_push_size, ← hcA, arrV_new]
  rfl
theorem z_gets (X : z_Cx G p s m args meth c j) (hR : z_R r (z_A base) ro s s.heap) (hRl : z_Rl G r base ro s.heap M H locs) {idx : Nat} {q : Nat × (String × String) × String × Nat} {rest : List Value} (hq : z_find z_gs (z_oc j) idx = some q) (hdg : decode (z_b j) pc = .ok (.getstatic idx, 3))
    (kk : W p l e R s m args below meth c H locs cells slots Q (F0 m (pc + 3) ls (.ref (z_ad r base q.1) :: rest))) : W p l e R s m args below meth c H locs cells slots Q (F0 m pc ls rest) := by
  obtain ⟨hx, hb, hml, hown, hts, hnm, hK⟩ := X
  have h3 := z_gs_ok _ (z_find_mem hq)
  obtain ⟨k, ⟨name, desc⟩, host, p1⟩ := q
  dsimp only [z_okg] at h3 kk
  simp only [Bool.and_eq_true, decide_eq_true_eq] at h3
  obtain ⟨h3, h4⟩ := h3
  have hZ : k < 4 ∧ va_Z "DoorBench" name desc (.ref (r k)) (z_A base) s s.heap := by
    rcases h3 with ⟨rfl, rfl, rfl⟩ | ⟨rfl, rfl, rfl⟩ | ⟨rfl, rfl, rfl⟩
    · exact ⟨by decide, hR.1⟩
    · exact ⟨by decide, hR.2.1⟩
    · exact ⟨by decide, hR.2.2.1⟩
  rw [z_ad_lt hZ.1] at kk
  by_cases hh : host = ""
  · rw [if_pos hh] at h4
    exact va_gets hx hb hZ.2 hRl.2.2.2.2.1 hown (hts _ (z_in_mem h4)) (fun _ h => h) hdg kk
  · rw [if_neg hh, decide_eq_true_eq] at h4
    exact va_getsN hx hb hZ.2 hRl.2.2.2.2.1 hown (va_Nw.use rfl (hK.2.2.1 _ h4)) (fun _ h => h) hdg kk
end ZS2b
