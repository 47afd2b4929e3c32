/-! the machine's state and the mini-VM's: when one stands for the other -/
def z_ty (t : Nat) : FieldType := match t with
  | 0 => .int
  | 1 => .long
  | 2 => .object "DoorBench$Bench"
  | _ => .object "DoorBench$Way"
abbrev zG : Type := (Nat → ClassId) × (Nat → Nat → Nat) × (Nat → ClassId)
/-- where a cell lies: the read-only ones by r, the others one behind the other from base on -/
def z_ad (r : Nat → Nat) (base k : Nat) : Nat := if k < 4 then r k else base + (k - 4)
def z_sh (ad : Nat → Nat) (v : Value) : Value := match v with
  | .ref a => .ref (ad a)
  | w => w
theorem z_sh_cat (ad : Nat → Nat) (v : Value) : (z_sh ad v).category = v.category := by cases v <;> rfl
def z_val (ad : Nat → Nat) (a : zA) (i : Nat) : Value := match a.2 with
  | .inl f => .int (f i)
  | .inr (.inl f) => .long (f i)
  | .inr (.inr f) => va_rf ((f i).map ad)
def z_at (G : zG) (ad : Nat → Nat) (k : Nat) (e : zE) (H : Heap) : Prop := match e with
  | .inl (t, a) => t < 4 ∧ H[ad k]? = some (arrV (G.2.2 t) a.1 (z_val ad a))
  | .inr (ci, fs) => ∃ r, z_cl[ci]? = some r ∧ t_OB (ad k) (G.1 ci) r.2.2 (G.2.1 ci) H (vp_V (fs.map (z_sh ad)))
/-- what is known of the classes -/
def z_K (G : zG) (U : State) : Prop := (∀ ci q, z_cl[ci]? = some q → u_Kn U q.1 q.2.1 q.2.2 (G.1 ci) (G.2.1 ci)) ∧ (∀ t, t < 4 → ArrOfT U (G.2.2 t) (z_ty t) ∧ va_RA U (G.2.2 t) (z_ty t)) ∧ (∀ w ∈ z_xw, va_Nw w U) ∧ va_AO "DoorBench$Bench" U ∧ va_AO "DoorBench$Way" U
/-- the read-only cells: the tables' statics hold them, and they hold what the list says -/
def z_ro (r : Nat → Nat) (A : Nat → Prop) (k : Nat) (e : zE) (U : State) (H : Heap) : Prop := match e with
  | .inl (t, n, .inl f) => t = 0 ∧ va_T .int (r k) n (fun j => .int (f j)) A U H
  | .inl (t, n, .inr (.inl f)) => t = 1 ∧ va_T .long (r k) n (fun j => .long (f j)) A U H
  | _ => False
def z_R (r : Nat → Nat) (A : Nat → Prop) (ro : zH) (U : State) (H : Heap) : Prop :=
  va_Z "DoorBench" "CHOOSE" "[I" (.ref (r 1)) A U H ∧ va_Z "DoorBench" "YES_SETS" "[J" (.ref (r 2)) A U H ∧ va_Z "DoorBench" "KIND_ABOVE" "[I" (.ref (r 3)) A U H ∧ ∀ k e, ro[k]? = some e → z_ro r A k e U H
def z_A (base : Nat) : Nat → Prop := fun q => base ≤ q
/-- a heap stands for a list of cells -/
def z_Rl (G : zG) (r : Nat → Nat) (base : Nat) (ro : zH) (H0 : Heap) (M : zH) (H : Heap) (locs : List Loc) : Prop :=
  H.size + 4 = base + M.length ∧ 4 ≤ M.length ∧ M.take 4 = ro ∧ (∀ k e, 4 ≤ k → M[k]? = some e → z_at G (z_ad r base) k e H) ∧ va_S (z_A base) H0 H locs ∧ base ≤ H0.size
/-- the locals -/
def z_lv (ad : Nat → Nat) (ls : Array Slot) (nL : Nat) (L : zL) : Prop := ls.size = nL ∧ L.length = nL ∧ lv_wf ls ∧ ∀ (i : Nat) (v : Value), L[i]? = some (some v) → ls[i]? = some (.val (z_sh ad v))
def z_as (ad : Nat → Nat) (L : zL) : List (Nat × Value) := (List.range L.length).filterMap fun i => (z_get L i).map fun v => (i, z_sh ad v)
theorem z_get_some {L : zL} {i : Nat} {v : Value} : z_get L i = some v ↔ L[i]? = some (some v) := by
  unfold z_get
  cases h : L[i]? with
  | none => simp
  | some o => simp
theorem z_as_mem {ad : Nat → Nat} {L : zL} {i : Nat} {w : Value} : (i, w) ∈ z_as ad L ↔ ∃ v, L[i]? = some (some v) ∧ w = z_sh ad v := by
  unfold z_as
  rw [List.mem_filterMap]
  constructor
  · rintro ⟨k, hk, h⟩
    cases hg : z_get L k with
    | none => rw [hg] at h; cases h
    | some v =>
      rw [hg] at h
      cases h
      exact ⟨v, z_get_some.mp hg, rfl⟩
  · rintro ⟨v, h, rfl⟩
    have hl : i < L.length := (List.getElem?_eq_some_iff.mp h).1
    exact ⟨i, List.mem_range.mpr hl, by rw [z_get_some.mpr h]; rfl⟩
theorem z_lv.has {ad : Nat → Nat} {ls : Array Slot} {nL : Nat} {L : zL} (h : z_lv ad ls nL L) : lv_has ls nL (z_as ad L) := by
  refine ⟨h.1, h.2.2.1, fun q hq => ?_⟩
  obtain ⟨v, h1, h2⟩ := z_as_mem.mp (show (q.1, q.2) ∈ z_as ad L from hq)
  rw [h2]
  exact h.2.2.2 _ _ h1
theorem z_lv.at {ad : Nat → Nat} {ls : Array Slot} {nL : Nat} {L : zL} (h : z_lv ad ls nL L) {i : Nat} {v : Value} (hi : z_get L i = some v) : ls[i]? = some (.val (z_sh ad v)) := h.2.2.2 _ _ (z_get_some.mp hi)
theorem z_cat_iff {v : Value} : z_cat (some v) = true ↔ v.category = 2 := by cases v <;> simp [z_cat, Value.category]
theorem z_p1_len (L : zL) (i : Nat) (v : Value) : (z_p1 L i v).length = L.length := by
  unfold z_p1
  split
  · simp
  · split <;> simp
theorem z_p1_get {L : zL} {i : Nat} {v : Value} {j : Nat} {w : Value} (h : (z_p1 L i v)[j]? = some (some w)) : (j = i ∧ w = v) ∨ (j ≠ i ∧ L[j]? = some (some w) ∧ ¬ (j + 1 = i ∧ w.category = 2)) := by
  unfold z_p1 at h
  split at h
  · by_cases hj : j = 0
    · subst hj
      rw [List.getElem?_set] at h
      split at h
      · split at h
        · cases h; exact Or.inl ⟨rfl, rfl⟩
        · cases h
      · rename_i q; exact absurd rfl q
    · rw [List.getElem?_set_ne (Ne.symm hj)] at h
      exact Or.inr ⟨hj, h, fun q => by omega⟩
  · rename_i k
    by_cases hj : j = k + 1
    · left
      refine ⟨hj, ?_⟩
      subst hj
      split at h
      · rw [List.getElem?_set_ne (by omega), List.getElem?_set] at h
        simp only [if_true] at h
        split at h
        · cases h; rfl
        · cases h
      · rw [List.getElem?_set] at h
        simp only [if_true] at h
        split at h
        · cases h; rfl
        · cases h
    · right
      refine ⟨hj, ?_⟩
      split at h
      · by_cases hk : j = k
        · subst hk
          rw [List.getElem?_set] at h
          simp only [if_true] at h
          split at h <;> cases h
        · rw [List.getElem?_set_ne (Ne.symm hk), List.getElem?_set_ne (Ne.symm hj)] at h
          exact ⟨h, fun q => hk (by omega)⟩
      · rename_i hc
        rw [List.getElem?_set_ne (Ne.symm hj)] at h
        refine ⟨h, fun q => hc ?_⟩
        have hk : j = k := by omega
        subst hk
        rw [h]
        exact z_cat_iff.mpr q.2
theorem z_lv.put1 {ad : Nat → Nat} {ls ls' : Array Slot} {nL : Nat} {L : zL} {i : Nat} {v : Value} (h : z_lv ad ls nL L)
    (h' : lv_has ls' nL ((i, z_sh ad v) :: (z_as ad L).filter (fun q => !(q.1 == i) && !(q.1 + 1 == i && q.2.category == 2)))) : z_lv ad ls' nL (z_p1 L i v) := by
  refine ⟨h'.1, by rw [z_p1_len]; exact h.2.1, h'.2.1, fun j w hj => ?_⟩
  rcases z_p1_get hj with ⟨rfl, rfl⟩ | ⟨h1, h2, h3⟩
  · exact h'.2.2 (_, _) List.mem_cons_self
  · refine h'.2.2 (j, z_sh ad w) (List.mem_cons_of_mem _ (List.mem_filter.mpr ⟨z_as_mem.mpr ⟨w, h2, rfl⟩, ?_⟩))
    simp only [Bool.and_eq_true, Bool.not_eq_true', beq_eq_false_iff_ne, Bool.and_eq_false_iff, z_sh_cat]
    refine ⟨h1, ?_⟩
    by_cases q : j + 1 = i
    · exact Or.inr (fun z => h3 ⟨q, z⟩)
    · exact Or.inl q
theorem z_lv.put2 {ad : Nat → Nat} {ls ls' : Array Slot} {nL : Nat} {L : zL} {i : Nat} {v : Value} (h : z_lv ad ls nL L)
    (h' : lv_has ls' nL ((i, z_sh ad v) :: (z_as ad L).filter (fun q => !(q.1 == i) && (!(q.1 == i + 1) && !(q.1 + 1 == i && q.2.category == 2))))) : z_lv ad ls' nL (z_p2 L i v) := by
  refine ⟨h'.1, by unfold z_p2; rw [List.length_set, z_p1_len]; exact h.2.1, h'.2.1, fun j w hj => ?_⟩
  unfold z_p2 at hj
  by_cases hji : j = i + 1
  · subst hji
    rw [List.getElem?_set] at hj
    simp only [if_true] at hj
    split at hj <;> cases hj
  · rw [List.getElem?_set_ne (Ne.symm hji)] at hj
    rcases z_p1_get hj with ⟨rfl, rfl⟩ | ⟨h1, h2, h3⟩
    · exact h'.2.2 (_, _) List.mem_cons_self
    · refine h'.2.2 (j, z_sh ad w) (List.mem_cons_of_mem _ (List.mem_filter.mpr ⟨z_as_mem.mpr ⟨w, h2, rfl⟩, ?_⟩))
      simp only [Bool.and_eq_true, Bool.not_eq_true', beq_eq_false_iff_ne, Bool.and_eq_false_iff, z_sh_cat]
      refine ⟨h1, hji, ?_⟩
      by_cases q : j + 1 = i
      · exact Or.inr (fun z => h3 ⟨q, z⟩)
      · exact Or.inl q
/-- the locals with which a method begins -/
theorem z_ent_list (ad : Nat → Nat) : ∀ (vs : List Value) (b j : Nat) (w : Value), (vs.flatMap fun v => if v.category = 2 then [some v, none] else [some v])[j]? = some (some w) → (b + j, z_sh ad w) ∈ lv_args b (vs.map (z_sh ad))
  | [], b, j, w, h => by simp at h
  | v :: vs, b, j, w, h => by
    rw [List.flatMap_cons] at h
    by_cases hc : v.category = 2
    · rw [if_pos hc] at h
      show _ ∈ (b, z_sh ad v) :: lv_args (if (z_sh ad v).category = 2 then b + 2 else b + 1) (vs.map (z_sh ad))
      rw [z_sh_cat, if_pos hc]
      match j, h with
      | 0, h => cases h; exact List.mem_cons_self
      | 1, h => cases h
      | k + 2, h =>
        have := z_ent_list ad vs (b + 2) k w h
        rw [show b + (k + 2) = b + 2 + k by omega]
        exact List.mem_cons_of_mem _ this
    · rw [if_neg hc] at h
      show _ ∈ (b, z_sh ad v) :: lv_args (if (z_sh ad v).category = 2 then b + 2 else b + 1) (vs.map (z_sh ad))
      rw [z_sh_cat, if_neg hc]
      match j, h with
      | 0, h => cases h; exact List.mem_cons_self
      | k + 1, h =>
        have := z_ent_list ad vs (b + 1) k w h
        rw [show b + (k + 1) = b + 1 + k by omega]
        exact List.mem_cons_of_mem _ this
theorem z_ent_sl (ad : Nat → Nat) (vs : List Value) : (lg_sl (vs.map (z_sh ad))).length = (z_ent vs 0).length := by
  induction vs with
  | nil => rfl
  | cons v vs ih =>
    have e1 : (z_ent (v :: vs) 0).length = (if v.category = 2 then 2 else 1) + (z_ent vs 0).length := by
      unfold z_ent
      simp only [Nat.zero_sub, List.replicate_zero, List.append_nil, List.flatMap_cons, List.length_append]
      split <;> simp
    rw [e1, ← ih, List.map_cons]
    cases v <;> simp [lg_sl, z_sh, Value.category] <;> omega
theorem z_lv_entry (ad : Nat → Nat) (vs : List Value) {n : Nat} (h : (z_ent vs 0).length ≤ n) : z_lv ad ((lg_sl (vs.map (z_sh ad)) ++ List.replicate (n - (lg_sl (vs.map (z_sh ad))).length) Slot.unset).toArray) n (z_ent vs n) := by
  have h0 := lv_entry (vs.map (z_sh ad)) (n := n) (by rw [z_ent_sl]; exact h)
  have e0 : (z_ent vs 0).length = (vs.flatMap fun v => if v.category = 2 then [some v, none] else [some v]).length := by simp [z_ent]
  refine ⟨h0.1, ?_, h0.2.1, fun i v hi => ?_⟩
  · unfold z_ent
    rw [List.length_append, List.length_replicate]
    omega
  · unfold z_ent at hi
    by_cases hl : i < (vs.flatMap fun v => if v.category = 2 then [some v, none] else [some v]).length
    · rw [List.getElem?_append_left hl] at hi
      have := z_ent_list ad vs 0 i v hi
      rw [Nat.zero_add] at this
      exact h0.2.2 _ this
    · rw [List.getElem?_append_right (by omega), List.getElem?_replicate] at hi
      split at hi <;> cases hi
