/-! runs over a typed heap: a row for each kind of step -/
def z_dcs (j : Nat) (segs : List (List (Nat × Instr × Nat))) : Bool := segs.all fun l => l.all fun e => match decode (z_b j) e.1 with
  | .ok q => decide (q = (e.2.1, e.2.2)) && decide (e.2.2 = z_len e.2.1 e.2.2)
  | .error _ => false
theorem z_dcl {j : Nat} {segs : List (List (Nat × Instr × Nat))} {n : Nat} {l : List (Nat × Instr × Nat)} (ht : z_dcs j segs = true) (hk : segs[n]? = some l) {e : Nat × Instr × Nat} (he : e ∈ l) : decode (z_b j) e.1 = .ok (e.2.1, e.2.2) ∧ e.2.2 = z_len e.2.1 e.2.2 := by
  have h := List.all_eq_true.mp (List.all_eq_true.mp ht l (List.mem_of_getElem? hk)) e he
  split at h
  · rename_i q hq
    obtain ⟨h1, h2⟩ := Bool.and_eq_true_iff.mp h
    rw [hq, of_decide_eq_true h1]
    exact ⟨rfl, of_decide_eq_true h2⟩
  · cases h
theorem z_dc1 {j : Nat} {segs : List (List (Nat × Instr × Nat))} {n pc len : Nat} {i : Instr} (ht : z_dcs j segs = true) (hk : segs[n]? = some [(pc, i, len)]) : decode (z_b j) pc = .ok (i, len) := (z_dcl ht hk (e := (pc, i, len)) (List.mem_singleton.mpr rfl)).1
theorem z_dc2 {j : Nat} {segs : List (List (Nat × Instr × Nat))} {n pc len : Nat} {i : Instr} (ht : z_dcs j segs = true) (hk : segs[n]? = some [(pc, i, len)]) : len = z_len i len := (z_dcl ht hk (e := (pc, i, len)) (List.mem_singleton.mpr rfl)).2
theorem z_s1e {j : Nat} {i : Instr} {pc : Nat} {L : zL} {S : zS} {q : Nat × zL × zS} (h : z_s1 i pc L S = some q) : z_end j i S = none := by
  cases i <;> first | (cases S <;> rfl) | (cases h)
def z_pl : List (Nat × Instr × Nat) → Nat → zL → zS → Option (Nat × zL × zS)
  | [], pc, L, S => some (pc, L, S)
  | e :: l, pc, L, S => if e.1 = pc then (match z_s1 e.2.1 pc L S with
    | some (pc1, L1, S1) => z_pl l pc1 L1 S1
    | none => none) else none
theorem z_plx {d j : Nat} {M : zH} {K : Option Value → zH → Prop} : ∀ (l : List (Nat × Instr × Nat)) (pc : Nat) (L : zL) (S : zS) (pc1 : Nat) (L1 : zL) (S1 : zS), (∀ e ∈ l, decode (z_b j) e.1 = .ok (e.2.1, e.2.2) ∧ e.2.2 = z_len e.2.1 e.2.2) → z_pl l pc L S = some (pc1, L1, S1) → z_ev d j pc1 L1 S1 M K → z_ev d j pc L S M K
  | [], pc, L, S, pc1, L1, S1, _, h, k => by cases h; exact k
  | e :: l, pc, L, S, pc1, L1, S1, hd, h, k => by
    rw [z_pl] at h
    split at h
    · rename_i hp
      split at h
      · rename_i pc2 L2 S2 h2
        obtain ⟨d1, d2⟩ := hd e (List.mem_cons_self ..)
        rw [hp] at d1
        exact z_e1 d1 d2 (z_s1e h2) h2 (z_plx l pc2 L2 S2 pc1 L1 S1 (fun e2 he2 => hd e2 (List.mem_cons_of_mem _ he2)) h k)
      · cases h
    · cases h
section ZXX
variable {d j pc pc1 n : Nat} {segs : List (List (Nat × Instr × Nat))} {l : List (Nat × Instr × Nat)} {i : Instr} {L L1 : zL} {S S1 r : zS} {M M0 : zH} {T : List zK} {rs : List Nat} {K : Option Value → zH → Prop} {a ci q t m J : Nat}
/-- a stretch over locals and the stack -/
theorem z_xP (ht : z_dcs j segs = true) (n : Nat) (pc1 : Nat) (L1 : zL) (S1 : zS) (hk : segs[n]? = some l) (h : z_pl l pc L S = some (pc1, L1, S1)) (kk : z_ev d j pc1 L1 S1 M K) : z_ev d j pc L S M K :=
  z_plx l pc L S pc1 L1 S1 (fun _ he => z_dcl ht hk he) h kk
/-- an operation whose answer is told by a property -/
theorem z_xI {x : Int32} {P : Int32 → Prop} (ht : z_dcs j segs = true) (n : Nat) (hk : segs[n]? = some [(pc, i, 1)]) (h : z_s1 i pc L S = some (pc + 1, L, .int x :: r)) (kk : ∀ z : Int32, P z → z_ev d j (pc + 1) L (.int z :: r) M K) (hP : P x) : z_ev d j pc L S M K :=
  z_e1 (z_dc1 ht hk) (z_dc2 ht hk) (z_s1e h) h (kk x hP)
theorem z_xL {x : Int64} {P : Int64 → Prop} (ht : z_dcs j segs = true) (n : Nat) (hk : segs[n]? = some [(pc, i, 1)]) (h : z_s1 i pc L S = some (pc + 1, L, .long x :: r)) (kk : ∀ z : Int64, P z → z_ev d j (pc + 1) L (.long z :: r) M K) (hP : P x) : z_ev d j pc L S M K :=
  z_e1 (z_dc1 ht hk) (z_dc2 ht hk) (z_s1e h) h (kk x hP)
/-- iinc -/
theorem z_xN {k : Nat} {c : Int} {x : Int32} {P : Int32 → Prop} (ht : z_dcs j segs = true) (n : Nat) (hk : segs[n]? = some [(pc, .iinc k c, 3)]) (hg : z_get L k = some (.int x)) (kk : ∀ z : Int32, P z → z_ev d j (pc + 3) (z_p1 L k (.int z)) S M K) (hP : P (x + Int32.ofInt c)) : z_ev d j pc L S M K :=
  z_e1 (z_dc1 ht hk) rfl (by cases S <;> rfl) (by simp only [z_s1, hg]) (kk _ hP)
def z_cm (c : ClassFile.Cond) (a b : Int) : Prop := match c with
  | .eq => a = b | .ne => a ≠ b | .lt => a < b | .ge => b ≤ a | .gt => b < a | .le => a ≤ b
def z_cn2 (c : ClassFile.Cond) (a b : Int) : Prop := match c with
  | .eq => a ≠ b | .ne => a = b | .lt => b ≤ a | .ge => a < b | .gt => a ≤ b | .le => b < a
theorem z_cmb {c : ClassFile.Cond} {x y : Int32} {p q : Nat} : (z_cm c x.toInt y.toInt ∧ z_br c x y p q = p) ∨ (z_cn2 c x.toInt y.toInt ∧ z_br c x y p q = q) := by
  have e1 := @Int32.lt_iff_toInt_lt x y
  have e2 := @Int32.lt_iff_toInt_lt y x
  have e3 := @Int32.toInt_inj x y
  cases c <;> dsimp only [z_cm, z_cn2, z_br] <;> split <;> rename_i h
  · exact Or.inl ⟨e3.mpr h, rfl⟩
  · exact Or.inr ⟨fun z => h (e3.mp z), rfl⟩
  · exact Or.inr ⟨e3.mpr h, rfl⟩
  · exact Or.inl ⟨fun z => h (e3.mp z), rfl⟩
  · exact Or.inl ⟨e1.mp h, rfl⟩
  · exact Or.inr ⟨Int.not_lt.mp fun z => h (e1.mpr z), rfl⟩
  · exact Or.inr ⟨e1.mp h, rfl⟩
  · exact Or.inl ⟨Int.not_lt.mp fun z => h (e1.mpr z), rfl⟩
  · exact Or.inl ⟨e2.mp h, rfl⟩
  · exact Or.inr ⟨Int.not_lt.mp fun z => h (e2.mpr z), rfl⟩
  · exact Or.inr ⟨e2.mp h, rfl⟩
  · exact Or.inl ⟨Int.not_lt.mp fun z => h (e2.mpr z), rfl⟩
theorem z_xJ {c : ClassFile.Cond} {off : Int} {t : Nat} {x y : Int32} (ht : z_dcs j segs = true) (n : Nat) (hk : segs[n]? = some [(pc, .if_icmp c off, 3)]) (hg : z_tg pc off = some t) (k1 : z_cm c x.toInt y.toInt → z_ev d j t L r M K) (k2 : z_cn2 c x.toInt y.toInt → z_ev d j (pc + 3) L r M K) : z_ev d j pc L (.int y :: .int x :: r) M K :=
  (@z_cmb c x y t (pc + 3)).elim (fun h => z_ej (z_dc1 ht hk) hg h.2 (k1 h.1)) fun h => z_ej (z_dc1 ht hk) hg h.2 (k2 h.1)
theorem z_xZ {c : ClassFile.Cond} {off : Int} {t : Nat} {x : Int32} (ht : z_dcs j segs = true) (n : Nat) (hk : segs[n]? = some [(pc, .ifCond c off, 3)]) (hg : z_tg pc off = some t) (k1 : z_cm c x.toInt 0 → z_ev d j t L r M K) (k2 : z_cn2 c x.toInt 0 → z_ev d j (pc + 3) L r M K) : z_ev d j pc L (.int x :: r) M K :=
  (@z_cmb c x 0 t (pc + 3)).elim (fun h => z_ez (z_dc1 ht hk) hg h.2 (k1 h.1)) fun h => z_ez (z_dc1 ht hk) hg h.2 (k2 h.1)
/-- fields -/
theorem z_xgv {idx k : Nat} {cis : List Nat} {dc : String} {v : Value} (ht : z_dcs j segs = true) (n : Nat) (hk : segs[n]? = some [(pc, .getfield idx, 3)]) {oc : Nat} (ho : z_oc j = oc) (hq : z_fF oc idx = some ((k, cis), dc)) (hX : z_X T rs M0 M) (ha : T[a]? = some (.inl (ci, q, t, m, J))) (hc : ci ∈ cis) (hv : z_F M a k = some v) (kk : z_ev d j (pc + 3) L (v :: r) M K) : z_ev d j pc L (.ref a :: r) M K := by
  subst ho
  obtain ⟨fs, h1, h2, h3, h4, h5⟩ := hX.1.ob ha
  refine z_egf (z_dc1 ht hk) hq h1 hc h5 ?_ kk
  unfold z_F at hv
  rw [h1] at hv
  exact hv
theorem z_xgI {idx k : Nat} {cis : List Nat} {dc : String} {lo hi : Int} (ht : z_dcs j segs = true) (n : Nat) (hk : segs[n]? = some [(pc, .getfield idx, 3)]) {oc : Nat} (ho : z_oc j = oc) (hq : z_fF oc idx = some ((k, cis), dc)) (hX : z_X T rs M0 M) (ha : T[a]? = some (.inl (ci, q, t, m, J))) (hc : ci ∈ cis) (hf : k < z_nf ci) (hs : z_fsp ci q t m J k = .inl (lo, hi)) (kk : ∀ x : Int32, z_F M a k = some (.int x) → lo ≤ x.toInt → x.toInt ≤ hi → z_ev d j (pc + 3) L (.int x :: r) M K) : z_ev d j pc L (.ref a :: r) M K := by
  subst ho
  obtain ⟨v, h1, h2⟩ := hX.1.fld ha hf
  rw [hs] at h2
  match v, h1, h2 with
  | .int x, h1, h2 => exact z_xgv ht n hk rfl hq hX ha hc h1 (kk x h1 h2.1 h2.2)
theorem z_xgX {idx k b : Nat} {cis : List Nat} {dc : String} (ht : z_dcs j segs = true) (n : Nat) (hk : segs[n]? = some [(pc, .getfield idx, 3)]) {oc : Nat} (ho : z_oc j = oc) (hq : z_fF oc idx = some ((k, cis), dc)) (hX : z_X T rs M0 M) (ha : T[a]? = some (.inl (ci, q, t, m, J))) (hc : ci ∈ cis) (hf : k < z_nf ci) (hs : z_fsp ci q t m J k = .inr (.inl b)) (kk : z_ev d j (pc + 3) L (.ref b :: r) M K) : z_ev d j pc L (.ref a :: r) M K := by
  subst ho
  obtain ⟨v, h1, h2⟩ := hX.1.fld ha hf
  rw [hs] at h2
  match v, h1, h2 with
  | .ref x, h1, h2 =>
    obtain rfl : x = b := h2
    exact z_xgv ht n hk rfl hq hX ha hc h1 kk
theorem z_xgL {idx k : Nat} {cis : List Nat} {dc : String} (ht : z_dcs j segs = true) (n : Nat) (hk : segs[n]? = some [(pc, .getfield idx, 3)]) {oc : Nat} (ho : z_oc j = oc) (hq : z_fF oc idx = some ((k, cis), dc)) (hX : z_X T rs M0 M) (ha : T[a]? = some (.inl (ci, q, t, m, J))) (hc : ci ∈ cis) (hf : k < z_nf ci) (hs : z_fsp ci q t m J k = .inr (.inr none)) (kk : ∀ x : Int64, z_F M a k = some (.long x) → z_ev d j (pc + 3) L (.long x :: r) M K) : z_ev d j pc L (.ref a :: r) M K := by
  subst ho
  obtain ⟨v, h1, h2⟩ := hX.1.fld ha hf
  rw [hs] at h2
  match v, h1, h2 with
  | .long x, h1, h2 => exact z_xgv ht n hk rfl hq hX ha hc h1 (kk x h1)
theorem z_xgR {idx k : Nat} {cis : List Nat} {dc : String} {κ : zK} (ht : z_dcs j segs = true) (n : Nat) (hk : segs[n]? = some [(pc, .getfield idx, 3)]) {oc : Nat} (ho : z_oc j = oc) (hq : z_fF oc idx = some ((k, cis), dc)) (hX : z_X T rs M0 M) (ha : T[a]? = some (.inl (ci, q, t, m, J))) (hc : ci ∈ cis) (hf : k < z_nf ci) (hs : z_fsp ci q t m J k = .inr (.inr (some (false, κ)))) (kk : ∀ b : Nat, z_F M a k = some (.ref b) → T[b]? = some κ → z_ev d j (pc + 3) L (.ref b :: r) M K) : z_ev d j pc L (.ref a :: r) M K := by
  subst ho
  obtain ⟨v, h1, h2⟩ := hX.1.fld ha hf
  rw [hs] at h2
  match v, h1, h2 with
  | .ref x, h1, h2 => exact z_xgv ht n hk rfl hq hX ha hc h1 (kk x h1 h2)
theorem z_xgN {idx k : Nat} {cis : List Nat} {dc : String} {κ : zK} (ht : z_dcs j segs = true) (n : Nat) (hk : segs[n]? = some [(pc, .getfield idx, 3)]) {oc : Nat} (ho : z_oc j = oc) (hq : z_fF oc idx = some ((k, cis), dc)) (hX : z_X T rs M0 M) (ha : T[a]? = some (.inl (ci, q, t, m, J))) (hc : ci ∈ cis) (hf : k < z_nf ci) (hs : z_fsp ci q t m J k = .inr (.inr (some (true, κ)))) (k1 : ∀ b : Nat, z_F M a k = some (.ref b) → T[b]? = some κ → z_ev d j (pc + 3) L (.ref b :: r) M K) (k2 : z_F M a k = some .null → z_ev d j (pc + 3) L (.null :: r) M K) : z_ev d j pc L (.ref a :: r) M K := by
  subst ho
  obtain ⟨v, h1, h2⟩ := hX.1.fld ha hf
  rw [hs] at h2
  match v, h1, h2 with
  | .ref x, h1, h2 => exact z_xgv ht n hk rfl hq hX ha hc h1 (k1 x h1 h2)
  | .null, h1, h2 => exact z_xgv ht n hk rfl hq hX ha hc h1 (k2 h1)
/-- a field is written -/
theorem z_xpf {idx k : Nat} {cis : List Nat} {dc : String} {v : Value} (ht : z_dcs j segs = true) (n : Nat) (hk : segs[n]? = some [(pc, .putfield idx, 3)]) {oc : Nat} (ho : z_oc j = oc) (hq : z_fF oc idx = some ((k, cis), dc)) (hX : z_X T rs M0 M) (ha : T[a]? = some (.inl (ci, q, t, m, J))) (hc : ci ∈ cis) (hf : k < z_nf ci) (hov : z_okv T (z_fsp ci q t m J k) v) (hft : z_fit (z_fty ci k) v = true) (hr : (1000 + 100 * ci + k) ∈ rs) (hw : ((z_cl[ci]?).map fun w => (w.2.1 k).2.2.2) = some false) (kk : ∀ M1, z_X T rs M0 M1 → z_ke T [1000 + 100 * ci + k] M M1 → z_F M1 a k = some v → z_ev d j (pc + 3) L r M1 K) : z_ev d j pc L (v :: .ref a :: r) M K := by
  subst ho
  obtain ⟨fs, h1, h2, h3, h4, h5⟩ := hX.1.ob ha
  have hl : k < fs.length := by rw [h2]; exact hf
  have hkp := z_kpF (i := k) (v := v) ha h1
  refine z_epf (z_dc1 ht hk) hq h1 hc h5 hft hl (Or.inl hw) (kk _ ⟨hX.1.set ha ⟨rfl, ?_, h3, fun i w hi => ?_⟩, hX.2.trans hkp fun x hx => ?_⟩ hkp (z_Fown h1 hl))
  · rw [List.length_set]; exact h2
  · rw [List.getElem?_set] at hi
    split at hi
    · rename_i hki
      subst hki
      cases hi
      exact hov
    · exact h4 i w hi
  · rw [List.mem_singleton.mp hx]; exact hr
/-- arrays -/
theorem z_xil {x : Int32} {ρ len : Nat} {lo hi : Int} (ht : z_dcs j segs = true) (n : Nat) (hk : segs[n]? = some [(pc, .iaload, 1)]) (hX : z_X T rs M0 M) (ha : T[a]? = some (.inr (ρ, 0, len, lo, hi))) (hρ : ρ ≠ 99) (h0 : 0 ≤ x.toInt) (h1 : x.toInt < len) (kk : ∀ y : Int32, z_Ar M a x.toNatClampNeg = y → lo ≤ y.toInt → y.toInt ≤ hi → z_ev d j (pc + 1) L (.int y :: r) M K) : z_ev d j pc L (.int x :: .ref a :: r) M K := by
  obtain ⟨f, e1, e2, e3⟩ := hX.1.ai ha hρ
  have e4 := e3 x.toNatClampNeg (z_cll h1 (by omega))
  exact z_eial (z_dc1 ht hk) e1 (z_inr h0 h1) rfl (kk _ (by rw [e2]) e4.1 e4.2)
theorem z_xll {x : Int32} {ρ len : Nat} {lo hi : Int} (ht : z_dcs j segs = true) (n : Nat) (hk : segs[n]? = some [(pc, .laload, 1)]) (hX : z_X T rs M0 M) (ha : T[a]? = some (.inr (ρ, 1, len, lo, hi))) (hρ : ρ ≠ 99) (h0 : 0 ≤ x.toInt) (h1 : x.toInt < len) (kk : ∀ y : Int64, z_ev d j (pc + 1) L (.long y :: r) M K) : z_ev d j pc L (.int x :: .ref a :: r) M K := by
  obtain ⟨f, e1⟩ := hX.1.al ha hρ
  exact z_elal (z_dc1 ht hk) e1 (z_inr h0 h1) rfl (kk _)
theorem z_xal {x : Int32} {ρ tg len : Nat} {lo hi : Int} (ht : z_dcs j segs = true) (n : Nat) (hk : segs[n]? = some [(pc, .aaload, 1)]) (hX : z_X T rs M0 M) (ha : T[a]? = some (.inr (ρ, tg, len, lo, hi))) (hρ : ρ ≠ 99) (htg : 2 ≤ tg) (ha4 : 4 ≤ a) (h0 : 0 ≤ x.toInt) (h1 : x.toInt < len) (k1 : ∀ b, z_O M a x.toNatClampNeg = some b → z_elk T tg lo b → z_ev d j (pc + 1) L (.ref b :: r) M K) (k2 : z_O M a x.toNatClampNeg = none → z_ev d j (pc + 1) L (.null :: r) M K) : z_ev d j pc L (.int x :: .ref a :: r) M K := by
  obtain ⟨f, e1, e2, e3⟩ := hX.1.aa ha hρ htg
  refine z_eaal (z_dc1 ht hk) e1 (z_inr h0 h1) ha4 htg rfl ?_
  rw [e2] at k1 k2
  match hf : f x.toNatClampNeg with
  | some b => exact k1 b hf (e3 _ b (z_cll h1 (by omega)) hf)
  | none => exact k2 hf
theorem z_xis {x v : Int32} {ρ len : Nat} {lo hi : Int} (ht : z_dcs j segs = true) (n : Nat) (hk : segs[n]? = some [(pc, .iastore, 1)]) (hX : z_X T rs M0 M) (ha : T[a]? = some (.inr (ρ, 0, len, lo, hi))) (hρ : ρ ≠ 99) (ha4 : 4 ≤ a) (h0 : 0 ≤ x.toInt) (h1 : x.toInt < len) (l1 : lo ≤ v.toInt) (l2 : v.toInt ≤ hi) (hr : ρ ∈ rs) (kk : ∀ M1, z_X T rs M0 M1 → z_ke T [ρ] M M1 → z_Ar M1 a = upd (z_Ar M a) x.toNatClampNeg v → z_ev d j (pc + 1) L r M1 K) : z_ev d j pc L (.int v :: .int x :: .ref a :: r) M K := by
  obtain ⟨f, e1, e2, e3⟩ := hX.1.ai ha hρ
  have hkp := z_kpA (z := (0, len, .inl (upd f x.toNatClampNeg v))) ha e1
  refine z_eias (z_dc1 ht hk) e1 (z_inr h0 h1) ha4 (kk _ ⟨hX.1.set ha (Or.inr ⟨rfl, rfl, rfl, fun i hi2 => ?_⟩), hX.2.trans hkp fun z hz => by rw [List.mem_singleton.mp hz]; exact hr⟩ hkp ?_)
  · by_cases hi3 : i = x.toNatClampNeg
    · subst hi3
      rw [show upd f x.toNatClampNeg v x.toNatClampNeg = v from by simp [upd]]
      exact ⟨l1, l2⟩
    · rw [show upd f x.toNatClampNeg v i = f i from by simp [upd, hi3]]
      exact e3 i hi2
  · rw [e2]
    unfold z_Ar
    rw [z_gs1 e1]
theorem z_xls {x : Int32} {v : Int64} {ρ len : Nat} {lo hi : Int} (ht : z_dcs j segs = true) (n : Nat) (hk : segs[n]? = some [(pc, .lastore, 1)]) (hX : z_X T rs M0 M) (ha : T[a]? = some (.inr (ρ, 1, len, lo, hi))) (hρ : ρ ≠ 99) (ha4 : 4 ≤ a) (h0 : 0 ≤ x.toInt) (h1 : x.toInt < len) (hr : ρ ∈ rs) (kk : ∀ M1, z_X T rs M0 M1 → z_ke T [ρ] M M1 → z_ev d j (pc + 1) L r M1 K) : z_ev d j pc L (.long v :: .int x :: .ref a :: r) M K := by
  obtain ⟨f, e1⟩ := hX.1.al ha hρ
  have hkp := z_kpA (z := (1, len, .inr (.inl (z_updL f x.toNatClampNeg v)))) ha e1
  exact z_elas (z_dc1 ht hk) e1 (z_inr h0 h1) ha4 (kk _ ⟨hX.1.set ha (Or.inr ⟨rfl, rfl, rfl⟩), hX.2.trans hkp fun z hz => by rw [List.mem_singleton.mp hz]; exact hr⟩ hkp)
theorem z_xln {ρ tg len : Nat} {lo hi : Int} (ht : z_dcs j segs = true) (n : Nat) (hk : segs[n]? = some [(pc, .arraylength, 1)]) (hX : z_X T rs M0 M) (ha : T[a]? = some (.inr (ρ, tg, len, lo, hi))) (hρ : ρ ≠ 99) (hl : len < 2147483648) (kk : ∀ y : Int32, y.toInt = len → z_ev d j (pc + 1) L (.int y :: r) M K) : z_ev d j pc L (.ref a :: r) M K := by
  have hy : (Int32.ofNat len).toInt = len := by rw [Int32.toInt_ofNat_of_lt hl]
  obtain ⟨e, he, hw⟩ := hX.1.at ha
  match e, hw with
  | .inl (t1, n1, .inl f), hw =>
    obtain ⟨_, rfl, rfl, h4⟩ := hw.resolve_left hρ
    exact z_ealn (z_dc1 ht hk) he rfl (kk _ hy)
  | .inl (t1, n1, .inr (.inl f)), hw =>
    obtain ⟨_, rfl, rfl⟩ := hw.resolve_left hρ
    exact z_ealn (z_dc1 ht hk) he rfl (kk _ hy)
  | .inl (t1, n1, .inr (.inr f)), hw =>
    obtain ⟨rfl, _, rfl, _⟩ := hw.resolve_left hρ
    exact z_ealn (z_dc1 ht hk) he rfl (kk _ hy)
  | .inr _, hw => exact absurd hw hρ
theorem z_xlw {idx : Nat} {y : Int32} (ht : z_dcs j segs = true) (n : Nat) (hk : segs[n]? = some [(pc, .ldc_w idx, 3)]) {oc : Nat} (ho : z_oc j = oc) (hq : (z_find z_ld oc idx).map (·.1) = some y) (kk : z_ev d j (pc + 3) L (.int y :: S) M K) : z_ev d j pc L S M K := by
  subst ho
  exact z_eldw (z_dc1 ht hk) hq kk
theorem z_xl2 {idx : Nat} {y : Int64} (ht : z_dcs j segs = true) (n : Nat) (hk : segs[n]? = some [(pc, .ldc2_w idx, 3)]) {oc : Nat} (ho : z_oc j = oc) (hq : (z_find z_l2 oc idx).map (·.1) = some y) (kk : z_ev d j (pc + 3) L (.long y :: S) M K) : z_ev d j pc L S M K := by
  subst ho
  exact z_eld2 (z_dc1 ht hk) hq kk
theorem z_xgs {idx k : Nat} (ht : z_dcs j segs = true) (n : Nat) (hk : segs[n]? = some [(pc, .getstatic idx, 3)]) {oc : Nat} (ho : z_oc j = oc) (hq : (z_find z_gs oc idx).map (·.1) = some k) (kk : z_ev d j (pc + 3) L (.ref k :: S) M K) : z_ev d j pc L S M K := by
  subst ho
  exact z_egs (z_dc1 ht hk) hq kk
theorem z_xmx {idx n2 : Nat} {tg : List (Nat × Nat)} {x y : Int32} (ht : z_dcs j segs = true) (n : Nat) (hk : segs[n]? = some [(pc, .invokestatic idx, 3)]) {oc : Nat} (ho : z_oc j = oc) (hq : (z_find z_cS oc idx).map (·.1) = some (10, n2, tg)) (hw : z_ws r ≤ 8) (kk : ∀ z : Int32, (z.toInt = x.toInt ∧ y.toInt ≤ x.toInt) ∨ (z.toInt = y.toInt ∧ x.toInt ≤ y.toInt) → z_ev d j (pc + 3) L (.int z :: r) M K) : z_ev d j pc L (.int y :: .int x :: r) M K := by
  subst ho
  exact z_emx (z_dc1 ht hk) hq hw (kk _ (by
    have e1 := @Int32.lt_iff_toInt_lt x y
    split
    · rename_i h; exact Or.inr ⟨rfl, by have := e1.mp h; omega⟩
    · rename_i h; exact Or.inl ⟨rfl, Int.not_lt.mp fun z => h (e1.mpr z)⟩))
theorem z_xmn {idx n2 : Nat} {tg : List (Nat × Nat)} {x y : Int32} (ht : z_dcs j segs = true) (n : Nat) (hk : segs[n]? = some [(pc, .invokestatic idx, 3)]) {oc : Nat} (ho : z_oc j = oc) (hq : (z_find z_cS oc idx).map (·.1) = some (11, n2, tg)) (hw : z_ws r ≤ 8) (kk : ∀ z : Int32, (z.toInt = y.toInt ∧ y.toInt ≤ x.toInt) ∨ (z.toInt = x.toInt ∧ x.toInt ≤ y.toInt) → z_ev d j (pc + 3) L (.int z :: r) M K) : z_ev d j pc L (.int y :: .int x :: r) M K := by
  subst ho
  exact z_emn (z_dc1 ht hk) hq hw (kk _ (by
    have e1 := @Int32.lt_iff_toInt_lt y x
    split
    · rename_i h; exact Or.inl ⟨rfl, by have := e1.mp h; omega⟩
    · rename_i h; exact Or.inr ⟨rfl, Int.not_lt.mp fun z => h (e1.mpr z)⟩))
/-- calls -/
theorem z_xcS {idx kd n2 t2 k n3 : Nat} {vs : List Value} {L2 : zL} (ht : z_dcs j segs = true) (n : Nat) (hk : segs[n]? = some [(pc, .invokestatic idx, 3)]) {oc : Nat} (ho : z_oc j = oc) (hq : (z_find z_cS oc idx).map (·.1) = some (kd, n2, [(t2, k)])) (hkd : kd = 0 ∨ kd = 5) (hn : n2 ≤ S.length) (hv : (S.take n2).reverse = vs) (hr : S.drop n2 = r) (hw : z_ws r ≤ 8) (hm : z_ml k = n3) (he : (z_ent vs 0).length ≤ n3) (hL : z_ent vs n3 = L2) (kk : z_ev d k 0 L2 [] M (z_go (d + 1) j (pc + 3) L r K)) : z_ev (d + 1) j pc L S M K := by
  subst ho
  exact z_ecS (z_dc1 ht hk) hq hkd hn hv hr hw hm he hL kk
theorem z_xcV {idx kd n2 b k n3 : Nat} {tg : List (Nat × Nat)} {vs : List Value} {L2 : zL} (ht : z_dcs j segs = true) (n : Nat) (hk : segs[n]? = some [(pc, .invokevirtual idx, 3)]) {oc : Nat} (ho : z_oc j = oc) (hq : (z_find z_cV oc idx).map (·.1) = some (kd, n2, tg)) (hkd : kd = 1 ∨ kd = 2) (hS : S[n2]? = some (.ref b)) (hX : z_X T rs M0 M) (hb : T[b]? = some (.inl (ci, q, t, m, J))) (hc : (tg.find? fun t => t.1 == ci) = some (ci, k)) (hv : .ref b :: (S.take n2).reverse = vs) (hr : S.drop (n2 + 1) = r) (hw : z_ws r ≤ 8) (hm : z_ml k = n3) (he : (z_ent vs 0).length ≤ n3) (hL : z_ent vs n3 = L2) (kk : z_ev d k 0 L2 [] M (z_go (d + 1) j (pc + 3) L r K)) : z_ev (d + 1) j pc L S M K := by
  subst ho
  obtain ⟨fs, h1, h2, h3, h4, h5⟩ := hX.1.ob hb
  exact z_ecV (z_dc1 ht hk) hq hkd hS h1 h5 hc hv hr hw hm he hL kk
theorem z_xcI {idx kd n2 b t2 k n3 : Nat} {vs : List Value} {L2 : zL} (ht : z_dcs j segs = true) (n : Nat) (hk : segs[n]? = some [(pc, .invokespecial idx, 3)]) {oc : Nat} (ho : z_oc j = oc) (hq : (z_find z_cI oc idx).map (·.1) = some (kd, n2, [(t2, k)])) (hkd : kd = 3 ∨ kd = 4 ∨ kd = 6 ∨ kd = 9) (hS : S[n2]? = some (.ref b)) (hX : z_X T rs M0 M) (hb : T[b]? = some (.inl (ci, q, t, m, J))) (hv : .ref b :: (S.take n2).reverse = vs) (hr : S.drop (n2 + 1) = r) (hw : z_ws r ≤ 8) (hm : z_ml k = n3) (he : (z_ent vs 0).length ≤ n3) (hL : z_ent vs n3 = L2) (kk : z_ev d k 0 L2 [] M (z_go (d + 1) j (pc + 3) L r K)) : z_ev (d + 1) j pc L S M K := by
  subst ho
  obtain ⟨fs, h1, h2, h3, h4, h5⟩ := hX.1.ob hb
  exact z_ecI (z_dc1 ht hk) hq hkd hS h1 h5 hv hr hw hm he hL kk
/-- ends -/
theorem z_xri {x : Int32} (ht : z_dcs j segs = true) (n : Nat) (hk : segs[n]? = some [(pc, .ireturn, 1)]) (hr : z_rt j = some .int) (k : K (some (.int x)) M) : z_ev d j pc L [.int x] M K := z_eri (z_dc1 ht hk) hr k
theorem z_xrz {x : Int32} (ht : z_dcs j segs = true) (n : Nat) (hk : segs[n]? = some [(pc, .ireturn, 1)]) (hr : z_rt j = some .boolean) (h0 : 0 ≤ x.toInt) (h1 : x.toInt ≤ 1) (k : K (some (.int x)) M) : z_ev d j pc L [.int x] M K := z_erz (z_dc1 ht hk) hr (by
    have e0 := @Int32.toInt_inj x 0
    have e1 := @Int32.toInt_inj x 1
    rw [show (0 : Int32).toInt = 0 from rfl] at e0
    rw [show (1 : Int32).toInt = 1 from rfl] at e1
    by_cases h : x.toInt = 0
    · exact Or.inl (e0.mp h)
    · exact Or.inr (e1.mp (by omega))) k
theorem z_xrl {x : Int64} (ht : z_dcs j segs = true) (n : Nat) (hk : segs[n]? = some [(pc, .lreturn, 1)]) (hr : z_rt j = some .long) (k : K (some (.long x)) M) : z_ev d j pc L [.long x] M K := z_erl (z_dc1 ht hk) hr k
theorem z_xra {b : Nat} {C : String} (ht : z_dcs j segs = true) (n : Nat) (hk : segs[n]? = some [(pc, .areturn, 1)]) (hr : z_rt j = some (.object C)) (k : K (some (.ref b)) M) : z_ev d j pc L [.ref b] M K := z_era (z_dc1 ht hk) hr k
theorem z_xrn {C : String} (ht : z_dcs j segs = true) (n : Nat) (hk : segs[n]? = some [(pc, .areturn, 1)]) (hr : z_rt j = some (.object C)) (k : K (some .null) M) : z_ev d j pc L [.null] M K := z_ern (z_dc1 ht hk) hr k
theorem z_xrv (ht : z_dcs j segs = true) (n : Nat) (hk : segs[n]? = some [(pc, .return_, 1)]) (hr : z_rt j = none) (k : K none M) : z_ev d j pc L [] M K := z_erv (z_dc1 ht hk) hr k
end ZXX
