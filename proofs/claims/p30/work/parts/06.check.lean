/-! the data hold: each word stands in the tables at its place -/
def z_tb : List Jvm.Cond := lw_tbl.filter goodWord
theorem z_tk_sub : ∀ l ∈ z_tk, ∀ w ∈ l, w ∈ lw_tbl := by
  intro l hl w hw
  simp only [z_tk, List.mem_cons, List.not_mem_nil, or_false] at hl
  show w ∈ z_sb16 ++ (k2_sels lw_privs ++ (tables_1_1 ++ (tables_1_2 ++ (tables_1_3 ++ (tables_1_4 ++ (tables_1_5 ++ (tables_1_6 ++ (tables_1_7 ++ tables_1_8))))))))
  simp only [List.mem_append]
  rcases hl with rfl | rfl | rfl | rfl | rfl | rfl | rfl | rfl | rfl | rfl <;> simp only [hw, true_or, or_true]
def z_in (p : Nat) (w : Jvm.Cond) : Bool := decide (z_look p = some w) && goodWord w
theorem z_in_mem {p : Nat} {w : Jvm.Cond} (h : z_in p w = true) : w ∈ z_tb := by
  simp only [z_in, Bool.and_eq_true, decide_eq_true_eq] at h
  obtain ⟨l, h1, h2⟩ := Option.bind_eq_some_iff.mp h.1
  exact List.mem_filter.mpr ⟨z_tk_sub l (List.mem_of_getElem? h1) w (List.mem_of_getElem? h2), h.2⟩
def z_ins (ws : List Jvm.Cond) (ps : List Nat) : Bool := decide (ws.length = ps.length) && (ws.zip ps).all fun q => z_in q.2 q.1
theorem z_ins_mem {ws : List Jvm.Cond} {ps : List Nat} (h : z_ins ws ps = true) : ∀ w ∈ ws, w ∈ z_tb := by
  simp only [z_ins, Bool.and_eq_true, decide_eq_true_eq, List.all_eq_true] at h
  intro w hw
  obtain ⟨i, hi⟩ := List.getElem?_of_mem hw
  have hl : i < ws.length := (List.getElem?_eq_some_iff.mp hi).1
  have hp : ps[i]? = some ps[i] := List.getElem?_eq_getElem (by rw [← h.1]; exact hl)
  have hm : (w, ps[i]) ∈ ws.zip ps := List.mem_of_getElem? (i := i) (by rw [List.getElem?_zip_eq_some]; exact ⟨hi, hp⟩)
  exact z_in_mem (h.2 _ hm)
theorem z_tb_good : GoodIn z_tb z_tb := fun w hw => ⟨hw, good_of_word (List.mem_filter.mp hw).2⟩
def z_fine (cn : String) : Bool := decide (cn ≠ "java/lang/invoke/MethodHandle") && decide (cn ≠ "java/lang/invoke/VarHandle")
def z_okm (j : Nat) : Bool := plainName (z_name j).cls && (decide (z_cn (z_oc j) = (z_name j).cls) && (decide (z_ml j ≤ 20) && z_fine (z_name j).cls))
set_option maxRecDepth 100000 in
theorem z_okm_all : ∀ j, j < z_nm → z_okm j = true := by decide +kernel
theorem z_cw_all : ∀ q ∈ z_mq, z_cw q := by
  intro q hq
  simp only [z_mq, List.mem_append] at hq
  rcases hq with h | h | h | h | h | h | h | h
  · exact z_cw0 q h
  · exact z_cw1 q h
  · exact z_cw2 q h
  · exact z_cw3 q h
  · exact z_cw4 q h
  · exact z_cw5 q h
  · exact z_cw6 q h
  · exact z_cw7 q h
/-- a method's code word -/
theorem z_code {j : Nat} (h1 : 1 ≤ j) (h2 : j < z_nm) : Jvm.Cond.code (z_name j) (z_b j) (z_ml j) (z_rt j) ∈ z_tb := by
  match j, h1, h2 with
  | k + 1, _, h2 =>
    have hl : k < z_mq.length := by
      have e : z_mq.length + 1 = z_nm := by decide +kernel
      omega
    have he : z_mq[k]? = some z_mq[k] := List.getElem?_eq_getElem hl
    have hc := z_cw_all _ (List.mem_of_getElem? he)
    have hm : z_m (k + 1) = (z_mq[k]).1 := by
      show ((z_mq[k]?).map (·.1)).getD _ = _
      rw [he]
      rfl
    unfold z_name z_b z_ml z_rt
    rw [hm]
    unfold z_cw at hc
    obtain ⟨l, q1, q2⟩ := Option.bind_eq_some_iff.mp hc
    exact List.mem_filter.mpr ⟨z_tk_sub l (List.mem_of_getElem? q1) _ (List.mem_of_getElem? q2), rfl⟩
def z_np (x : MethodName) (n : Nat) : Bool := decide ((parseMethodDescriptor x.desc).map (fun d => d.parameters.length) = some n)
def z_okj (k : Nat) : Bool := decide (1 ≤ k ∧ k < z_nm)
abbrev zC : Type := (Nat × Nat) × (Nat × Nat × List (Nat × Nat)) × (MethodName × String × String) × List Nat
def z_okS (q : zC) : Bool := match q with
  | ((c, idx), (kd, n, tg), (y, _, host), ps) => match kd, tg with
    | 0, [(_, k)] => decide (y = z_name k) && (z_np y n && (z_okj k && z_ins [.methodLink (z_cn c) idx y, .static y, .initialized y.cls] ps))
    | 5, [(_, k)] => decide (y = z_name k) && (z_np y n && (z_okj k && (z_ins [.static y, .initialized y.cls] ps && decide (Jvm.Cond.methodLinkNest (z_cn c) idx y host ∈ z_xw))))
    | 10, [] => decide (y = Jvm.Lib.Math.max.name) && z_ins [.methodLink (z_cn c) idx y, .static y, .initialized "java/lang/Math", .code y Jvm.Lib.Math.max.code 2 (some .int)] ps
    | 11, [] => decide (y = Jvm.Lib.Math.min.name) && z_ins [.methodLink (z_cn c) idx y, .static y, .initialized "java/lang/Math", .code y Jvm.Lib.Math.min.code 2 (some .int)] ps
    | 8, [] => decide (y = arraycopyName) && (decide (n = 5) && z_ins [.methodLink (z_cn c) idx y, .native y, .static y, .initialized y.cls] ps)
    | _, _ => false
def z_okV (q : zC) : Bool := match q with
  | ((c, idx), (kd, n, tg), (y, ow, _), ps) => match kd, tg with
    | 1, [(ci, k)] => decide (y = z_name k) && (z_np y n && (z_okj k && (decide (z_cn ci = y.cls ∧ ci < 13) && z_ins [.methodLink (z_cn c) idx y, .instanceMethod y, .selects y.cls y y, .initialized y.cls] ps)))
    | 2, tg => z_np y n && (z_fine ow && (z_ins ([.methodLink (z_cn c) idx y, .sameMethod y.cls ow y.name y.desc, .instanceMethod ⟨ow, y.name, y.desc⟩] ++ tg.flatMap fun t => [.selects (z_cn t.1) y (z_name t.2), .instanceMethod (z_name t.2), .initialized (z_name t.2).cls]) ps &&
        ((tg.all fun t => z_okj t.2 && decide (t.1 < 13)) && ((List.range z_nm).any fun k => z_okj k && decide (z_name k = ⟨ow, y.name, y.desc⟩)))))
    | _, _ => false
def z_okI (q : zC) : Bool := match q with
  | ((c, idx), (kd, n, tg), (y, ow, host), ps) => match kd, tg with
    | 3, [(_, k)] => decide (y = z_name k ∧ y.name = "<init>" ∧ z_rt k = none) && (z_np y n && (z_okj k && z_ins [.methodLink (z_cn c) idx y, .instanceMethod y, .initialized y.cls] ps))
    | 6, [(_, k)] => decide (y = z_name k ∧ y.name = "<init>" ∧ z_rt k = none) && (z_np y n && (z_okj k && (z_ins [.instanceMethod y, .initialized y.cls] ps && decide (Jvm.Cond.methodLinkNest (z_cn c) idx y host ∈ z_xw))))
    | 7, [] => decide (y = Jvm.Lib.objectInit) && z_ins [.methodLink (z_cn c) idx y, .instanceMethod y] ps
    | 4, [(_, k)] => decide (y = z_name k ∧ y.name ≠ "<init>") && (z_np y n && (z_okj k && z_ins [.methodLink (z_cn c) idx y, .sameMethod y.cls y.cls y.name y.desc, .superclass (z_cn c) y.cls, .instanceMethod y, .initialized y.cls] ps))
    | 9, [(_, k)] => decide (z_name k = ⟨ow, y.name, y.desc⟩ ∧ y.name ≠ "<init>") && (z_np y n && (z_okj k && z_ins [.methodLink (z_cn c) idx y, .sameMethod y.cls ow y.name y.desc, .superclass (z_cn c) y.cls, .superclass y.cls ow, .instanceMethod (z_name k), .initialized (z_name k).cls] ps))
    | _, _ => false
set_option maxRecDepth 100000 in
theorem z_cS_ok : ∀ q ∈ z_cS, z_okS q = true := by decide +kernel
set_option maxRecDepth 100000 in
theorem z_cV0_ok : ∀ q ∈ z_cV0, z_okV q = true := by decide +kernel
set_option maxRecDepth 100000 in
theorem z_cV1_ok : ∀ q ∈ z_cV1, z_okV q = true := by decide +kernel
set_option maxRecDepth 100000 in
theorem z_cV2_ok : ∀ q ∈ z_cV2, z_okV q = true := by decide +kernel
set_option maxRecDepth 100000 in
theorem z_cV3_ok : ∀ q ∈ z_cV3, z_okV q = true := by decide +kernel
set_option maxRecDepth 100000 in
theorem z_cV4_ok : ∀ q ∈ z_cV4, z_okV q = true := by decide +kernel
theorem z_cV_ok : ∀ q ∈ z_cV, z_okV q = true := by
  intro q hq
  simp only [z_cV, List.mem_append] at hq
  rcases hq with h | h | h | h | h
  · exact z_cV0_ok q h
  · exact z_cV1_ok q h
  · exact z_cV2_ok q h
  · exact z_cV3_ok q h
  · exact z_cV4_ok q h
set_option maxRecDepth 100000 in
theorem z_cI_ok : ∀ q ∈ z_cI, z_okI q = true := by decide +kernel
def z_okf (q : (Nat × Nat) × (Nat × List Nat) × (String × String × String × String) × (Nat × Nat)) : Bool := match q with
  | ((c, idx), (k, cis), (ref, decl, name, desc), (p1, p2)) => z_in p1 (.fieldLink (z_cn c) idx ref name desc) && ((decide (ref = decl) || z_in p2 (.sameField ref decl name desc)) &&
      cis.all fun ci => match z_cl[ci]? with | some w => decide (k < w.2.2 ∧ (w.2.1 k).1 = decl ∧ (w.2.1 k).2.1 = name ∧ (w.2.1 k).2.2.1 = desc) | none => false)
set_option maxRecDepth 100000 in
theorem z_fl_ok : ∀ q ∈ z_fl, z_okf q = true := by decide +kernel
/-- a class's own words: its layout, that it can be made; the types of its fields -/
def z_okc (ci : Nat) : Bool := match z_cl[ci]? with
  | some w => decide (w.1 = z_cn ci) && ((List.range w.2.2).all fun k => decide (parseFieldDescriptor (w.2.1 k).2.2.1 = some (z_fty ci k)) && (List.range w.2.2).all fun q => decide (k = q) || decide ((w.2.1 k).2.1 ≠ (w.2.1 q).2.1))
  | none => false
theorem z_okc_all : ∀ ci, ci < 13 → z_okc ci = true := by decide +kernel
set_option maxRecDepth 100000 in
theorem z_lay_all : ∀ w ∈ z_cl, ∀ u ∈ u_ws w.1 w.2.1 w.2.2, u ∈ lw_tbl ∧ goodWord u = true := by decide +kernel
/-- the types of fields that there are -/
def z_tyk : FieldType → Bool
  | .int => true
  | .long => true
  | .boolean => true
  | .object _ => true
  | .array _ => true
  | _ => false
theorem z_tyk_all : ∀ ci, ci < 13 → ∀ k, k < z_nf ci → z_tyk (z_fty ci k) = true := by decide +kernel
def z_okn (q : (Nat × Nat) × Nat × (Nat × Nat × Nat)) : Bool := match q with
  | ((c, idx), ci, (p1, p2, p3)) => decide (ci < 13) && (z_in p1 (.classLink (z_cn c) idx (z_cn ci)) && (z_in p2 (.instantiable (z_cn ci) (z_nf ci)) && z_in p3 (.initialized (z_cn ci))))
set_option maxRecDepth 100000 in
theorem z_nw_ok : ∀ q ∈ z_nw, z_okn q = true := by decide +kernel
def z_oka (q : (Nat × Nat) × Nat × Nat) : Bool := match q with
  | ((c, idx), t, p1) => match t with
    | 2 => z_in p1 (.classLink (z_cn c) idx "DoorBench$Bench")
    | 3 => z_in p1 (.classLink (z_cn c) idx "DoorBench$Way")
    | _ => false
set_option maxRecDepth 100000 in
theorem z_an_ok : ∀ q ∈ z_an, z_oka q = true := by decide +kernel
def z_okg (q : (Nat × Nat) × Nat × (String × String) × String × Nat) : Bool := match q with
  | ((c, idx), k, (name, desc), host, p1) => decide ((k = 1 ∧ name = "CHOOSE" ∧ desc = "[I") ∨ (k = 2 ∧ name = "YES_SETS" ∧ desc = "[J") ∨ (k = 3 ∧ name = "KIND_ABOVE" ∧ desc = "[I")) && (if host = "" then z_in p1 (.fieldLink (z_cn c) idx "DoorBench" name desc) else decide (Jvm.Cond.fieldLinkNest (z_cn c) idx "DoorBench" name desc host ∈ z_xw))
set_option maxRecDepth 100000 in
theorem z_gs_ok : ∀ q ∈ z_gs, z_okg q = true := by decide +kernel
set_option maxRecDepth 100000 in
theorem z_ld_ok : ∀ q ∈ z_ld, z_in q.2.2 (.constant (z_cn q.1.1) q.1.2 q.2.1) = true := by decide +kernel
set_option maxRecDepth 100000 in
theorem z_l2_ok : ∀ q ∈ z_l2, z_in q.2.2 (.constantLong (z_cn q.1.1) q.1.2 q.2.1) = true := by decide +kernel
theorem z_find_mem {α : Type} {l : List ((Nat × Nat) × α)} {c i : Nat} {v : α} (h : z_find l c i = some v) : ((c, i), v) ∈ l := by
  unfold z_find at h
  cases hf : l.find? fun e => e.1.1 == c && e.1.2 == i with
  | none => rw [hf] at h; cases h
  | some q =>
    rw [hf] at h
    cases h
    have h1 := List.find?_some hf
    have h2 := List.mem_of_find?_eq_some hf
    simp only [Bool.and_eq_true, beq_iff_eq] at h1
    obtain ⟨⟨a, b⟩, v⟩ := q
    simp only at h1
    rw [← h1.1, ← h1.2]
    exact h2
theorem z_arr_ok (t : ArrayType) (h : t = .int ∨ t = .long) : Jvm.Cond.arrayClass (newarray.typeOf t) ∈ z_tb := by
  rcases h with rfl | rfl
  · exact z_in_mem (p := 1072) (by decide +kernel)
  · exact z_in_mem (p := 1073) (by decide +kernel)
