/-! THE CLAIM OUT OF ONE WALK OF THE LAW'S BODY. Your part is whole_start (and what it stands on); all else here is the same for every law, but numbers. -/
def R_law : String := "DoorBenchLaw"
def lw_P (b : Addr) (xs : List Int32) (args : Array Value) (s : State) : Prop := args = #[.ref b] ∧ s.IntsAt b xs ∧ xs.length ≤ 3072 ∧ (Jvm.Cond.and given_1 narrow_1).before args s = true
def lw_Q (_ : Array Value) (s : State) (o : Outcome) (t : State) : Prop := o = .returned (some (.int 1)) ∧ Framed s o t [] 600000 7302249
def lw_Z (below : List Frame) (a : Array Value) (s : State) : State → Prop := fun t => ∃ o, t.status = .running ∧ Ended t below o ∧ lw_Q a s o t
/-- the law's own end, with 1 on the stack, nothing written that was there before, its room as the claim has it -/
theorem lw_ret {p : Program} {l : Launch} {e : Env} {s : State} {m : MethodId} {below : List Frame} {meth : Method} {c : Code} {b : Nat} (hx : p.tables.exec = Jvm.exec) (hb : c.code = code) (hr : meth.sig.returnType = ret) (hlocks : meth.locks = false) {pc : Nat} {H : Heap} {ls : Array Slot} (hdg : decode code pc = .ok (.ireturn, 1)) : W p l e room_1 s m #[Value.ref b] below meth c H [] 600000 7302249 (lw_Z below #[Value.ref b] s) (F0 m pc ls [.int 1]) := by
  intro T hT X
  obtain ⟨fs, hret, hrun, hended, hW, hframe⟩ := X.leave (v := some (.int 1)) (hlocks := hlocks) (fun h => by rw [hr] at h; cases h)
  have hmeth' : T.vm.method? m = some meth := X.method'
  refine ⟨T.setFrames fs, ?_, .returned (some (.int 1)), hrun, hended, rfl, ⟨_, rfl⟩, hW, hframe⟩
  jvm_step X.here [X.here.top, hx, hb, hdg, hmeth', hr, ret, narrow_b1]
  (try refine ⟨rfl, ?_⟩); (try refine ⟨rfl, ?_⟩)
  first | (intro acts; rw [hret _ acts rfl rfl rfl]) | rw [hret _ _ rfl rfl rfl]
  exact Steps.refl _
/-- what holds at the law's entry: the machine, the code, the tables' words (any of lw_tbl by 'hts w (by decide +kernel)'), the script of L ints xs at the cell b, what the Statement gives of the start (any of its parts by flat_of_before) -/
def lw_At (p : Program) (s : State) (m : MethodId) (meth : Method) (c : Code) (b L : Nat) (xs : Nat → Int32) : Prop :=
  p.tables.exec = Jvm.exec ∧ c.code = code ∧ meth.sig.returnType = ret ∧ c.maxLocals = 4 ∧ s.vm.findClass R_law = some m.cls ∧ (∀ w ∈ lw_tbl, w.before #[Value.ref b] s = true) ∧ va_X b L xs s s.heap ∧ b < s.heap.size ∧ meth.locks = false ∧ (Jvm.Cond.and given_1 narrow_1).before #[Value.ref b] s = true
/-! the start of the law: what the mini-VM's heap is there -/
def z_tc : List Int32 := [1, 0, 0, 0, 0, 0, 1, 1, 0, 0, 0, 0, 1, 2, 1, 0, 0, 0, 1, 3, 3, 1, 0, 0, 1, 4, 6, 4, 1, 0, 1, 5, 10, 10, 5, 1, 1, 6, 15, 20, 15, 6, 1, 7, 21, 35, 35, 21, 1, 8, 28, 56, 70, 56, 1, 9, 36, 84, 126, 126, 1, 10, 45, 120, 210, 252, 1, 11, 55, 165, 330, 462, 1, 12, 66, 220, 495, 792, 1, 13, 78, 286, 715, 1287, 1, 14, 91, 364, 1001, 2002, 1, 15, 105, 455, 1365, 3003, 1, 16, 120, 560, 1820, 4368]
def z_tk3 : List Int32 := [(-1), 0, 1, 1, 0, 0, 5, 0]
def z_ty2 : List Int64 := [(-6148914691236517206), (-3689348814741910324), (-1085102592571150096), (-71777214294589696), (-281470681808896), (-4294967296)]
/-- the cells that are there before the law makes any -/
def z_M0 (L : Nat) (xs : Nat → Int32) : zH := [.inl (0, L, .inl xs), .inl (0, 102, .inl fun j => z_tc.getD j 0), .inl (1, 6, .inr (.inl fun j => z_ty2.getD j 0)), .inl (0, 8, .inl fun j => z_tk3.getD j 0)]
def z_flat : List Jvm.Cond := flatC (Jvm.Cond.and given_1 narrow_1)
theorem z_el_c : ∀ j, j < 102 → Jvm.Cond.eq (.elem (.static "DoorBench" "CHOOSE" "[I") (.int (Int32.ofNat j))) (.int (z_tc.getD j 0)) ∈ z_flat := by decide +kernel
theorem z_el_k : ∀ j, j < 8 → Jvm.Cond.eq (.elem (.static "DoorBench" "KIND_ABOVE" "[I") (.int (Int32.ofNat j))) (.int (z_tk3.getD j 0)) ∈ z_flat := by decide +kernel
theorem z_el_y : ∀ j, j < 6 → Jvm.Cond.eq (.elem (.static "DoorBench" "YES_SETS" "[J") (.int (Int32.ofNat j))) (.long (z_ty2.getD j 0)) ∈ z_flat := by decide +kernel
theorem z_lw_in : ∀ w ∈ z_tb, w ∈ lw_tbl := fun w h => (List.mem_filter.mp h).1
theorem z_xw_in : ∀ w ∈ z_xw, w ∈ tables_1 := by decide +kernel
theorem z_tb_1 {w : Jvm.Cond} (h : w ∈ tables_1) : w ∈ lw_tbl := List.mem_append_right _ (List.mem_append_right _ h)
theorem z_inst_in : ∀ ci, ci < 13 → Jvm.Cond.instantiable (z_cn ci) (z_nf ci) ∈ tables_1 := by decide +kernel
theorem z_ao_b : Jvm.Cond.arrayOver (.object "DoorBench$Bench") ∈ tables_1 := by decide +kernel
theorem z_ao_w : Jvm.Cond.arrayOver (.object "DoorBench$Way") ∈ tables_1 := by decide +kernel
theorem z_ls_c : Jvm.Cond.laysStatic "DoorBench" "CHOOSE" "[I" ∈ tables_1 := by decide +kernel
theorem z_ls_y : Jvm.Cond.laysStatic "DoorBench" "YES_SETS" "[J" ∈ tables_1 := by decide +kernel
theorem z_ls_k : Jvm.Cond.laysStatic "DoorBench" "KIND_ABOVE" "[I" ∈ tables_1 := by decide +kernel
theorem z_ini : Jvm.Cond.initialized "DoorBench" ∈ tables_1 := by decide +kernel
theorem z_a_c : Jvm.Cond.arrayOf (.static "DoorBench" "CHOOSE" "[I") .int ∈ z_flat := by decide +kernel
theorem z_a_k : Jvm.Cond.arrayOf (.static "DoorBench" "KIND_ABOVE" "[I") .int ∈ z_flat := by decide +kernel
theorem z_a_y : Jvm.Cond.arrayOf (.static "DoorBench" "YES_SETS" "[J") .long ∈ z_flat := by decide +kernel
theorem z_n_c : Jvm.Cond.eq (.length (.static "DoorBench" "CHOOSE" "[I")) (.int 102) ∈ z_flat := by decide +kernel
theorem z_n_k : Jvm.Cond.eq (.length (.static "DoorBench" "KIND_ABOVE" "[I")) (.int 8) ∈ z_flat := by decide +kernel
theorem z_n_y : Jvm.Cond.eq (.length (.static "DoorBench" "YES_SETS" "[J")) (.int 6) ∈ z_flat := by decide +kernel
/-- an array's class, of numbers -/
theorem z_kp {s : State} {args : Array Value} {ty : FieldType} (h : (Jvm.Cond.arrayClass ty).before args s = true) (hr : va_RA s 0 ty = (s.vm.findClass ("[" ++ ty.toString) = some 0)) (hr2 : ∀ q, va_RA s q ty = (s.vm.findClass ("[" ++ ty.toString) = some q)) : ∃ cA, ArrOfT s cA ty ∧ va_RA s cA ty := by
  obtain ⟨c, k, comp, h1, h2, h3⟩ := Cond.arrayClass_spec h
  exact ⟨c, fun n z => ⟨fun k h => (by cases h), k, h2, comp, h3⟩, by rw [hr2]; exact h1⟩
theorem z_ko {s : State} {args : Array Value} {C : String} (h : (Jvm.Cond.arrayOver (.object C)).before args s = true) : ∃ cA, ArrOfT s cA (.object C) ∧ va_RA s cA (.object C) := by
  obtain ⟨comp, c, k, h1, -, h2, h3, h4⟩ := Cond.arrayOver_spec h
  exact ⟨c, fun n z => ⟨fun k h => (by cases h), k, h2, comp, h3⟩, k, comp, h2, h3, h1, h4⟩
theorem z_K_start {s : State} {args : Array Value} (hts : ∀ w ∈ lw_tbl, w.before args s = true) : ∃ G, z_K G s := by
  have hk : ∀ ci : Nat, ∃ (cC : ClassId) (iS : Nat → Nat), ∀ q, z_cl[ci]? = some q → u_Kn s q.1 q.2.1 q.2.2 cC iS := by
    intro ci
    cases hw : z_cl[ci]? with
    | none => exact ⟨0, fun _ => 0, fun q h => by cases h⟩
    | some w =>
      have hl : ci < 13 := (List.getElem?_eq_some_iff.mp hw).1
      have hin : ∀ u ∈ u_ws w.1 w.2.1 w.2.2, u ∈ lw_tbl := fun u hu => (z_lay_all w (List.mem_of_getElem? hw) u hu).1
      have hi := z_inst_in ci hl
      have hn : z_nf ci = w.2.2 := by unfold z_nf; rw [hw]; rfl
      rw [← (z_okc_use hw).1, hn] at hi
      obtain ⟨cC, iS, h⟩ := u_known hts hin (hts _ (z_tb_1 hi))
      exact ⟨cC, iS, fun q hq => by cases hq; exact h⟩
  have ha : ∀ t : Nat, ∃ cA : ClassId, t < 4 → ArrOfT s cA (z_ty t) ∧ va_RA s cA (z_ty t) := by
    intro t
    match t with
    | 0 =>
      obtain ⟨cA, h⟩ := z_kp (hts _ (z_lw_in _ (z_arr_ok .int (Or.inl rfl)))) rfl (fun _ => rfl)
      exact ⟨cA, fun _ => h⟩
    | 1 =>
      obtain ⟨cA, h⟩ := z_kp (hts _ (z_lw_in _ (z_arr_ok .long (Or.inr rfl)))) rfl (fun _ => rfl)
      exact ⟨cA, fun _ => h⟩
    | 2 =>
      obtain ⟨cA, h⟩ := z_ko (hts _ (z_tb_1 z_ao_b))
      exact ⟨cA, fun _ => h⟩
    | t + 3 =>
      obtain ⟨cA, h⟩ := z_ko (hts _ (z_tb_1 z_ao_w))
      exact ⟨cA, fun _ => h⟩
  refine ⟨(fun ci => Classical.choose (hk ci), fun ci => Classical.choose (Classical.choose_spec (hk ci)), fun t => Classical.choose (ha t)), fun ci q hq => Classical.choose_spec (Classical.choose_spec (hk ci)) q hq, fun t ht => Classical.choose_spec (ha t) ht, fun w hw => ?_, va_AO.of (hts _ (z_tb_1 z_ao_b)), va_AO.of (hts _ (z_tb_1 z_ao_w))⟩
  have hb := hts _ (z_tb_1 (z_xw_in w hw))
  have ht : w.onTables = true := by
    simp only [z_xw, List.mem_cons, List.not_mem_nil, or_false] at hw
    rcases hw with rfl | rfl | rfl | rfl | rfl | rfl | rfl | rfl | rfl | rfl | rfl | rfl | rfl <;> rfl
  exact va_Nw.of ht hb
theorem z_R_start {s : State} {b L : Nat} {xs : Nat → Int32} (hL : L < 2 ^ 31) (hts : ∀ w ∈ lw_tbl, w.before #[Value.ref b] s = true) (hX : va_X b L xs s s.heap) (hbl : b < s.heap.size) (hgv : (Jvm.Cond.and given_1 narrow_1).before #[Value.ref b] s = true) : ∃ r, r 0 = b ∧ z_R r (z_A s.heap.size) (z_M0 L xs) s s.heap := by
  have hs := flat_of_before _ hgv
  have hA : ∀ a : Nat, a < s.heap.size → ¬ z_A s.heap.size a := fun a ha => Nat.not_le.mpr ha
  obtain ⟨t1, e1, g1⟩ := va_Tof (N := 102) (f := fun j => .int (z_tc.getD j 0)) (by decide) (hs _ z_a_c) (va_eqt (hs _ z_n_c)) (fun j hj => va_eqt (hs _ (z_el_c j hj))) hA
  obtain ⟨t2, e2, g2⟩ := va_Tof (N := 6) (f := fun j => .long (z_ty2.getD j 0)) (by decide) (hs _ z_a_y) (va_eqt (hs _ z_n_y)) (fun j hj => va_eqtl (hs _ (z_el_y j hj))) hA
  obtain ⟨t3, e3, g3⟩ := va_Tof (N := 8) (f := fun j => .int (z_tk3.getD j 0)) (by decide) (hs _ z_a_k) (va_eqt (hs _ z_n_k)) (fun j hj => va_eqt (hs _ (z_el_k j hj))) hA
  have hi := hts _ (z_tb_1 z_ini)
  refine ⟨fun k => match k with | 0 => b | 1 => t1 | 2 => t2 | _ => t3, rfl, va_Zref (hts _ (z_tb_1 z_ls_c)) hi e1 hA, va_Zref (hts _ (z_tb_1 z_ls_y)) hi e2 hA, va_Zref (hts _ (z_tb_1 z_ls_k)) hi e3 hA, fun k e he => ?_⟩
  match k, he with
  | 0, he =>
    cases he
    obtain ⟨scr, h1, h2, h3, h4, h5⟩ := hX
    exact ⟨rfl, scr, h1, h2, h3, by omega, by rw [h4] <;> rfl, h5, hA b hbl⟩
  | 1, he => cases he; exact ⟨rfl, g1⟩
  | 2, he => cases he; exact ⟨rfl, g2⟩
  | 3, he => cases he; exact ⟨rfl, g3⟩
  | k + 4, he => simp [z_M0] at he
/-- THE LAW, out of a run of the mini-VM -/
theorem z_law {p : Program} {e : Env} {s : State} {m : MethodId} {below : List Frame} {meth : Method} {c : Code} (l : Launch) {b L : Nat} {xs : Nat → Int32} (hL : L < 2 ^ 31) (C0 : lw_At p s m meth c b L xs) {n d : Nat} {M1 : zH} (hrun : z_run n d 0 0 (z_ent [.ref 0] 4) [] (z_M0 L xs) = some (some (.int 1), M1)) (hd : d ≤ 2047) (hc : M1.length ≤ 600000) (hs : z_sz M1 ≤ 7302249) :
    W p l e room_1 s m #[Value.ref b] below meth c s.heap [] 0 0 (lw_Z below #[Value.ref b] s) (entryFrame m ([Value.ref b] : List Value).toArray 4) := by
  obtain ⟨hx, hb, hr, hml, hown, hts, hX, hbl, hlocks, hgv⟩ := C0
  obtain ⟨G, hK⟩ := z_K_start hts
  obtain ⟨r, hr0, hR⟩ := z_R_start hL hts hX hbl hgv
  have hRl : z_Rl G r s.heap.size (z_M0 L xs) s.heap (z_M0 L xs) s.heap [] := ⟨rfl, Nat.le_refl 4, rfl, fun k e hk he => by
    have := (List.getElem?_eq_some_iff.mp he).1
    exact absurd this (Nat.not_lt.mpr hk), va_S.rf, Nat.le_refl _⟩
  have X : z_Cx G p s m #[Value.ref b] meth c 0 := ⟨hx, hb, hml, hown, fun w hw => hts w (z_lw_in w hw), fun h => absurd h (by decide +kernel), hK⟩
  have hl := z_lv_entry (z_ad r s.heap.size) [.ref 0] (n := 4) (by decide)
  have hsh : ([.ref 0] : List Value).map (z_sh (z_ad r s.heap.size)) = [.ref b] := by
    show [Value.ref (z_ad r s.heap.size 0)] = _
    rw [z_ad_lt (by decide), hr0]
  rw [hsh] at hl
  rw [lg_entry_eq]
  refine z_sound l G r s.heap.size (z_M0 L xs) n X hR hRl hl hrun ?_ ?_ ?_ ?_ ?_
  · show 0 + _ ≤ 600000
    omega
  · show 0 + _ ≤ 7302249
    omega
  · show d + 1 ≤ 2048
    omega
  · show 40 * (d + 1) ≤ 84000
    omega
  · intro pc2 len i S2 H2 locs2 ls2 hdg hlen he hRl2
    have key : i = .ireturn ∧ S2 = [.int 1] := by
      unfold z_end at he
      split at he
      · rename_i q; exact absurd q (by decide)
      · rename_i q; exact absurd q (by decide)
      · split at he
        · cases he; exact ⟨rfl, rfl⟩
        · cases he
      · rename_i q; exact absurd q (by decide)
      · rename_i q; cases (show (some FieldType.boolean) = _ from q)
      · rename_i q; cases (show (some FieldType.boolean) = _ from q)
      · cases he
    obtain ⟨rfl, rfl⟩ := key
    obtain rfl : len = 1 := hlen
    refine va_forget (fun q hq => hRl2.2.2.2.2.1.2.2 q hq) ?_
    refine W.widen (k := 600000) (n := 7302249) (by omega) (by omega) ?_
    exact lw_ret hx hb hr hlocks hdg
