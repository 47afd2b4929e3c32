/-! calls, and the whole: a run of the mini-VM is a run of the machine -/
theorem z_gi {ws1 ws2 : List Jvm.Cond} (h1 : ∀ w ∈ ws1, w ∈ z_tb) (h2 : GoodIn z_tb ws2) : GoodIn z_tb (ws1 ++ ws2) := by
  intro w hw
  rcases List.mem_append.mp hw with h | h
  · exact z_tb_good w (h1 w h)
  · exact h2 w h
section ZMN
variable {p : Program} {l : Launch} {e : Env} {R : Room} {s : State} {m : MethodId} {args : Array Value} {below : List Frame} {meth : Method} {c : Code} {H : Heap} {locs : List Loc} {cells slots : Nat} {Q : State → Prop}
variable {G : zG} {r : Nat → Nat} {base : Nat} {ro M M1 : zH} {pc : Nat} {ls : Array Slot} {j : Nat}
theorem z_recv (X : z_Cx G p s m args meth c j) (hRl : z_Rl G r base ro s.heap M H locs) {b ci : Nat} {fs : List Value} (hM : M[b]? = some (.inr (ci, fs))) (hb : 4 ≤ b) : (∃ cellB : Cell, H[z_ad r base b]? = some cellB ∧ cellB.vm.isStatics = false ∧ s.vm.findClass (z_cn ci) = some cellB.cls) ∧ ∃ cC, ClassAt s (z_cn ci) cC := by
  obtain ⟨-, -, -, -, -, -, hK⟩ := X
  obtain ⟨w, hw, cell, q1, q2, q3, -⟩ := hRl.2.2.2.1 b _ hb hM
  have h1 := (hK.1 ci w hw).2
  rw [(z_okc_use hw).1] at h1
  exact ⟨⟨cell, q1, by rw [q3]; rfl, by rw [q2]; exact h1.1⟩, _, h1⟩
theorem z_callrun (X : z_Cx G p s m args meth c j) (hR : z_R r (z_A base) ro s s.heap) (hRl : z_Rl G r base ro s.heap M H locs) (hls : ls.size = z_ml j) {i : Instr} {len kd k d1 mc ms : Nat} {S rst : zS} {vs : List Value} {v : Option Value} (hdg : decode (z_b j) pc = .ok (i, len)) (hlen : len = z_len i len)
    (hcall : z_call (z_oc j) i S M = some (kd, k, vs, rst)) (hw : z_ws rst ≤ 8) (hMet : 1 ≤ k → k < z_nm → Met l (z_name k) (z_wsj k) (z_rm d1 mc ms) (z_Pc G r base ro vs M) (z_Qc G r base ro v M1) mc ms (z_A base))
    (hf : d1 + 2 ≤ R.frames) (hlo : 40 * (d1 + 2) ≤ R.locals) (hc : cells + mc ≤ R.cells ∧ slots + ms ≤ R.slots) :
    ∃ a, va_Run p l e R s m args below meth c H locs cells slots mc ms (F0 m pc ls (S.map (z_sh (z_ad r base)))) (rst.map (z_sh (z_ad r base))) (z_Qc G r base ro v M1 a) (z_A base) := by
  have hst := z_start X hR hRl (vs := vs)
  have X0 := X
  obtain ⟨hx, hb, hml, hown, hts, hnm, hK⟩ := X
  have hroom : ∀ {k : Nat}, k < z_nm → (z_rm d1 mc ms).frames + 1 ≤ R.frames ∧ 8 + (z_ml k + 11) + (z_rm d1 mc ms).locals ≤ R.locals := by
    intro k hk
    obtain ⟨-, -, h1, -⟩ := z_okm_use hk
    refine ⟨hf, ?_⟩
    show 8 + (z_ml k + 11) + 40 * (d1 + 1) ≤ _
    omega
  have hfix : CallFix p m c (z_b j) (z_ml j) s args z_tb (z_cn (z_oc j)) := ⟨hx, hb, hml, hown, hts⟩
  have hW : 2 * (F0 m pc ls (S.map (z_sh (z_ad r base)))).monitorRoom + ((rst.map (z_sh (z_ad r base))).map fun v => v.category).sum ≤ 8 := by
    rw [z_ws_sh]
    show 2 * 0 + _ ≤ 8
    omega
  cases i
  case invokestatic idx =>
    obtain rfl : len = 3 := hlen
    dsimp only [z_call] at hcall
    split at hcall
    · rename_i hq
      split at hcall
      · split at hcall
        · rename_i hn
          cases hcall
          have h1 := z_cS_ok _ (z_find_mem hq)
          dsimp only [z_okS] at h1
          split at h1
          all_goals first | (rename_i h2; cases h2; done) | skip
          · rename_i h2
            cases h2
            simp only [Bool.and_eq_true, decide_eq_true_eq, z_np, z_okj] at h1
            obtain ⟨he, hp, hj, h3⟩ := h1
            have h3 := z_ins_mem h3
            rw [he] at h3 hp
            have hgood := z_gi h3 (z_wsj_good hj.1 hj.2)
            refine ⟨_, va_runS hfix (hMet hj.1 hj.2) (va_cwS _ hts hgood rfl rfl rfl ⟨(z_okm_use hj.2).2.2.2.1, (z_okm_use hj.2).2.2.2.2, hp⟩ (hroom hj.2)) ⟨z_blind, hst⟩ rfl ?_ hls (z_stackS _ _ _) hW hdg hc⟩
            rw [List.length_map, List.length_reverse, List.length_take]
            omega
          · rename_i h2
            cases h2
            simp only [Bool.and_eq_true, decide_eq_true_eq, z_np, z_okj] at h1
            obtain ⟨he, hp, hj, h3, h4⟩ := h1
            have h3 := z_ins_mem h3
            rw [he] at h3 hp h4
            refine ⟨_, va_runSN hfix (hMet hj.1 hj.2) ⟨va_cnB _ hts (z_wsj_good hj.1 hj.2) rfl rfl rfl (hK.2.2.1 _ h4) (hts _ (h3 _ (by simp))) ⟨(z_okm_use hj.2).2.2.2.1, (z_okm_use hj.2).2.2.2.2, hp⟩ (hroom hj.2), hts _ (h3 _ (by simp)), trivial⟩ ⟨z_blind, hst⟩ rfl ?_ hls (z_stackS _ _ _) hW hdg hc⟩
            rw [List.length_map, List.length_reverse, List.length_take]
            omega
          · cases h1
        · cases hcall
      · cases hcall
    · cases hcall
  case invokevirtual idx =>
    obtain rfl : len = 3 := hlen
    dsimp only [z_call] at hcall
    split at hcall
    · rename_i hq
      split at hcall
      · rename_i hS
        split at hcall
        · rename_i hM
          split at hcall
          · rename_i hb4
            obtain ⟨t, ht, hcall⟩ := Option.map_eq_some_iff.mp hcall
            cases hcall
            have ht1 := List.find?_some ht
            have ht2 := List.mem_of_find?_eq_some ht
            rw [beq_iff_eq] at ht1
            have hlen2 : ∀ n : Nat, n < S.length → ((S.take n).reverse.map (z_sh (z_ad r base))).length = n := by
              intro n hn
              rw [List.length_map, List.length_reverse, List.length_take]
              omega
            have hSl := (List.getElem?_eq_some_iff.mp hS).1
            obtain ⟨hrc, -⟩ := z_recv X0 hRl hM hb4
            have h1 := z_cV_ok _ (z_find_mem hq)
            dsimp only [z_okV] at h1
            split at h1
            · simp only [Bool.and_eq_true, decide_eq_true_eq, z_np, z_okj] at h1
              obtain ⟨he, hp, hj, h4, h3⟩ := h1
              have h3 := z_ins_mem h3
              rw [List.mem_singleton] at ht2
              subst ht2
              subst ht1
              rw [he] at h3 hp h4
              rw [h4.1] at hrc
              have hgood := z_gi h3 (z_wsj_good hj.1 hj.2)
              exact ⟨_, va_runV hfix (hMet hj.1 hj.2) (cwV _ hts hgood rfl rfl rfl ⟨rfl, (z_okm_use hj.2).2.2.2.1, (z_okm_use hj.2).2.2.2.2, hp⟩ (hroom hj.2)) ⟨z_blind, hrc, hst⟩ rfl (hlen2 _ hSl) hls (z_stack hS _) hW hdg hc⟩
            · simp only [Bool.and_eq_true, decide_eq_true_eq, z_np, z_okj, z_fine, List.all_eq_true, List.any_eq_true] at h1
              obtain ⟨hp, how, h3, h4, ⟨k0, -, hk0, hn0⟩⟩ := h1
              have h3 := z_ins_mem h3
              obtain ⟨hj, hci⟩ := h4 t ht2
              have h5 : ∀ w ∈ ([.selects (z_cn t.1) _ (z_name t.2), .instanceMethod (z_name t.2), .initialized (z_name t.2).cls] : List Jvm.Cond), w ∈ z_tb := fun w hw => h3 w (List.mem_append_right _ (List.mem_flatMap.mpr ⟨t, ht2, hw⟩))
              have hcode := z_code hk0.1 hk0.2
              rw [hn0] at hcode
              rw [← ht1] at hrc
              refine ⟨_, va_runU hfix (hMet hj.1 hj.2) ⟨⟨rfl, rfl, (hroom hj.2).1, (hroom hj.2).2, pay_in hts (z_wsj_good hj.1 hj.2), List.mem_cons_self⟩, hts _ (z_code hj.1 hj.2), hts _ (h5 _ (by simp)), how, fun sig hsig => ?_, hts _ (h3 _ (by simp)), hts _ (h3 _ (by simp)), va_Decl.of (hts _ (h3 _ (by simp))) (hts _ hcode), hts _ (h5 _ (by simp)), hts _ (h5 _ (by simp))⟩ ⟨z_blind, hrc, hst⟩ rfl (hlen2 _ hSl) hls (z_stack hS _) hW hdg hc⟩
              rw [hsig] at hp
              exact (Option.some.inj hp).symm
            · cases h1
          · cases hcall
        · cases hcall
      · cases hcall
    · cases hcall
  case invokespecial idx =>
    obtain rfl : len = 3 := hlen
    dsimp only [z_call] at hcall
    split at hcall
    · rename_i hq
      split at hcall
      · rename_i hS
        split at hcall
        · rename_i hM
          split at hcall
          · rename_i hb4
            cases hcall
            have hSl := (List.getElem?_eq_some_iff.mp hS).1
            have hlen2 : ∀ n : Nat, n < S.length → ((S.take n).reverse.map (z_sh (z_ad r base))).length = n := by
              intro n hn
              rw [List.length_map, List.length_reverse, List.length_take]
              omega
            obtain ⟨hrc, cC, hat⟩ := z_recv X0 hRl hM hb4
            have h1 := z_cI_ok _ (z_find_mem hq)
            dsimp only [z_okI] at h1
            split at h1
            all_goals first | (rename_i h2; cases h2; done) | skip
            · rename_i h2
              cases h2
              simp only [Bool.and_eq_true, decide_eq_true_eq, z_np, z_okj] at h1
              obtain ⟨⟨he, hi, hrt⟩, hp, hj, h3⟩ := h1
              have h3 := z_ins_mem h3
              rw [he] at h3 hp hi
              have hwz : z_wsj k = Jvm.Cond.code (z_name k) (z_b k) (z_ml k) none :: z_tb := by unfold z_wsj; rw [hrt]
              exact ⟨_, va_runI hfix (hMet hj.1 hj.2) (cwI _ hts (z_wsj_good hj.1 hj.2) hwz rfl rfl (hts _ (h3 _ (by simp))) (hts _ (h3 _ (by simp))) (hts _ (h3 _ (by simp))) hi ⟨(z_okm_use hj.2).2.2.2.1, (z_okm_use hj.2).2.2.2.2, hp⟩ (hroom hj.2)) ⟨z_blind, hst⟩ rfl (hlen2 _ hSl) hls (z_stack hS _) hW hdg hc⟩
            · rename_i h2
              cases h2
              simp only [Bool.and_eq_true, decide_eq_true_eq, z_np, z_okj] at h1
              obtain ⟨⟨he, hi, hrt⟩, hp, hj, h3, h4⟩ := h1
              have h3 := z_ins_mem h3
              rw [he] at h3 hp hi h4
              have hwz : z_wsj k = Jvm.Cond.code (z_name k) (z_b k) (z_ml k) none :: z_tb := by unfold z_wsj; rw [hrt]
              exact ⟨_, va_runIN hfix (hMet hj.1 hj.2) ⟨va_cnB _ hts (z_wsj_good hj.1 hj.2) hwz rfl rfl (hK.2.2.1 _ h4) (hts _ (h3 _ (by simp))) ⟨(z_okm_use hj.2).2.2.2.1, (z_okm_use hj.2).2.2.2.2, hp⟩ (hroom hj.2), hi, hts _ (h3 _ (by simp))⟩ ⟨z_blind, hst⟩ rfl (hlen2 _ hSl) hls (z_stack hS _) hW hdg hc⟩
            · rename_i h2
              cases h2
              simp only [Bool.and_eq_true, decide_eq_true_eq, z_np, z_okj] at h1
              obtain ⟨⟨he, hi⟩, hp, hj, h3⟩ := h1
              have h3 := z_ins_mem h3
              rw [he] at h3 hp hi
              have hgood := z_gi h3 (z_wsj_good hj.1 hj.2)
              exact ⟨_, va_runSU hat hfix (hMet hj.1 hj.2) (va_cwSU _ hts hgood rfl rfl rfl ⟨hi, hp⟩ (hroom hj.2)) ⟨z_blind, hrc, hst⟩ rfl (hlen2 _ hSl) hls (z_stack hS _) hW hdg hc⟩
            · rename_i h2
              cases h2
              simp only [Bool.and_eq_true, decide_eq_true_eq, z_np, z_okj] at h1
              obtain ⟨⟨he, hi⟩, hp, hj, h3⟩ := h1
              have h3 := z_ins_mem h3
              refine ⟨_, z_runSI hat hfix (hMet hj.1 hj.2) ⟨z_blind, hrc, hst⟩ he ⟨rfl, rfl, hroom hj.2⟩ (pay_in hts (z_wsj_good hj.1 hj.2)) List.mem_cons_self (hts _ (h3 _ (by simp))) (hts _ (h3 _ (by simp))) (hts _ (h3 _ (by simp))) (hts _ (h3 _ (by simp))) (hts _ (h3 _ (by simp))) (hts _ (h3 _ (by simp))) (hts _ (z_code hj.1 hj.2)) hi (fun sig hsig => ?_) rfl (hlen2 _ hSl) hls (z_stack hS _) hW hdg hc⟩
              rw [hsig] at hp
              exact (Option.some.inj hp).symm
            · cases h1
          · cases hcall
        · cases hcall
      · cases hcall
    · cases hcall
  all_goals cases hcall
end ZMN
