/-! one step over numbers, locals, the stack: the machine follows the mini-VM (printed by wip/gen/s1.py) -/
section ZS1
variable {p : Program} {l : Launch} {e : Env} {R : Room} {s : State} {m : MethodId} {args : Array Value} {below : List Frame} {meth : Method} {c : Code} {H : Heap} {locs : List Loc} {cells slots : Nat} {Q : State → Prop}
variable {cc : ByteArray} {pc : Nat} {ls : Array Slot} {ad : Nat → Nat}
theorem z_tg_some {pc : Nat} {off : Int} {t : Nat} (h : z_tg pc off = some t) : (pc : Int) + off = (t : Int) := by
  unfold z_tg at h
  split at h
  · rename_i q; cases h; exact q
  · cases h
theorem z_cat1 {v : Value} {ad : Nat → Nat} (h : v.category = 1) : (z_sh ad v).category = 1 := by rw [z_sh_cat]; exact h
theorem z_cat2 {v : Value} {ad : Nat → Nat} (h : v.category = 2) : (z_sh ad v).category = 2 := by rw [z_sh_cat]; exact h
set_option maxHeartbeats 4000000 in
theorem z_s1_ok (hx : p.tables.exec = Jvm.exec) (hb : c.code = cc) {nL : Nat} {i : Instr} {len : Nat} {L L1 : zL} {S S1 : zS} {pc1 : Nat} (hl : z_lv ad ls nL L) (hdg : decode cc pc = .ok (i, len)) (hlen : len = z_len i len) (hst : z_s1 i pc L S = some (pc1, L1, S1))
    (kk : ∀ ls1, z_lv ad ls1 nL L1 → W p l e R s m args below meth c H locs cells slots Q (F0 m pc1 ls1 (S1.map (z_sh ad)))) : W p l e R s m args below meth c H locs cells slots Q (F0 m pc ls (S.map (z_sh ad))) := by
  have hLn := hl.2.1
  cases i
  case aconst_null =>
    obtain rfl : len = 1 := hlen
    cases hst
    exact lv_null hx hb hdg (kk ls hl)
  case iconst n =>
    obtain rfl : len = 1 := hlen
    cases hst
    exact lv_iconst hx hb hdg rfl (kk ls hl)
  case bipush n =>
    obtain rfl : len = 2 := hlen
    cases hst
    exact lv_bipush hx hb hdg rfl (kk ls hl)
  case sipush n =>
    obtain rfl : len = 3 := hlen
    cases hst
    exact lv_sipush hx hb hdg rfl (kk ls hl)
  case lconst n =>
    obtain rfl : len = 1 := hlen
    cases hst
    exact lv_lconst hx hb hdg rfl (kk ls hl)
  case iload_n k =>
    obtain rfl : len = 1 := hlen
    dsimp only [z_s1] at hst
    split at hst
    · rename_i v hg
      cases hst
      exact lv_iload_n hx hb hdg rfl (hl.at hg) (kk ls hl)
    · cases hst
  case iload k =>
    obtain rfl : len = 2 := hlen
    dsimp only [z_s1] at hst
    split at hst
    · rename_i v hg
      cases hst
      exact lv_iload hx hb hdg (hl.at hg) (kk ls hl)
    · cases hst
  case lload_n k =>
    obtain rfl : len = 1 := hlen
    dsimp only [z_s1] at hst
    split at hst
    · rename_i v hg
      cases hst
      exact lv_lload_n hx hb hdg rfl (hl.at hg) (kk ls hl)
    · cases hst
  case lload k =>
    obtain rfl : len = 2 := hlen
    dsimp only [z_s1] at hst
    split at hst
    · rename_i v hg
      cases hst
      exact lv_lload hx hb hdg (hl.at hg) (kk ls hl)
    · cases hst
  case aload_n k =>
    obtain rfl : len = 1 := hlen
    dsimp only [z_s1] at hst
    split at hst
    · rename_i v hg
      cases hst
      exact lv_aload_n hx hb hdg rfl (hl.at hg) (kk ls hl)
    · rename_i hg
      cases hst
      exact lv_aload_nN hx hb hdg rfl (hl.at hg) (kk ls hl)
    · cases hst
  case aload k =>
    obtain rfl : len = 2 := hlen
    dsimp only [z_s1] at hst
    split at hst
    · rename_i v hg
      cases hst
      exact lv_aload hx hb hdg (hl.at hg) (kk ls hl)
    · rename_i hg
      cases hst
      exact lv_aloadN hx hb hdg (hl.at hg) (kk ls hl)
    · cases hst
  case istore_n k =>
    obtain rfl : len = 1 := hlen
    dsimp only [z_s1] at hst
    split at hst
    · split at hst
      · rename_i hk
        cases hst
        exact lv_istore_n hx hb hdg rfl hl.has (by rw [← hLn]; exact hk) rfl (fun ls1 h1 => kk ls1 (hl.put1 h1))
      · cases hst
    · cases hst
  case istore k =>
    obtain rfl : len = 2 := hlen
    dsimp only [z_s1] at hst
    split at hst
    · split at hst
      · rename_i hk
        cases hst
        exact lv_istore hx hb hdg hl.has (by rw [← hLn]; exact hk) rfl (fun ls1 h1 => kk ls1 (hl.put1 h1))
      · cases hst
    · cases hst
  case lstore_n k =>
    obtain rfl : len = 1 := hlen
    dsimp only [z_s1] at hst
    split at hst
    · split at hst
      · rename_i hk
        cases hst
        exact lv_lstore_n hx hb hdg rfl hl.has (by rw [← hLn]; exact hk) rfl (fun ls1 h1 => kk ls1 (hl.put2 h1))
      · cases hst
    · cases hst
  case lstore k =>
    obtain rfl : len = 2 := hlen
    dsimp only [z_s1] at hst
    split at hst
    · split at hst
      · rename_i hk
        cases hst
        exact lv_lstore hx hb hdg hl.has (by rw [← hLn]; exact hk) rfl (fun ls1 h1 => kk ls1 (hl.put2 h1))
      · cases hst
    · cases hst
  case astore_n k =>
    obtain rfl : len = 1 := hlen
    dsimp only [z_s1] at hst
    split at hst
    · split at hst
      · rename_i hk
        cases hst
        exact lv_astore_n hx hb hdg rfl hl.has (by rw [← hLn]; exact hk) rfl (fun ls1 h1 => kk ls1 (hl.put1 h1))
      · cases hst
    · split at hst
      · rename_i hk
        cases hst
        exact lv_astore_nN hx hb hdg rfl hl.has (by rw [← hLn]; exact hk) rfl (fun ls1 h1 => kk ls1 (hl.put1 h1))
      · cases hst
    · cases hst
  case astore k =>
    obtain rfl : len = 2 := hlen
    dsimp only [z_s1] at hst
    split at hst
    · split at hst
      · rename_i hk
        cases hst
        exact lv_astore hx hb hdg hl.has (by rw [← hLn]; exact hk) rfl (fun ls1 h1 => kk ls1 (hl.put1 h1))
      · cases hst
    · split at hst
      · rename_i hk
        cases hst
        exact lv_astoreN hx hb hdg hl.has (by rw [← hLn]; exact hk) rfl (fun ls1 h1 => kk ls1 (hl.put1 h1))
      · cases hst
    · cases hst
  case iinc k n =>
    obtain rfl : len = 3 := hlen
    dsimp only [z_s1] at hst
    split at hst
    · rename_i v hg
      cases hst
      obtain ⟨q, hq⟩ := List.getElem?_of_mem (z_as_mem (ad := ad).mpr ⟨_, z_get_some.mp hg, rfl⟩)
      have hk : k < nL := by rw [← hLn]; exact (List.getElem?_eq_some_iff.mp (z_get_some.mp hg)).1
      exact lv_iinc hx hb hdg hl.has (k := q) hq rfl hk rfl (fun ls1 h1 => kk ls1 (hl.put1 h1))
    · cases hst
  case iadd =>
    obtain rfl : len = 1 := hlen
    dsimp only [z_s1] at hst
    split at hst
    · cases hst
      exact lv_iadd hx hb hdg (kk ls hl)
    · cases hst
  case isub =>
    obtain rfl : len = 1 := hlen
    dsimp only [z_s1] at hst
    split at hst
    · cases hst
      exact lv_isub hx hb hdg (kk ls hl)
    · cases hst
  case imul =>
    obtain rfl : len = 1 := hlen
    dsimp only [z_s1] at hst
    split at hst
    · cases hst
      exact lv_imul hx hb hdg (kk ls hl)
    · cases hst
  case iand =>
    obtain rfl : len = 1 := hlen
    dsimp only [z_s1] at hst
    split at hst
    · cases hst
      exact lv_iand hx hb hdg (kk ls hl)
    · cases hst
  case ior =>
    obtain rfl : len = 1 := hlen
    dsimp only [z_s1] at hst
    split at hst
    · cases hst
      exact lv_ior hx hb hdg (kk ls hl)
    · cases hst
  case ixor =>
    obtain rfl : len = 1 := hlen
    dsimp only [z_s1] at hst
    split at hst
    · cases hst
      exact lv_ixor hx hb hdg (kk ls hl)
    · cases hst
  case ineg =>
    obtain rfl : len = 1 := hlen
    dsimp only [z_s1] at hst
    split at hst
    · cases hst
      exact lv_ineg hx hb hdg (kk ls hl)
    · cases hst
  case ladd =>
    obtain rfl : len = 1 := hlen
    dsimp only [z_s1] at hst
    split at hst
    · cases hst
      exact lv_ladd hx hb hdg (kk ls hl)
    · cases hst
  case lsub =>
    obtain rfl : len = 1 := hlen
    dsimp only [z_s1] at hst
    split at hst
    · cases hst
      exact lv_lsub hx hb hdg (kk ls hl)
    · cases hst
  case land =>
    obtain rfl : len = 1 := hlen
    dsimp only [z_s1] at hst
    split at hst
    · cases hst
      exact lv_land hx hb hdg (kk ls hl)
    · cases hst
  case lor =>
    obtain rfl : len = 1 := hlen
    dsimp only [z_s1] at hst
    split at hst
    · cases hst
      exact lv_lor hx hb hdg (kk ls hl)
    · cases hst
  case lxor =>
    obtain rfl : len = 1 := hlen
    dsimp only [z_s1] at hst
    split at hst
    · cases hst
      exact lv_lxor hx hb hdg (kk ls hl)
    · cases hst
  case ishl =>
    obtain rfl : len = 1 := hlen
    dsimp only [z_s1] at hst
    split at hst
    · cases hst
      exact lv_ishl hx hb hdg (kk ls hl)
    · cases hst
  case ishr =>
    obtain rfl : len = 1 := hlen
    dsimp only [z_s1] at hst
    split at hst
    · cases hst
      exact lv_ishr hx hb hdg (kk ls hl)
    · cases hst
  case iushr =>
    obtain rfl : len = 1 := hlen
    dsimp only [z_s1] at hst
    split at hst
    · cases hst
      exact lv_iushr hx hb hdg rfl (kk ls hl)
    · cases hst
  case lushr =>
    obtain rfl : len = 1 := hlen
    dsimp only [z_s1] at hst
    split at hst
    · cases hst
      exact lv_lushr hx hb hdg rfl (kk ls hl)
    · cases hst
  case lshl =>
    obtain rfl : len = 1 := hlen
    dsimp only [z_s1] at hst
    split at hst
    · cases hst
      exact lv_lshl hx hb hdg rfl (kk ls hl)
    · cases hst
  case i2l =>
    obtain rfl : len = 1 := hlen
    dsimp only [z_s1] at hst
    split at hst
    · cases hst
      exact lv_i2l hx hb hdg rfl (kk ls hl)
    · cases hst
  case l2i =>
    obtain rfl : len = 1 := hlen
    dsimp only [z_s1] at hst
    split at hst
    · cases hst
      exact lv_l2i hx hb hdg rfl (kk ls hl)
    · cases hst
  case i2b =>
    obtain rfl : len = 1 := hlen
    dsimp only [z_s1] at hst
    split at hst
    · cases hst
      exact lv_i2b hx hb hdg rfl (kk ls hl)
    · cases hst
  case i2s =>
    obtain rfl : len = 1 := hlen
    dsimp only [z_s1] at hst
    split at hst
    · cases hst
      exact lv_i2s hx hb hdg rfl (kk ls hl)
    · cases hst
  case lcmp =>
    obtain rfl : len = 1 := hlen
    dsimp only [z_s1] at hst
    split at hst
    · cases hst
      exact W.lcmp hx hb hdg (kk ls hl)
    · cases hst
  case idiv =>
    obtain rfl : len = 1 := hlen
    dsimp only [z_s1] at hst
    split at hst
    · split at hst
      · cases hst
      · rename_i hne
        cases hst
        exact lv_idiv hx hb hdg hne (kk ls hl)
    · cases hst
  case irem =>
    obtain rfl : len = 1 := hlen
    dsimp only [z_s1] at hst
    split at hst
    · split at hst
      · cases hst
      · rename_i hne
        cases hst
        exact lv_irem hx hb hdg hne (kk ls hl)
    · cases hst
  case dup =>
    obtain rfl : len = 1 := hlen
    dsimp only [z_s1] at hst
    split at hst
    · split at hst
      · rename_i h1
        cases hst
        exact lv_dup hx hb hdg (z_cat1 h1) (kk ls hl)
      · cases hst
    · cases hst
  case pop =>
    obtain rfl : len = 1 := hlen
    dsimp only [z_s1] at hst
    split at hst
    · split at hst
      · rename_i h1
        cases hst
        exact lv_pop hx hb hdg (z_cat1 h1) (kk ls hl)
      · cases hst
    · cases hst
  case dup_x1 =>
    obtain rfl : len = 1 := hlen
    dsimp only [z_s1] at hst
    split at hst
    · split at hst
      · rename_i h1
        cases hst
        exact lv_dup_x1 hx hb hdg (z_cat1 h1.1) (z_cat1 h1.2) (kk ls hl)
      · cases hst
    · cases hst
  case dup_x2 =>
    obtain rfl : len = 1 := hlen
    dsimp only [z_s1] at hst
    split at hst
    · split at hst
      · rename_i h1
        cases hst
        exact lv_dup_x2 hx hb hdg (z_cat1 h1.1) (z_cat1 h1.2.1) (z_cat1 h1.2.2) (kk ls hl)
      · cases hst
    · cases hst
  case dup2 =>
    obtain rfl : len = 1 := hlen
    dsimp only [z_s1] at hst
    split at hst
    · split at hst
      · rename_i h1
        cases hst
        exact lv_dup2_11 hx hb hdg (z_cat1 h1.1) (z_cat1 h1.2) (kk ls hl)
      · split at hst
        · rename_i h1
          cases hst
          exact lv_dup2_2 hx hb hdg (z_cat2 h1) (kk ls hl)
        · cases hst
    · cases hst
  case pop2 =>
    obtain rfl : len = 1 := hlen
    dsimp only [z_s1] at hst
    split at hst
    · split at hst
      · rename_i h1
        cases hst
        exact lv_pop2_2 hx hb hdg (z_cat2 h1) (kk ls hl)
      · cases hst
    · cases hst
  case ifCond cnd off =>
    obtain rfl : len = 3 := hlen
    dsimp only [z_s1] at hst
    split at hst
    · rename_i ht
      cases hst
      have ht := z_tg_some ht
      cases cnd
      case eq => exact lv_if_eq hx hb hdg ht (fun q => by have k := kk ls hl; simp only [z_br, if_pos q] at k; exact k) (fun q => by have k := kk ls hl; simp only [z_br, if_neg q] at k; exact k)
      case ne => exact lv_if_ne hx hb hdg ht (fun q => by have k := kk ls hl; simp only [z_br, if_neg q] at k; exact k) (fun q => by have k := kk ls hl; simp only [z_br, if_pos q] at k; exact k)
      case lt => exact lv_if_lt hx hb hdg ht (fun q => by have k := kk ls hl; simp only [z_br, if_pos q] at k; exact k) (fun q => by have k := kk ls hl; simp only [z_br, if_neg q] at k; exact k)
      case ge => exact lv_if_ge hx hb hdg ht (fun q => by have k := kk ls hl; simp only [z_br, if_neg (Int32.not_lt.mpr q)] at k; exact k) (fun q => by have k := kk ls hl; simp only [z_br, if_pos (Int32.not_le.mp q)] at k; exact k)
      case gt => exact lv_if_gt hx hb hdg ht (fun q => by have k := kk ls hl; simp only [z_br, if_pos q] at k; exact k) (fun q => by have k := kk ls hl; simp only [z_br, if_neg q] at k; exact k)
      case le => exact lv_if_le hx hb hdg ht (fun q => by have k := kk ls hl; simp only [z_br, if_neg (Int32.not_lt.mpr q)] at k; exact k) (fun q => by have k := kk ls hl; simp only [z_br, if_pos (Int32.not_le.mp q)] at k; exact k)
    · cases hst
  case if_icmp cnd off =>
    obtain rfl : len = 3 := hlen
    dsimp only [z_s1] at hst
    split at hst
    · rename_i ht
      cases hst
      have ht := z_tg_some ht
      cases cnd
      case eq => exact lv_icmp_eq hx hb hdg ht (fun q => by have k := kk ls hl; simp only [z_br, if_pos q] at k; exact k) (fun q => by have k := kk ls hl; simp only [z_br, if_neg q] at k; exact k)
      case ne => exact lv_icmp_ne hx hb hdg ht (fun q => by have k := kk ls hl; simp only [z_br, if_neg q] at k; exact k) (fun q => by have k := kk ls hl; simp only [z_br, if_pos q] at k; exact k)
      case lt => exact lv_icmp_lt hx hb hdg ht (fun q => by have k := kk ls hl; simp only [z_br, if_pos q] at k; exact k) (fun q => by have k := kk ls hl; simp only [z_br, if_neg q] at k; exact k)
      case ge => exact lv_icmp_ge hx hb hdg ht (fun q => by have k := kk ls hl; simp only [z_br, if_neg (Int32.not_lt.mpr q)] at k; exact k) (fun q => by have k := kk ls hl; simp only [z_br, if_pos (Int32.not_le.mp q)] at k; exact k)
      case gt => exact lv_icmp_gt hx hb hdg ht (fun q => by have k := kk ls hl; simp only [z_br, if_pos q] at k; exact k) (fun q => by have k := kk ls hl; simp only [z_br, if_neg q] at k; exact k)
      case le => exact lv_icmp_le hx hb hdg ht (fun q => by have k := kk ls hl; simp only [z_br, if_neg (Int32.not_lt.mpr q)] at k; exact k) (fun q => by have k := kk ls hl; simp only [z_br, if_pos (Int32.not_le.mp q)] at k; exact k)
    · cases hst
  case ifnull off =>
    obtain rfl : len = 3 := hlen
    dsimp only [z_s1] at hst
    split at hst
    · rename_i ht
      cases hst
      exact lv_ifnullN hx hb hdg (z_tg_some ht) (kk ls hl)
    · cases hst
      exact lv_ifnull hx hb hdg (kk ls hl)
    · cases hst
  case ifnonnull off =>
    obtain rfl : len = 3 := hlen
    dsimp only [z_s1] at hst
    split at hst
    · cases hst
      exact lv_ifnonnullN hx hb hdg (kk ls hl)
    · rename_i ht
      cases hst
      exact lv_ifnonnull hx hb hdg (z_tg_some ht) (kk ls hl)
    · cases hst
  case goto off =>
    obtain rfl : len = 3 := hlen
    dsimp only [z_s1] at hst
    split at hst
    · rename_i ht
      cases hst
      exact lv_goto hx hb hdg (z_tg_some ht) (kk ls hl)
    · cases hst
  case tableswitch d lo hi offs =>
    dsimp only [z_s1] at hst
    split at hst
    · split at hst
      · rename_i hc
        split at hst
        · rename_i ht
          cases hst
          exact lv_tableOut hx hb hdg hc (z_tg_some ht) (kk ls hl)
        · cases hst
      · rename_i hc
        have hc1 := not_or.mp hc
        split at hst
        · rename_i ho
          split at hst
          · rename_i ht
            cases hst
            exact lv_tableIn hx hb hdg hc1.1 hc1.2 ho (z_tg_some ht) (kk ls hl)
          · cases hst
        · cases hst
    · cases hst
  case lookupswitch d ps =>
    dsimp only [z_s1] at hst
    split at hst
    · split at hst
      · rename_i hp
        split at hst
        · rename_i ht
          cases hst
          exact lv_lookup hx hb hdg hp rfl (z_tg_some ht) (kk ls hl)
        · cases hst
      · cases hst
    · cases hst
  all_goals cases hst
end ZS1
