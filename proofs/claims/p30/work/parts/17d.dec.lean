/-! a method's listing held against its bytes, byte by byte -/
def z_ck1 (l : List UInt8) (n o : Nat) : Bool := match l with
  | b :: _ => Nat.beq n 1 && Nat.beq b.toNat o
  | [] => false
def z_ck2 (l : List UInt8) (n o k : Nat) : Bool := match l with
  | b :: c :: _ => Nat.beq n 2 && (Nat.beq b.toNat o && Nat.beq c.toNat k)
  | _ => false
def z_ck3 (l : List UInt8) (n o k : Nat) : Bool := match l with
  | b :: c :: e :: _ => Nat.beq n 3 && (Nat.beq b.toNat o && Nat.beq (c.toNat * 256 + e.toNat) k)
  | _ => false
def z_ck2s (l : List UInt8) (n o : Nat) (k : Int) : Bool := match l with
  | b :: c :: _ => Nat.beq n 2 && (Nat.beq b.toNat o && decide (Reader.signed 8 c.toNat = k))
  | _ => false
def z_ck3s (l : List UInt8) (n o : Nat) (k : Int) : Bool := match l with
  | b :: c :: e :: _ => Nat.beq n 3 && (Nat.beq b.toNat o && decide (Reader.signed 16 (c.toNat * 256 + e.toNat) = k))
  | _ => false
def z_ck3i (l : List UInt8) (n o k : Nat) (v : Int) : Bool := match l with
  | b :: c :: e :: _ => Nat.beq n 3 && (Nat.beq b.toNat o && (Nat.beq c.toNat k && decide (Reader.signed 8 e.toNat = v)))
  | _ => false
def z_ckc (l : List UInt8) (n : Nat) (k : Int) : Bool := match k with
  | .ofNat m => Nat.ble m 5 && z_ck1 l n (3 + m)
  | .negSucc m => Nat.beq m 0 && z_ck1 l n 2
def z_cco (c : ClassFile.Cond) : Nat := match c with
  | .eq => 0
  | .ne => 1
  | .lt => 2
  | .ge => 3
  | .gt => 4
  | .le => 5
def z_chk (i : Instr) (n : Nat) (l : List UInt8) : Bool := match i with
  | .aconst_null => z_ck1 l n 1
  | .iaload => z_ck1 l n 46
  | .laload => z_ck1 l n 47
  | .aaload => z_ck1 l n 50
  | .iastore => z_ck1 l n 79
  | .lastore => z_ck1 l n 80
  | .aastore => z_ck1 l n 83
  | .pop => z_ck1 l n 87
  | .pop2 => z_ck1 l n 88
  | .dup => z_ck1 l n 89
  | .dup_x1 => z_ck1 l n 90
  | .dup_x2 => z_ck1 l n 91
  | .dup2 => z_ck1 l n 92
  | .iadd => z_ck1 l n 96
  | .ladd => z_ck1 l n 97
  | .isub => z_ck1 l n 100
  | .lsub => z_ck1 l n 101
  | .imul => z_ck1 l n 104
  | .idiv => z_ck1 l n 108
  | .irem => z_ck1 l n 112
  | .ineg => z_ck1 l n 116
  | .ishl => z_ck1 l n 120
  | .lshl => z_ck1 l n 121
  | .ishr => z_ck1 l n 122
  | .iushr => z_ck1 l n 124
  | .lushr => z_ck1 l n 125
  | .iand => z_ck1 l n 126
  | .land => z_ck1 l n 127
  | .ior => z_ck1 l n 128
  | .lor => z_ck1 l n 129
  | .ixor => z_ck1 l n 130
  | .lxor => z_ck1 l n 131
  | .i2l => z_ck1 l n 133
  | .l2i => z_ck1 l n 136
  | .i2b => z_ck1 l n 145
  | .i2s => z_ck1 l n 147
  | .lcmp => z_ck1 l n 148
  | .ireturn => z_ck1 l n 172
  | .lreturn => z_ck1 l n 173
  | .areturn => z_ck1 l n 176
  | .return_ => z_ck1 l n 177
  | .arraylength => z_ck1 l n 190
  | .athrow => z_ck1 l n 191
  | .iload_n k => z_ck1 l n (26 + k.val)
  | .lload_n k => z_ck1 l n (30 + k.val)
  | .aload_n k => z_ck1 l n (42 + k.val)
  | .istore_n k => z_ck1 l n (59 + k.val)
  | .lstore_n k => z_ck1 l n (63 + k.val)
  | .astore_n k => z_ck1 l n (75 + k.val)
  | .lconst k => z_ck1 l n (9 + k.val)
  | .iconst k => z_ckc l n k
  | .ldc k => z_ck2 l n 18 k
  | .iload k => z_ck2 l n 21 k
  | .lload k => z_ck2 l n 22 k
  | .aload k => z_ck2 l n 25 k
  | .istore k => z_ck2 l n 54 k
  | .lstore k => z_ck2 l n 55 k
  | .astore k => z_ck2 l n 58 k
  | .ldc_w k => z_ck3 l n 19 k
  | .ldc2_w k => z_ck3 l n 20 k
  | .getstatic k => z_ck3 l n 178 k
  | .getfield k => z_ck3 l n 180 k
  | .putfield k => z_ck3 l n 181 k
  | .invokevirtual k => z_ck3 l n 182 k
  | .invokespecial k => z_ck3 l n 183 k
  | .invokestatic k => z_ck3 l n 184 k
  | .new k => z_ck3 l n 187 k
  | .anewarray k => z_ck3 l n 189 k
  | .sipush k => z_ck3s l n 17 k
  | .goto k => z_ck3s l n 167 k
  | .ifnull k => z_ck3s l n 198 k
  | .ifnonnull k => z_ck3s l n 199 k
  | .bipush k => z_ck2s l n 16 k
  | .iinc k v => z_ck3i l n 132 k v
  | .ifCond c k => z_ck3s l n (153 + z_cco c) k
  | .if_icmp c k => z_ck3s l n (159 + z_cco c) k
  | .newarray .int => z_ck2 l n 188 10
  | .newarray .long => z_ck2 l n 188 11
  | _ => false
def z_R1 (code : ByteArray) (p k : Nat) : Prop := (Reader.u1 : Decoder Nat) code p = .ok (k, p + 1)
def z_suf (code : ByteArray) (p : Nat) (l : List UInt8) : Prop := code.data.toList.drop p = l
section ZDEC
variable {code : ByteArray} {p pc k n m : Nat} {l : List UInt8}
theorem z_u1v (hs : p < code.size) : (Reader.u1 : Decoder Nat) code p = .ok ((code[p]'hs).toNat, p + 1) := by
  unfold Reader.u1
  show ((dite (p < code.size) _ _ : Decoder Nat) code p) = _
  rw [dif_pos hs]
  rfl
theorem z_suf1 {b : UInt8} (h : z_suf code p (b :: l)) : z_R1 code p b.toNat ∧ z_suf code (p + 1) l := by
  unfold z_suf at h
  have h1 : code.data.toList[p]? = some b := by
    have h2 : (code.data.toList.drop p)[0]? = some b := by rw [h]; rfl
    rw [List.getElem?_drop] at h2
    exact h2
  obtain ⟨hl, hv⟩ := List.getElem?_eq_some_iff.mp h1
  have hs : p < code.size := hl
  refine ⟨?_, ?_⟩
  · have h3 := z_u1v hs
    rw [show code[p]'hs = b from hv] at h3
    exact h3
  · unfold z_suf
    have h4 := congrArg List.tail h
    rw [List.tail_drop] at h4
    exact h4
theorem z_bd {α β : Type} {r : Decoder α} {f : α → Decoder β} {a : α} {s : Nat} (h : r code p = .ok (a, s)) : (r >>= f) code p = f a code s := by
  show (r code p >>= fun (q : α × Nat) => f q.1 code q.2) = _
  rw [h]
  rfl
theorem z_mp {α β : Type} {r : Decoder α} {f : α → β} {a : α} {s : Nat} (h : r code p = .ok (a, s)) : (f <$> r) code p = .ok (f a, s) := by
  show (r code p >>= fun (q : α × Nat) => (pure (f q.1, q.2) : Except DecodeError (β × Nat))) = _
  rw [h]
  rfl
theorem z_dgo {F : Nat → Decoder Instr} {i : Instr} {s : Nat} (hF : Decoder.instr pc = (Reader.u1 >>= F)) (h : z_R1 code pc k) (h2 : F k code (pc + 1) = .ok (i, s)) (hn : s = pc + n) : decode code pc = .ok (i, n) := by
  have e : Decoder.instr pc code pc = .ok (i, s) := by
    rw [hF]
    exact (z_bd h).trans h2
  show (Decoder.instr pc code pc >>= fun (q : Instr × Nat) => (pure (q.1, q.2 - pc) : Except DecodeError (Instr × Nat))) = _
  rw [e]
  show Except.ok (i, s - pc) = _
  rw [show s - pc = n by omega]
theorem z_a1 (h : z_ck1 l n k = true) (hs : z_suf code pc l) : n = 1 ∧ z_R1 code pc k := by
  match l, h, hs with
  | b :: l, h, hs =>
    obtain ⟨h1, h2⟩ := Bool.and_eq_true_iff.mp (show (Nat.beq n 1 && Nat.beq b.toNat k) = true from h)
    have e := Nat.eq_of_beq_eq_true h2
    exact ⟨Nat.eq_of_beq_eq_true h1, e ▸ (z_suf1 hs).1⟩
theorem z_a2 {o : Nat} (h : z_ck2 l n o k = true) (hs : z_suf code pc l) : n = 2 ∧ z_R1 code pc o ∧ z_R1 code (pc + 1) k := by
  match l, h, hs with
  | b :: c :: l, h, hs =>
    obtain ⟨h1, h2⟩ := Bool.and_eq_true_iff.mp (show (Nat.beq n 2 && (Nat.beq b.toNat o && Nat.beq c.toNat k)) = true from h)
    obtain ⟨h3, h4⟩ := Bool.and_eq_true_iff.mp h2
    have e := Nat.eq_of_beq_eq_true h3
    have e2 := Nat.eq_of_beq_eq_true h4
    obtain ⟨r1, s1⟩ := z_suf1 hs
    exact ⟨Nat.eq_of_beq_eq_true h1, e ▸ r1, e2 ▸ (z_suf1 s1).1⟩
theorem z_u2v {a b : Nat} (h1 : z_R1 code p a) (h2 : z_R1 code (p + 1) b) : (Reader.u2 : Decoder Nat) code p = .ok (a * 256 + b, p + 1 + 1) := by
  unfold Reader.u2
  rw [z_bd h1]
  show ((Reader.u1 : Decoder Nat) >>= fun lo => pure (a * 256 + lo)) code (p + 1) = _
  rw [z_bd h2]
  rfl
theorem z_a3 {o : Nat} (h : z_ck3 l n o k = true) (hs : z_suf code pc l) : n = 3 ∧ z_R1 code pc o ∧ (Reader.u2 : Decoder Nat) code (pc + 1) = .ok (k, pc + 1 + 1 + 1) := by
  match l, h, hs with
  | b :: c :: e :: l, h, hs =>
    obtain ⟨h1, h2⟩ := Bool.and_eq_true_iff.mp (show (Nat.beq n 3 && (Nat.beq b.toNat o && Nat.beq (c.toNat * 256 + e.toNat) k)) = true from h)
    obtain ⟨h3, h4⟩ := Bool.and_eq_true_iff.mp h2
    have e1 := Nat.eq_of_beq_eq_true h3
    have e2 := Nat.eq_of_beq_eq_true h4
    obtain ⟨r1, s1⟩ := z_suf1 hs
    obtain ⟨r2, s2⟩ := z_suf1 s1
    have h5 := z_u2v r2 (z_suf1 s2).1
    rw [e2] at h5
    exact ⟨Nat.eq_of_beq_eq_true h1, e1 ▸ r1, h5⟩
theorem z_a2s {o : Nat} {v : Int} (h : z_ck2s l n o v = true) (hs : z_suf code pc l) : n = 2 ∧ z_R1 code pc o ∧ (Reader.s1 : Decoder Int) code (pc + 1) = .ok (v, pc + 1 + 1) := by
  match l, h, hs with
  | b :: c :: l, h, hs =>
    obtain ⟨h1, h2⟩ := Bool.and_eq_true_iff.mp (show (Nat.beq n 2 && (Nat.beq b.toNat o && decide (Reader.signed 8 c.toNat = v))) = true from h)
    obtain ⟨h3, h4⟩ := Bool.and_eq_true_iff.mp h2
    have e := Nat.eq_of_beq_eq_true h3
    have e2 := of_decide_eq_true h4
    obtain ⟨r1, s1⟩ := z_suf1 hs
    have h5 : (Reader.s1 : Decoder Int) code (pc + 1) = .ok (Reader.signed 8 c.toNat, pc + 1 + 1) := z_mp (z_suf1 s1).1
    rw [e2] at h5
    exact ⟨Nat.eq_of_beq_eq_true h1, e ▸ r1, h5⟩
theorem z_a3s {o : Nat} {v : Int} (h : z_ck3s l n o v = true) (hs : z_suf code pc l) : n = 3 ∧ z_R1 code pc o ∧ (Reader.s2 : Decoder Int) code (pc + 1) = .ok (v, pc + 1 + 1 + 1) := by
  match l, h, hs with
  | b :: c :: e :: l, h, hs =>
    obtain ⟨h1, h2⟩ := Bool.and_eq_true_iff.mp (show (Nat.beq n 3 && (Nat.beq b.toNat o && decide (Reader.signed 16 (c.toNat * 256 + e.toNat) = v))) = true from h)
    obtain ⟨h3, h4⟩ := Bool.and_eq_true_iff.mp h2
    have e1 := Nat.eq_of_beq_eq_true h3
    have e2 := of_decide_eq_true h4
    obtain ⟨r1, s1⟩ := z_suf1 hs
    obtain ⟨r2, s2⟩ := z_suf1 s1
    have h5 : (Reader.s2 : Decoder Int) code (pc + 1) = .ok (Reader.signed 16 (c.toNat * 256 + e.toNat), pc + 1 + 1 + 1) := z_mp (z_u2v r2 (z_suf1 s2).1)
    rw [e2] at h5
    exact ⟨Nat.eq_of_beq_eq_true h1, e1 ▸ r1, h5⟩
theorem z_a3i {o : Nat} {v : Int} (h : z_ck3i l n o k v = true) (hs : z_suf code pc l) : n = 3 ∧ z_R1 code pc o ∧ z_R1 code (pc + 1) k ∧ (Reader.s1 : Decoder Int) code (pc + 1 + 1) = .ok (v, pc + 1 + 1 + 1) := by
  match l, h, hs with
  | b :: c :: e :: l, h, hs =>
    obtain ⟨h1, h2⟩ := Bool.and_eq_true_iff.mp (show (Nat.beq n 3 && (Nat.beq b.toNat o && (Nat.beq c.toNat k && decide (Reader.signed 8 e.toNat = v)))) = true from h)
    obtain ⟨h3, h4⟩ := Bool.and_eq_true_iff.mp h2
    obtain ⟨h6, h7⟩ := Bool.and_eq_true_iff.mp h4
    have e1 := Nat.eq_of_beq_eq_true h3
    have e2 := Nat.eq_of_beq_eq_true h6
    have e3 := of_decide_eq_true h7
    obtain ⟨r1, s1⟩ := z_suf1 hs
    obtain ⟨r2, s2⟩ := z_suf1 s1
    have h5 : (Reader.s1 : Decoder Int) code (pc + 1 + 1) = .ok (Reader.signed 8 e.toNat, pc + 1 + 1 + 1) := z_mp (z_suf1 s2).1
    rw [e3] at h5
    exact ⟨Nat.eq_of_beq_eq_true h1, e1 ▸ r1, e2 ▸ r2, h5⟩
theorem z_f_aconst_null (h : z_R1 code pc 1) : decode code pc = .ok (.aconst_null, 1) := z_dgo (F := _) (i := .aconst_null) (s := pc + 1) rfl h rfl rfl
theorem z_f_iaload (h : z_R1 code pc 46) : decode code pc = .ok (.iaload, 1) := z_dgo (F := _) (i := .iaload) (s := pc + 1) rfl h rfl rfl
theorem z_f_laload (h : z_R1 code pc 47) : decode code pc = .ok (.laload, 1) := z_dgo (F := _) (i := .laload) (s := pc + 1) rfl h rfl rfl
theorem z_f_aaload (h : z_R1 code pc 50) : decode code pc = .ok (.aaload, 1) := z_dgo (F := _) (i := .aaload) (s := pc + 1) rfl h rfl rfl
theorem z_f_iastore (h : z_R1 code pc 79) : decode code pc = .ok (.iastore, 1) := z_dgo (F := _) (i := .iastore) (s := pc + 1) rfl h rfl rfl
theorem z_f_lastore (h : z_R1 code pc 80) : decode code pc = .ok (.lastore, 1) := z_dgo (F := _) (i := .lastore) (s := pc + 1) rfl h rfl rfl
theorem z_f_aastore (h : z_R1 code pc 83) : decode code pc = .ok (.aastore, 1) := z_dgo (F := _) (i := .aastore) (s := pc + 1) rfl h rfl rfl
theorem z_f_pop (h : z_R1 code pc 87) : decode code pc = .ok (.pop, 1) := z_dgo (F := _) (i := .pop) (s := pc + 1) rfl h rfl rfl
theorem z_f_pop2 (h : z_R1 code pc 88) : decode code pc = .ok (.pop2, 1) := z_dgo (F := _) (i := .pop2) (s := pc + 1) rfl h rfl rfl
theorem z_f_dup (h : z_R1 code pc 89) : decode code pc = .ok (.dup, 1) := z_dgo (F := _) (i := .dup) (s := pc + 1) rfl h rfl rfl
theorem z_f_dup_x1 (h : z_R1 code pc 90) : decode code pc = .ok (.dup_x1, 1) := z_dgo (F := _) (i := .dup_x1) (s := pc + 1) rfl h rfl rfl
theorem z_f_dup_x2 (h : z_R1 code pc 91) : decode code pc = .ok (.dup_x2, 1) := z_dgo (F := _) (i := .dup_x2) (s := pc + 1) rfl h rfl rfl
theorem z_f_dup2 (h : z_R1 code pc 92) : decode code pc = .ok (.dup2, 1) := z_dgo (F := _) (i := .dup2) (s := pc + 1) rfl h rfl rfl
theorem z_f_iadd (h : z_R1 code pc 96) : decode code pc = .ok (.iadd, 1) := z_dgo (F := _) (i := .iadd) (s := pc + 1) rfl h rfl rfl
theorem z_f_ladd (h : z_R1 code pc 97) : decode code pc = .ok (.ladd, 1) := z_dgo (F := _) (i := .ladd) (s := pc + 1) rfl h rfl rfl
theorem z_f_isub (h : z_R1 code pc 100) : decode code pc = .ok (.isub, 1) := z_dgo (F := _) (i := .isub) (s := pc + 1) rfl h rfl rfl
theorem z_f_lsub (h : z_R1 code pc 101) : decode code pc = .ok (.lsub, 1) := z_dgo (F := _) (i := .lsub) (s := pc + 1) rfl h rfl rfl
theorem z_f_imul (h : z_R1 code pc 104) : decode code pc = .ok (.imul, 1) := z_dgo (F := _) (i := .imul) (s := pc + 1) rfl h rfl rfl
theorem z_f_idiv (h : z_R1 code pc 108) : decode code pc = .ok (.idiv, 1) := z_dgo (F := _) (i := .idiv) (s := pc + 1) rfl h rfl rfl
theorem z_f_irem (h : z_R1 code pc 112) : decode code pc = .ok (.irem, 1) := z_dgo (F := _) (i := .irem) (s := pc + 1) rfl h rfl rfl
theorem z_f_ineg (h : z_R1 code pc 116) : decode code pc = .ok (.ineg, 1) := z_dgo (F := _) (i := .ineg) (s := pc + 1) rfl h rfl rfl
theorem z_f_ishl (h : z_R1 code pc 120) : decode code pc = .ok (.ishl, 1) := z_dgo (F := _) (i := .ishl) (s := pc + 1) rfl h rfl rfl
theorem z_f_lshl (h : z_R1 code pc 121) : decode code pc = .ok (.lshl, 1) := z_dgo (F := _) (i := .lshl) (s := pc + 1) rfl h rfl rfl
theorem z_f_ishr (h : z_R1 code pc 122) : decode code pc = .ok (.ishr, 1) := z_dgo (F := _) (i := .ishr) (s := pc + 1) rfl h rfl rfl
theorem z_f_iushr (h : z_R1 code pc 124) : decode code pc = .ok (.iushr, 1) := z_dgo (F := _) (i := .iushr) (s := pc + 1) rfl h rfl rfl
theorem z_f_lushr (h : z_R1 code pc 125) : decode code pc = .ok (.lushr, 1) := z_dgo (F := _) (i := .lushr) (s := pc + 1) rfl h rfl rfl
theorem z_f_iand (h : z_R1 code pc 126) : decode code pc = .ok (.iand, 1) := z_dgo (F := _) (i := .iand) (s := pc + 1) rfl h rfl rfl
theorem z_f_land (h : z_R1 code pc 127) : decode code pc = .ok (.land, 1) := z_dgo (F := _) (i := .land) (s := pc + 1) rfl h rfl rfl
theorem z_f_ior (h : z_R1 code pc 128) : decode code pc = .ok (.ior, 1) := z_dgo (F := _) (i := .ior) (s := pc + 1) rfl h rfl rfl
theorem z_f_lor (h : z_R1 code pc 129) : decode code pc = .ok (.lor, 1) := z_dgo (F := _) (i := .lor) (s := pc + 1) rfl h rfl rfl
theorem z_f_ixor (h : z_R1 code pc 130) : decode code pc = .ok (.ixor, 1) := z_dgo (F := _) (i := .ixor) (s := pc + 1) rfl h rfl rfl
theorem z_f_lxor (h : z_R1 code pc 131) : decode code pc = .ok (.lxor, 1) := z_dgo (F := _) (i := .lxor) (s := pc + 1) rfl h rfl rfl
theorem z_f_i2l (h : z_R1 code pc 133) : decode code pc = .ok (.i2l, 1) := z_dgo (F := _) (i := .i2l) (s := pc + 1) rfl h rfl rfl
theorem z_f_l2i (h : z_R1 code pc 136) : decode code pc = .ok (.l2i, 1) := z_dgo (F := _) (i := .l2i) (s := pc + 1) rfl h rfl rfl
theorem z_f_i2b (h : z_R1 code pc 145) : decode code pc = .ok (.i2b, 1) := z_dgo (F := _) (i := .i2b) (s := pc + 1) rfl h rfl rfl
theorem z_f_i2s (h : z_R1 code pc 147) : decode code pc = .ok (.i2s, 1) := z_dgo (F := _) (i := .i2s) (s := pc + 1) rfl h rfl rfl
theorem z_f_lcmp (h : z_R1 code pc 148) : decode code pc = .ok (.lcmp, 1) := z_dgo (F := _) (i := .lcmp) (s := pc + 1) rfl h rfl rfl
theorem z_f_ireturn (h : z_R1 code pc 172) : decode code pc = .ok (.ireturn, 1) := z_dgo (F := _) (i := .ireturn) (s := pc + 1) rfl h rfl rfl
theorem z_f_lreturn (h : z_R1 code pc 173) : decode code pc = .ok (.lreturn, 1) := z_dgo (F := _) (i := .lreturn) (s := pc + 1) rfl h rfl rfl
theorem z_f_areturn (h : z_R1 code pc 176) : decode code pc = .ok (.areturn, 1) := z_dgo (F := _) (i := .areturn) (s := pc + 1) rfl h rfl rfl
theorem z_f_return_ (h : z_R1 code pc 177) : decode code pc = .ok (.return_, 1) := z_dgo (F := _) (i := .return_) (s := pc + 1) rfl h rfl rfl
theorem z_f_arraylength (h : z_R1 code pc 190) : decode code pc = .ok (.arraylength, 1) := z_dgo (F := _) (i := .arraylength) (s := pc + 1) rfl h rfl rfl
theorem z_f_athrow (h : z_R1 code pc 191) : decode code pc = .ok (.athrow, 1) := z_dgo (F := _) (i := .athrow) (s := pc + 1) rfl h rfl rfl
theorem z_f_iload_n0 (h : z_R1 code pc 26) : decode code pc = .ok (.iload_n 0, 1) := z_dgo (F := _) (i := .iload_n 0) (s := pc + 1) rfl h rfl rfl
theorem z_f_iload_n1 (h : z_R1 code pc 27) : decode code pc = .ok (.iload_n 1, 1) := z_dgo (F := _) (i := .iload_n 1) (s := pc + 1) rfl h rfl rfl
theorem z_f_iload_n2 (h : z_R1 code pc 28) : decode code pc = .ok (.iload_n 2, 1) := z_dgo (F := _) (i := .iload_n 2) (s := pc + 1) rfl h rfl rfl
theorem z_f_iload_n3 (h : z_R1 code pc 29) : decode code pc = .ok (.iload_n 3, 1) := z_dgo (F := _) (i := .iload_n 3) (s := pc + 1) rfl h rfl rfl
theorem z_f_lload_n0 (h : z_R1 code pc 30) : decode code pc = .ok (.lload_n 0, 1) := z_dgo (F := _) (i := .lload_n 0) (s := pc + 1) rfl h rfl rfl
theorem z_f_lload_n1 (h : z_R1 code pc 31) : decode code pc = .ok (.lload_n 1, 1) := z_dgo (F := _) (i := .lload_n 1) (s := pc + 1) rfl h rfl rfl
theorem z_f_lload_n2 (h : z_R1 code pc 32) : decode code pc = .ok (.lload_n 2, 1) := z_dgo (F := _) (i := .lload_n 2) (s := pc + 1) rfl h rfl rfl
theorem z_f_lload_n3 (h : z_R1 code pc 33) : decode code pc = .ok (.lload_n 3, 1) := z_dgo (F := _) (i := .lload_n 3) (s := pc + 1) rfl h rfl rfl
theorem z_f_aload_n0 (h : z_R1 code pc 42) : decode code pc = .ok (.aload_n 0, 1) := z_dgo (F := _) (i := .aload_n 0) (s := pc + 1) rfl h rfl rfl
theorem z_f_aload_n1 (h : z_R1 code pc 43) : decode code pc = .ok (.aload_n 1, 1) := z_dgo (F := _) (i := .aload_n 1) (s := pc + 1) rfl h rfl rfl
theorem z_f_aload_n2 (h : z_R1 code pc 44) : decode code pc = .ok (.aload_n 2, 1) := z_dgo (F := _) (i := .aload_n 2) (s := pc + 1) rfl h rfl rfl
theorem z_f_aload_n3 (h : z_R1 code pc 45) : decode code pc = .ok (.aload_n 3, 1) := z_dgo (F := _) (i := .aload_n 3) (s := pc + 1) rfl h rfl rfl
theorem z_f_istore_n0 (h : z_R1 code pc 59) : decode code pc = .ok (.istore_n 0, 1) := z_dgo (F := _) (i := .istore_n 0) (s := pc + 1) rfl h rfl rfl
theorem z_f_istore_n1 (h : z_R1 code pc 60) : decode code pc = .ok (.istore_n 1, 1) := z_dgo (F := _) (i := .istore_n 1) (s := pc + 1) rfl h rfl rfl
theorem z_f_istore_n2 (h : z_R1 code pc 61) : decode code pc = .ok (.istore_n 2, 1) := z_dgo (F := _) (i := .istore_n 2) (s := pc + 1) rfl h rfl rfl
theorem z_f_istore_n3 (h : z_R1 code pc 62) : decode code pc = .ok (.istore_n 3, 1) := z_dgo (F := _) (i := .istore_n 3) (s := pc + 1) rfl h rfl rfl
theorem z_f_lstore_n0 (h : z_R1 code pc 63) : decode code pc = .ok (.lstore_n 0, 1) := z_dgo (F := _) (i := .lstore_n 0) (s := pc + 1) rfl h rfl rfl
theorem z_f_lstore_n1 (h : z_R1 code pc 64) : decode code pc = .ok (.lstore_n 1, 1) := z_dgo (F := _) (i := .lstore_n 1) (s := pc + 1) rfl h rfl rfl
theorem z_f_lstore_n2 (h : z_R1 code pc 65) : decode code pc = .ok (.lstore_n 2, 1) := z_dgo (F := _) (i := .lstore_n 2) (s := pc + 1) rfl h rfl rfl
theorem z_f_lstore_n3 (h : z_R1 code pc 66) : decode code pc = .ok (.lstore_n 3, 1) := z_dgo (F := _) (i := .lstore_n 3) (s := pc + 1) rfl h rfl rfl
theorem z_f_astore_n0 (h : z_R1 code pc 75) : decode code pc = .ok (.astore_n 0, 1) := z_dgo (F := _) (i := .astore_n 0) (s := pc + 1) rfl h rfl rfl
theorem z_f_astore_n1 (h : z_R1 code pc 76) : decode code pc = .ok (.astore_n 1, 1) := z_dgo (F := _) (i := .astore_n 1) (s := pc + 1) rfl h rfl rfl
theorem z_f_astore_n2 (h : z_R1 code pc 77) : decode code pc = .ok (.astore_n 2, 1) := z_dgo (F := _) (i := .astore_n 2) (s := pc + 1) rfl h rfl rfl
theorem z_f_astore_n3 (h : z_R1 code pc 78) : decode code pc = .ok (.astore_n 3, 1) := z_dgo (F := _) (i := .astore_n 3) (s := pc + 1) rfl h rfl rfl
theorem z_f_lconst0 (h : z_R1 code pc 9) : decode code pc = .ok (.lconst 0, 1) := z_dgo (F := _) (i := .lconst 0) (s := pc + 1) rfl h rfl rfl
theorem z_f_lconst1 (h : z_R1 code pc 10) : decode code pc = .ok (.lconst 1, 1) := z_dgo (F := _) (i := .lconst 1) (s := pc + 1) rfl h rfl rfl
theorem z_f_iconstm1 (h : z_R1 code pc 2) : decode code pc = .ok (.iconst (-1), 1) := z_dgo (F := _) (i := .iconst (-1)) (s := pc + 1) rfl h rfl rfl
theorem z_f_iconst0 (h : z_R1 code pc 3) : decode code pc = .ok (.iconst 0, 1) := z_dgo (F := _) (i := .iconst 0) (s := pc + 1) rfl h rfl rfl
theorem z_f_iconst1 (h : z_R1 code pc 4) : decode code pc = .ok (.iconst 1, 1) := z_dgo (F := _) (i := .iconst 1) (s := pc + 1) rfl h rfl rfl
theorem z_f_iconst2 (h : z_R1 code pc 5) : decode code pc = .ok (.iconst 2, 1) := z_dgo (F := _) (i := .iconst 2) (s := pc + 1) rfl h rfl rfl
theorem z_f_iconst3 (h : z_R1 code pc 6) : decode code pc = .ok (.iconst 3, 1) := z_dgo (F := _) (i := .iconst 3) (s := pc + 1) rfl h rfl rfl
theorem z_f_iconst4 (h : z_R1 code pc 7) : decode code pc = .ok (.iconst 4, 1) := z_dgo (F := _) (i := .iconst 4) (s := pc + 1) rfl h rfl rfl
theorem z_f_iconst5 (h : z_R1 code pc 8) : decode code pc = .ok (.iconst 5, 1) := z_dgo (F := _) (i := .iconst 5) (s := pc + 1) rfl h rfl rfl
theorem z_f_ldc {v : Nat} (h : z_R1 code pc 18) (h1 : z_R1 code (pc + 1) v) : decode code pc = .ok (.ldc v, 2) := z_dgo (F := _) (i := .ldc v) (s := pc + 1 + 1) rfl h (z_bd h1) rfl
theorem z_f_iload {v : Nat} (h : z_R1 code pc 21) (h1 : z_R1 code (pc + 1) v) : decode code pc = .ok (.iload v, 2) := z_dgo (F := _) (i := .iload v) (s := pc + 1 + 1) rfl h (z_bd h1) rfl
theorem z_f_lload {v : Nat} (h : z_R1 code pc 22) (h1 : z_R1 code (pc + 1) v) : decode code pc = .ok (.lload v, 2) := z_dgo (F := _) (i := .lload v) (s := pc + 1 + 1) rfl h (z_bd h1) rfl
theorem z_f_aload {v : Nat} (h : z_R1 code pc 25) (h1 : z_R1 code (pc + 1) v) : decode code pc = .ok (.aload v, 2) := z_dgo (F := _) (i := .aload v) (s := pc + 1 + 1) rfl h (z_bd h1) rfl
theorem z_f_istore {v : Nat} (h : z_R1 code pc 54) (h1 : z_R1 code (pc + 1) v) : decode code pc = .ok (.istore v, 2) := z_dgo (F := _) (i := .istore v) (s := pc + 1 + 1) rfl h (z_bd h1) rfl
theorem z_f_lstore {v : Nat} (h : z_R1 code pc 55) (h1 : z_R1 code (pc + 1) v) : decode code pc = .ok (.lstore v, 2) := z_dgo (F := _) (i := .lstore v) (s := pc + 1 + 1) rfl h (z_bd h1) rfl
theorem z_f_astore {v : Nat} (h : z_R1 code pc 58) (h1 : z_R1 code (pc + 1) v) : decode code pc = .ok (.astore v, 2) := z_dgo (F := _) (i := .astore v) (s := pc + 1 + 1) rfl h (z_bd h1) rfl
theorem z_f_ldc_w {v : Nat} (h : z_R1 code pc 19) (h1 : (Reader.u2 : Decoder Nat) code (pc + 1) = .ok (v, pc + 1 + 1 + 1)) : decode code pc = .ok (.ldc_w v, 3) := z_dgo (F := _) (i := .ldc_w v) (s := pc + 1 + 1 + 1) rfl h (z_bd h1) rfl
theorem z_f_ldc2_w {v : Nat} (h : z_R1 code pc 20) (h1 : (Reader.u2 : Decoder Nat) code (pc + 1) = .ok (v, pc + 1 + 1 + 1)) : decode code pc = .ok (.ldc2_w v, 3) := z_dgo (F := _) (i := .ldc2_w v) (s := pc + 1 + 1 + 1) rfl h (z_bd h1) rfl
theorem z_f_getstatic {v : Nat} (h : z_R1 code pc 178) (h1 : (Reader.u2 : Decoder Nat) code (pc + 1) = .ok (v, pc + 1 + 1 + 1)) : decode code pc = .ok (.getstatic v, 3) := z_dgo (F := _) (i := .getstatic v) (s := pc + 1 + 1 + 1) rfl h (z_bd h1) rfl
theorem z_f_getfield {v : Nat} (h : z_R1 code pc 180) (h1 : (Reader.u2 : Decoder Nat) code (pc + 1) = .ok (v, pc + 1 + 1 + 1)) : decode code pc = .ok (.getfield v, 3) := z_dgo (F := _) (i := .getfield v) (s := pc + 1 + 1 + 1) rfl h (z_bd h1) rfl
theorem z_f_putfield {v : Nat} (h : z_R1 code pc 181) (h1 : (Reader.u2 : Decoder Nat) code (pc + 1) = .ok (v, pc + 1 + 1 + 1)) : decode code pc = .ok (.putfield v, 3) := z_dgo (F := _) (i := .putfield v) (s := pc + 1 + 1 + 1) rfl h (z_bd h1) rfl
theorem z_f_invokevirtual {v : Nat} (h : z_R1 code pc 182) (h1 : (Reader.u2 : Decoder Nat) code (pc + 1) = .ok (v, pc + 1 + 1 + 1)) : decode code pc = .ok (.invokevirtual v, 3) := z_dgo (F := _) (i := .invokevirtual v) (s := pc + 1 + 1 + 1) rfl h (z_bd h1) rfl
theorem z_f_invokespecial {v : Nat} (h : z_R1 code pc 183) (h1 : (Reader.u2 : Decoder Nat) code (pc + 1) = .ok (v, pc + 1 + 1 + 1)) : decode code pc = .ok (.invokespecial v, 3) := z_dgo (F := _) (i := .invokespecial v) (s := pc + 1 + 1 + 1) rfl h (z_bd h1) rfl
theorem z_f_invokestatic {v : Nat} (h : z_R1 code pc 184) (h1 : (Reader.u2 : Decoder Nat) code (pc + 1) = .ok (v, pc + 1 + 1 + 1)) : decode code pc = .ok (.invokestatic v, 3) := z_dgo (F := _) (i := .invokestatic v) (s := pc + 1 + 1 + 1) rfl h (z_bd h1) rfl
theorem z_f_new {v : Nat} (h : z_R1 code pc 187) (h1 : (Reader.u2 : Decoder Nat) code (pc + 1) = .ok (v, pc + 1 + 1 + 1)) : decode code pc = .ok (.new v, 3) := z_dgo (F := _) (i := .new v) (s := pc + 1 + 1 + 1) rfl h (z_bd h1) rfl
theorem z_f_anewarray {v : Nat} (h : z_R1 code pc 189) (h1 : (Reader.u2 : Decoder Nat) code (pc + 1) = .ok (v, pc + 1 + 1 + 1)) : decode code pc = .ok (.anewarray v, 3) := z_dgo (F := _) (i := .anewarray v) (s := pc + 1 + 1 + 1) rfl h (z_bd h1) rfl
theorem z_f_sipush {v : Int} (h : z_R1 code pc 17) (h1 : (Reader.s2 : Decoder Int) code (pc + 1) = .ok (v, pc + 1 + 1 + 1)) : decode code pc = .ok (.sipush v, 3) := z_dgo (F := _) (i := .sipush v) (s := pc + 1 + 1 + 1) rfl h (z_bd h1) rfl
theorem z_f_goto {v : Int} (h : z_R1 code pc 167) (h1 : (Reader.s2 : Decoder Int) code (pc + 1) = .ok (v, pc + 1 + 1 + 1)) : decode code pc = .ok (.goto v, 3) := z_dgo (F := _) (i := .goto v) (s := pc + 1 + 1 + 1) rfl h (z_bd h1) rfl
theorem z_f_ifnull {v : Int} (h : z_R1 code pc 198) (h1 : (Reader.s2 : Decoder Int) code (pc + 1) = .ok (v, pc + 1 + 1 + 1)) : decode code pc = .ok (.ifnull v, 3) := z_dgo (F := _) (i := .ifnull v) (s := pc + 1 + 1 + 1) rfl h (z_bd h1) rfl
theorem z_f_ifnonnull {v : Int} (h : z_R1 code pc 199) (h1 : (Reader.s2 : Decoder Int) code (pc + 1) = .ok (v, pc + 1 + 1 + 1)) : decode code pc = .ok (.ifnonnull v, 3) := z_dgo (F := _) (i := .ifnonnull v) (s := pc + 1 + 1 + 1) rfl h (z_bd h1) rfl
theorem z_f_bipush {v : Int} (h : z_R1 code pc 16) (h1 : (Reader.s1 : Decoder Int) code (pc + 1) = .ok (v, pc + 1 + 1)) : decode code pc = .ok (.bipush v, 2) := z_dgo (F := _) (i := .bipush v) (s := pc + 1 + 1) rfl h (z_bd h1) rfl
theorem z_f_ifCond_eq {v : Int} (h : z_R1 code pc 153) (h1 : (Reader.s2 : Decoder Int) code (pc + 1) = .ok (v, pc + 1 + 1 + 1)) : decode code pc = .ok (.ifCond .eq v, 3) := z_dgo (F := _) (i := .ifCond .eq v) (s := pc + 1 + 1 + 1) rfl h (z_bd h1) rfl
theorem z_f_ifCond_ne {v : Int} (h : z_R1 code pc 154) (h1 : (Reader.s2 : Decoder Int) code (pc + 1) = .ok (v, pc + 1 + 1 + 1)) : decode code pc = .ok (.ifCond .ne v, 3) := z_dgo (F := _) (i := .ifCond .ne v) (s := pc + 1 + 1 + 1) rfl h (z_bd h1) rfl
theorem z_f_ifCond_lt {v : Int} (h : z_R1 code pc 155) (h1 : (Reader.s2 : Decoder Int) code (pc + 1) = .ok (v, pc + 1 + 1 + 1)) : decode code pc = .ok (.ifCond .lt v, 3) := z_dgo (F := _) (i := .ifCond .lt v) (s := pc + 1 + 1 + 1) rfl h (z_bd h1) rfl
theorem z_f_ifCond_ge {v : Int} (h : z_R1 code pc 156) (h1 : (Reader.s2 : Decoder Int) code (pc + 1) = .ok (v, pc + 1 + 1 + 1)) : decode code pc = .ok (.ifCond .ge v, 3) := z_dgo (F := _) (i := .ifCond .ge v) (s := pc + 1 + 1 + 1) rfl h (z_bd h1) rfl
theorem z_f_ifCond_gt {v : Int} (h : z_R1 code pc 157) (h1 : (Reader.s2 : Decoder Int) code (pc + 1) = .ok (v, pc + 1 + 1 + 1)) : decode code pc = .ok (.ifCond .gt v, 3) := z_dgo (F := _) (i := .ifCond .gt v) (s := pc + 1 + 1 + 1) rfl h (z_bd h1) rfl
theorem z_f_ifCond_le {v : Int} (h : z_R1 code pc 158) (h1 : (Reader.s2 : Decoder Int) code (pc + 1) = .ok (v, pc + 1 + 1 + 1)) : decode code pc = .ok (.ifCond .le v, 3) := z_dgo (F := _) (i := .ifCond .le v) (s := pc + 1 + 1 + 1) rfl h (z_bd h1) rfl
theorem z_f_if_icmp_eq {v : Int} (h : z_R1 code pc 159) (h1 : (Reader.s2 : Decoder Int) code (pc + 1) = .ok (v, pc + 1 + 1 + 1)) : decode code pc = .ok (.if_icmp .eq v, 3) := z_dgo (F := _) (i := .if_icmp .eq v) (s := pc + 1 + 1 + 1) rfl h (z_bd h1) rfl
theorem z_f_if_icmp_ne {v : Int} (h : z_R1 code pc 160) (h1 : (Reader.s2 : Decoder Int) code (pc + 1) = .ok (v, pc + 1 + 1 + 1)) : decode code pc = .ok (.if_icmp .ne v, 3) := z_dgo (F := _) (i := .if_icmp .ne v) (s := pc + 1 + 1 + 1) rfl h (z_bd h1) rfl
theorem z_f_if_icmp_lt {v : Int} (h : z_R1 code pc 161) (h1 : (Reader.s2 : Decoder Int) code (pc + 1) = .ok (v, pc + 1 + 1 + 1)) : decode code pc = .ok (.if_icmp .lt v, 3) := z_dgo (F := _) (i := .if_icmp .lt v) (s := pc + 1 + 1 + 1) rfl h (z_bd h1) rfl
theorem z_f_if_icmp_ge {v : Int} (h : z_R1 code pc 162) (h1 : (Reader.s2 : Decoder Int) code (pc + 1) = .ok (v, pc + 1 + 1 + 1)) : decode code pc = .ok (.if_icmp .ge v, 3) := z_dgo (F := _) (i := .if_icmp .ge v) (s := pc + 1 + 1 + 1) rfl h (z_bd h1) rfl
theorem z_f_if_icmp_gt {v : Int} (h : z_R1 code pc 163) (h1 : (Reader.s2 : Decoder Int) code (pc + 1) = .ok (v, pc + 1 + 1 + 1)) : decode code pc = .ok (.if_icmp .gt v, 3) := z_dgo (F := _) (i := .if_icmp .gt v) (s := pc + 1 + 1 + 1) rfl h (z_bd h1) rfl
theorem z_f_if_icmp_le {v : Int} (h : z_R1 code pc 164) (h1 : (Reader.s2 : Decoder Int) code (pc + 1) = .ok (v, pc + 1 + 1 + 1)) : decode code pc = .ok (.if_icmp .le v, 3) := z_dgo (F := _) (i := .if_icmp .le v) (s := pc + 1 + 1 + 1) rfl h (z_bd h1) rfl
theorem z_f_iinc {u : Nat} {v : Int} (h : z_R1 code pc 132) (h1 : z_R1 code (pc + 1) u) (h2 : (Reader.s1 : Decoder Int) code (pc + 1 + 1) = .ok (v, pc + 1 + 1 + 1)) : decode code pc = .ok (.iinc u v, 3) := z_dgo (F := _) (i := .iinc u v) (s := pc + 1 + 1 + 1) rfl h ((z_bd h1).trans (z_bd h2)) rfl
theorem z_f_new_int (h : z_R1 code pc 188) (h1 : z_R1 code (pc + 1) 10) : decode code pc = .ok (.newarray .int, 2) := z_dgo (F := _) (i := .newarray .int) (s := pc + 1 + 1) rfl h (z_bd h1) rfl
theorem z_f_new_long (h : z_R1 code pc 188) (h1 : z_R1 code (pc + 1) 11) : decode code pc = .ok (.newarray .long, 2) := z_dgo (F := _) (i := .newarray .long) (s := pc + 1 + 1) rfl h (z_bd h1) rfl
theorem z_chkS (i : Instr) (h : z_chk i n l = true) (hs : z_suf code pc l) : decode code pc = .ok (i, n) ∧ n = z_len i n := by
  cases i
  case aconst_null =>
    obtain ⟨rfl, e⟩ := z_a1 (k := 1) h hs
    exact ⟨z_f_aconst_null e, rfl⟩
  case iaload =>
    obtain ⟨rfl, e⟩ := z_a1 (k := 46) h hs
    exact ⟨z_f_iaload e, rfl⟩
  case laload =>
    obtain ⟨rfl, e⟩ := z_a1 (k := 47) h hs
    exact ⟨z_f_laload e, rfl⟩
  case aaload =>
    obtain ⟨rfl, e⟩ := z_a1 (k := 50) h hs
    exact ⟨z_f_aaload e, rfl⟩
  case iastore =>
    obtain ⟨rfl, e⟩ := z_a1 (k := 79) h hs
    exact ⟨z_f_iastore e, rfl⟩
  case lastore =>
    obtain ⟨rfl, e⟩ := z_a1 (k := 80) h hs
    exact ⟨z_f_lastore e, rfl⟩
  case aastore =>
    obtain ⟨rfl, e⟩ := z_a1 (k := 83) h hs
    exact ⟨z_f_aastore e, rfl⟩
  case pop =>
    obtain ⟨rfl, e⟩ := z_a1 (k := 87) h hs
    exact ⟨z_f_pop e, rfl⟩
  case pop2 =>
    obtain ⟨rfl, e⟩ := z_a1 (k := 88) h hs
    exact ⟨z_f_pop2 e, rfl⟩
  case dup =>
    obtain ⟨rfl, e⟩ := z_a1 (k := 89) h hs
    exact ⟨z_f_dup e, rfl⟩
  case dup_x1 =>
    obtain ⟨rfl, e⟩ := z_a1 (k := 90) h hs
    exact ⟨z_f_dup_x1 e, rfl⟩
  case dup_x2 =>
    obtain ⟨rfl, e⟩ := z_a1 (k := 91) h hs
    exact ⟨z_f_dup_x2 e, rfl⟩
  case dup2 =>
    obtain ⟨rfl, e⟩ := z_a1 (k := 92) h hs
    exact ⟨z_f_dup2 e, rfl⟩
  case iadd =>
    obtain ⟨rfl, e⟩ := z_a1 (k := 96) h hs
    exact ⟨z_f_iadd e, rfl⟩
  case ladd =>
    obtain ⟨rfl, e⟩ := z_a1 (k := 97) h hs
    exact ⟨z_f_ladd e, rfl⟩
  case isub =>
    obtain ⟨rfl, e⟩ := z_a1 (k := 100) h hs
    exact ⟨z_f_isub e, rfl⟩
  case lsub =>
    obtain ⟨rfl, e⟩ := z_a1 (k := 101) h hs
    exact ⟨z_f_lsub e, rfl⟩
  case imul =>
    obtain ⟨rfl, e⟩ := z_a1 (k := 104) h hs
    exact ⟨z_f_imul e, rfl⟩
  case idiv =>
    obtain ⟨rfl, e⟩ := z_a1 (k := 108) h hs
    exact ⟨z_f_idiv e, rfl⟩
  case irem =>
    obtain ⟨rfl, e⟩ := z_a1 (k := 112) h hs
    exact ⟨z_f_irem e, rfl⟩
  case ineg =>
    obtain ⟨rfl, e⟩ := z_a1 (k := 116) h hs
    exact ⟨z_f_ineg e, rfl⟩
  case ishl =>
    obtain ⟨rfl, e⟩ := z_a1 (k := 120) h hs
    exact ⟨z_f_ishl e, rfl⟩
  case lshl =>
    obtain ⟨rfl, e⟩ := z_a1 (k := 121) h hs
    exact ⟨z_f_lshl e, rfl⟩
  case ishr =>
    obtain ⟨rfl, e⟩ := z_a1 (k := 122) h hs
    exact ⟨z_f_ishr e, rfl⟩
  case iushr =>
    obtain ⟨rfl, e⟩ := z_a1 (k := 124) h hs
    exact ⟨z_f_iushr e, rfl⟩
  case lushr =>
    obtain ⟨rfl, e⟩ := z_a1 (k := 125) h hs
    exact ⟨z_f_lushr e, rfl⟩
  case iand =>
    obtain ⟨rfl, e⟩ := z_a1 (k := 126) h hs
    exact ⟨z_f_iand e, rfl⟩
  case land =>
    obtain ⟨rfl, e⟩ := z_a1 (k := 127) h hs
    exact ⟨z_f_land e, rfl⟩
  case ior =>
    obtain ⟨rfl, e⟩ := z_a1 (k := 128) h hs
    exact ⟨z_f_ior e, rfl⟩
  case lor =>
    obtain ⟨rfl, e⟩ := z_a1 (k := 129) h hs
    exact ⟨z_f_lor e, rfl⟩
  case ixor =>
    obtain ⟨rfl, e⟩ := z_a1 (k := 130) h hs
    exact ⟨z_f_ixor e, rfl⟩
  case lxor =>
    obtain ⟨rfl, e⟩ := z_a1 (k := 131) h hs
    exact ⟨z_f_lxor e, rfl⟩
  case i2l =>
    obtain ⟨rfl, e⟩ := z_a1 (k := 133) h hs
    exact ⟨z_f_i2l e, rfl⟩
  case l2i =>
    obtain ⟨rfl, e⟩ := z_a1 (k := 136) h hs
    exact ⟨z_f_l2i e, rfl⟩
  case i2b =>
    obtain ⟨rfl, e⟩ := z_a1 (k := 145) h hs
    exact ⟨z_f_i2b e, rfl⟩
  case i2s =>
    obtain ⟨rfl, e⟩ := z_a1 (k := 147) h hs
    exact ⟨z_f_i2s e, rfl⟩
  case lcmp =>
    obtain ⟨rfl, e⟩ := z_a1 (k := 148) h hs
    exact ⟨z_f_lcmp e, rfl⟩
  case ireturn =>
    obtain ⟨rfl, e⟩ := z_a1 (k := 172) h hs
    exact ⟨z_f_ireturn e, rfl⟩
  case lreturn =>
    obtain ⟨rfl, e⟩ := z_a1 (k := 173) h hs
    exact ⟨z_f_lreturn e, rfl⟩
  case areturn =>
    obtain ⟨rfl, e⟩ := z_a1 (k := 176) h hs
    exact ⟨z_f_areturn e, rfl⟩
  case return_ =>
    obtain ⟨rfl, e⟩ := z_a1 (k := 177) h hs
    exact ⟨z_f_return_ e, rfl⟩
  case arraylength =>
    obtain ⟨rfl, e⟩ := z_a1 (k := 190) h hs
    exact ⟨z_f_arraylength e, rfl⟩
  case athrow =>
    obtain ⟨rfl, e⟩ := z_a1 (k := 191) h hs
    exact ⟨z_f_athrow e, rfl⟩
  case iload_n v =>
    obtain ⟨rfl, e⟩ := z_a1 (k := 26 + v.val) h hs
    rcases v with ⟨_ | _ | _ | _ | v, hv⟩
    · exact ⟨z_f_iload_n0 e, rfl⟩
    · exact ⟨z_f_iload_n1 e, rfl⟩
    · exact ⟨z_f_iload_n2 e, rfl⟩
    · exact ⟨z_f_iload_n3 e, rfl⟩
    · exact absurd hv (by omega)
  case lload_n v =>
    obtain ⟨rfl, e⟩ := z_a1 (k := 30 + v.val) h hs
    rcases v with ⟨_ | _ | _ | _ | v, hv⟩
    · exact ⟨z_f_lload_n0 e, rfl⟩
    · exact ⟨z_f_lload_n1 e, rfl⟩
    · exact ⟨z_f_lload_n2 e, rfl⟩
    · exact ⟨z_f_lload_n3 e, rfl⟩
    · exact absurd hv (by omega)
  case aload_n v =>
    obtain ⟨rfl, e⟩ := z_a1 (k := 42 + v.val) h hs
    rcases v with ⟨_ | _ | _ | _ | v, hv⟩
    · exact ⟨z_f_aload_n0 e, rfl⟩
    · exact ⟨z_f_aload_n1 e, rfl⟩
    · exact ⟨z_f_aload_n2 e, rfl⟩
    · exact ⟨z_f_aload_n3 e, rfl⟩
    · exact absurd hv (by omega)
  case istore_n v =>
    obtain ⟨rfl, e⟩ := z_a1 (k := 59 + v.val) h hs
    rcases v with ⟨_ | _ | _ | _ | v, hv⟩
    · exact ⟨z_f_istore_n0 e, rfl⟩
    · exact ⟨z_f_istore_n1 e, rfl⟩
    · exact ⟨z_f_istore_n2 e, rfl⟩
    · exact ⟨z_f_istore_n3 e, rfl⟩
    · exact absurd hv (by omega)
  case lstore_n v =>
    obtain ⟨rfl, e⟩ := z_a1 (k := 63 + v.val) h hs
    rcases v with ⟨_ | _ | _ | _ | v, hv⟩
    · exact ⟨z_f_lstore_n0 e, rfl⟩
    · exact ⟨z_f_lstore_n1 e, rfl⟩
    · exact ⟨z_f_lstore_n2 e, rfl⟩
    · exact ⟨z_f_lstore_n3 e, rfl⟩
    · exact absurd hv (by omega)
  case astore_n v =>
    obtain ⟨rfl, e⟩ := z_a1 (k := 75 + v.val) h hs
    rcases v with ⟨_ | _ | _ | _ | v, hv⟩
    · exact ⟨z_f_astore_n0 e, rfl⟩
    · exact ⟨z_f_astore_n1 e, rfl⟩
    · exact ⟨z_f_astore_n2 e, rfl⟩
    · exact ⟨z_f_astore_n3 e, rfl⟩
    · exact absurd hv (by omega)
  case lconst v =>
    obtain ⟨rfl, e⟩ := z_a1 (k := 9 + v.val) h hs
    rcases v with ⟨_ | _ | v, hv⟩
    · exact ⟨z_f_lconst0 e, rfl⟩
    · exact ⟨z_f_lconst1 e, rfl⟩
    · exact absurd hv (by omega)
  case iconst v =>
    cases v with
    | ofNat v =>
      obtain ⟨h1, h2⟩ := Bool.and_eq_true_iff.mp (show (Nat.ble v 5 && z_ck1 l n (3 + v)) = true from h)
      have h3 := Nat.le_of_ble_eq_true h1
      obtain ⟨rfl, e⟩ := z_a1 h2 hs
      rcases v with _ | _ | _ | _ | _ | _ | v
      · exact ⟨z_f_iconst0 e, rfl⟩
      · exact ⟨z_f_iconst1 e, rfl⟩
      · exact ⟨z_f_iconst2 e, rfl⟩
      · exact ⟨z_f_iconst3 e, rfl⟩
      · exact ⟨z_f_iconst4 e, rfl⟩
      · exact ⟨z_f_iconst5 e, rfl⟩
      · exact absurd h3 (by omega)
    | negSucc v =>
      obtain ⟨h1, h2⟩ := Bool.and_eq_true_iff.mp (show (Nat.beq v 0 && z_ck1 l n 2) = true from h)
      have h3 := Nat.eq_of_beq_eq_true h1
      subst h3
      obtain ⟨rfl, e⟩ := z_a1 h2 hs
      exact ⟨z_f_iconstm1 e, rfl⟩
  case ldc v =>
    obtain ⟨rfl, e, e1⟩ := z_a2 (o := 18) (k := v) h hs
    exact ⟨z_f_ldc e e1, rfl⟩
  case iload v =>
    obtain ⟨rfl, e, e1⟩ := z_a2 (o := 21) (k := v) h hs
    exact ⟨z_f_iload e e1, rfl⟩
  case lload v =>
    obtain ⟨rfl, e, e1⟩ := z_a2 (o := 22) (k := v) h hs
    exact ⟨z_f_lload e e1, rfl⟩
  case aload v =>
    obtain ⟨rfl, e, e1⟩ := z_a2 (o := 25) (k := v) h hs
    exact ⟨z_f_aload e e1, rfl⟩
  case istore v =>
    obtain ⟨rfl, e, e1⟩ := z_a2 (o := 54) (k := v) h hs
    exact ⟨z_f_istore e e1, rfl⟩
  case lstore v =>
    obtain ⟨rfl, e, e1⟩ := z_a2 (o := 55) (k := v) h hs
    exact ⟨z_f_lstore e e1, rfl⟩
  case astore v =>
    obtain ⟨rfl, e, e1⟩ := z_a2 (o := 58) (k := v) h hs
    exact ⟨z_f_astore e e1, rfl⟩
  case ldc_w v =>
    obtain ⟨rfl, e, e1⟩ := z_a3 (o := 19) (k := v) h hs
    exact ⟨z_f_ldc_w e e1, rfl⟩
  case ldc2_w v =>
    obtain ⟨rfl, e, e1⟩ := z_a3 (o := 20) (k := v) h hs
    exact ⟨z_f_ldc2_w e e1, rfl⟩
  case getstatic v =>
    obtain ⟨rfl, e, e1⟩ := z_a3 (o := 178) (k := v) h hs
    exact ⟨z_f_getstatic e e1, rfl⟩
  case getfield v =>
    obtain ⟨rfl, e, e1⟩ := z_a3 (o := 180) (k := v) h hs
    exact ⟨z_f_getfield e e1, rfl⟩
  case putfield v =>
    obtain ⟨rfl, e, e1⟩ := z_a3 (o := 181) (k := v) h hs
    exact ⟨z_f_putfield e e1, rfl⟩
  case invokevirtual v =>
    obtain ⟨rfl, e, e1⟩ := z_a3 (o := 182) (k := v) h hs
    exact ⟨z_f_invokevirtual e e1, rfl⟩
  case invokespecial v =>
    obtain ⟨rfl, e, e1⟩ := z_a3 (o := 183) (k := v) h hs
    exact ⟨z_f_invokespecial e e1, rfl⟩
  case invokestatic v =>
    obtain ⟨rfl, e, e1⟩ := z_a3 (o := 184) (k := v) h hs
    exact ⟨z_f_invokestatic e e1, rfl⟩
  case new v =>
    obtain ⟨rfl, e, e1⟩ := z_a3 (o := 187) (k := v) h hs
    exact ⟨z_f_new e e1, rfl⟩
  case anewarray v =>
    obtain ⟨rfl, e, e1⟩ := z_a3 (o := 189) (k := v) h hs
    exact ⟨z_f_anewarray e e1, rfl⟩
  case sipush v =>
    obtain ⟨rfl, e, e1⟩ := z_a3s (o := 17) (v := v) h hs
    exact ⟨z_f_sipush e e1, rfl⟩
  case goto v =>
    obtain ⟨rfl, e, e1⟩ := z_a3s (o := 167) (v := v) h hs
    exact ⟨z_f_goto e e1, rfl⟩
  case ifnull v =>
    obtain ⟨rfl, e, e1⟩ := z_a3s (o := 198) (v := v) h hs
    exact ⟨z_f_ifnull e e1, rfl⟩
  case ifnonnull v =>
    obtain ⟨rfl, e, e1⟩ := z_a3s (o := 199) (v := v) h hs
    exact ⟨z_f_ifnonnull e e1, rfl⟩
  case bipush v =>
    obtain ⟨rfl, e, e1⟩ := z_a2s (o := 16) (v := v) h hs
    exact ⟨z_f_bipush e e1, rfl⟩
  case iinc u v =>
    obtain ⟨rfl, e, e1, e2⟩ := z_a3i (o := 132) (k := u) (v := v) h hs
    exact ⟨z_f_iinc e e1 e2, rfl⟩
  case ifCond c v =>
    obtain ⟨rfl, e, e1⟩ := z_a3s (o := 153 + z_cco c) (v := v) h hs
    cases c
    · exact ⟨z_f_ifCond_eq e e1, rfl⟩
    · exact ⟨z_f_ifCond_ne e e1, rfl⟩
    · exact ⟨z_f_ifCond_lt e e1, rfl⟩
    · exact ⟨z_f_ifCond_ge e e1, rfl⟩
    · exact ⟨z_f_ifCond_gt e e1, rfl⟩
    · exact ⟨z_f_ifCond_le e e1, rfl⟩
  case if_icmp c v =>
    obtain ⟨rfl, e, e1⟩ := z_a3s (o := 159 + z_cco c) (v := v) h hs
    cases c
    · exact ⟨z_f_if_icmp_eq e e1, rfl⟩
    · exact ⟨z_f_if_icmp_ne e e1, rfl⟩
    · exact ⟨z_f_if_icmp_lt e e1, rfl⟩
    · exact ⟨z_f_if_icmp_ge e e1, rfl⟩
    · exact ⟨z_f_if_icmp_gt e e1, rfl⟩
    · exact ⟨z_f_if_icmp_le e e1, rfl⟩
  case newarray t =>
    cases t
    · exact absurd (show false = true from h) (by decide)
    · exact absurd (show false = true from h) (by decide)
    · exact absurd (show false = true from h) (by decide)
    · exact absurd (show false = true from h) (by decide)
    · exact absurd (show false = true from h) (by decide)
    · exact absurd (show false = true from h) (by decide)
    · obtain ⟨rfl, e, e1⟩ := z_a2 (o := 188) (k := 10) h hs
      exact ⟨z_f_new_int e e1, rfl⟩
    · obtain ⟨rfl, e, e1⟩ := z_a2 (o := 188) (k := 11) h hs
      exact ⟨z_f_new_long e e1, rfl⟩
  all_goals exact absurd (show false = true from h) (by decide)
end ZDEC
/-- the listing from a place on: each instruction at its place, by its bytes (a switch: decoded) -/
def z_slw (code : ByteArray) (e : Nat × Instr × Nat) : Bool := match decode code e.1 with
  | .ok q => decide (q = (e.2.1, e.2.2)) && decide (e.2.2 = z_len e.2.1 e.2.2)
  | .error _ => false
def z_sw (i : Instr) : Bool := match i with
  | .tableswitch _ _ _ _ => true
  | .lookupswitch _ _ => true
  | _ => false
def z_fw (code : ByteArray) : List (Nat × Instr × Nat) → List UInt8 → Nat → Bool
  | [], _, _ => true
  | e :: es, l, pc => Nat.beq e.1 pc && (cond (z_sw e.2.1) (z_slw code e) (z_chk e.2.1 e.2.2 l) && z_fw code es (l.drop e.2.2) (pc + e.2.2))
theorem z_fwS {code : ByteArray} : ∀ (es : List (Nat × Instr × Nat)) (l : List UInt8) (pc : Nat), z_fw code es l pc = true → z_suf code pc l → ∀ e ∈ es, decode code e.1 = .ok (e.2.1, e.2.2) ∧ e.2.2 = z_len e.2.1 e.2.2
  | [], _, _, _, _, e, he => by cases he
  | x :: es, l, pc, h, hs, e, he => by
    obtain ⟨h1, h2⟩ := Bool.and_eq_true_iff.mp (show (Nat.beq x.1 pc && (cond (z_sw x.2.1) (z_slw code x) (z_chk x.2.1 x.2.2 l) && z_fw code es (l.drop x.2.2) (pc + x.2.2))) = true from h)
    obtain ⟨h3, h4⟩ := Bool.and_eq_true_iff.mp h2
    have e1 := Nat.eq_of_beq_eq_true h1
    rcases List.mem_cons.mp he with e2 | e2
    · subst e2
      cases c : z_sw e.2.1 with
      | true =>
        rw [c] at h3
        have h5 : z_slw code e = true := h3
        unfold z_slw at h5
        split at h5
        · rename_i q hq
          obtain ⟨g1, g2⟩ := Bool.and_eq_true_iff.mp h5
          rw [hq, of_decide_eq_true g1]
          exact ⟨rfl, of_decide_eq_true g2⟩
        · cases h5
      | false =>
        rw [c] at h3
        have h5 : z_chk e.2.1 e.2.2 l = true := h3
        rw [e1]
        exact z_chkS e.2.1 h5 hs
    · refine z_fwS es _ _ h4 ?_ e e2
      unfold z_suf at hs ⊢
      rw [← hs, List.drop_drop]
/-- a method's code from a place on -/
def z_fwj (j pc : Nat) (es : List (Nat × Instr × Nat)) : Bool := z_fw (z_b j) es ((z_b j).data.toList.drop pc) pc
theorem z_fwE {j pc : Nat} {es : List (Nat × Instr × Nat)} (h : z_fwj j pc es = true) (n : Nat) {p len : Nat} {i : Instr} (hk : es[n]? = some (p, i, len)) : decode (z_b j) p = .ok (i, len) := (z_fwS es _ _ h rfl (p, i, len) (List.mem_of_getElem? hk)).1
