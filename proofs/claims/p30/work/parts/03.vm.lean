/-! the mini-VM: the methods' own bytes, run over a heap that is a list of cells; references are places in that list.
    Places 0 .. 3 are read-only (the script, three tables); what the law makes comes behind them, in order. -/
abbrev zA : Type := Nat × ((Nat → Int32) ⊕ (Nat → Int64) ⊕ (Nat → Option Nat))
abbrev zE : Type := (Nat × zA) ⊕ (Nat × List Value)
abbrev zH : Type := List zE
abbrev zL : Type := List (Option Value)
abbrev zS : Type := List Value
def z_name (j : Nat) : MethodName := (z_m j).1
def z_b (j : Nat) : ByteArray := (z_m j).2.1
def z_ml (j : Nat) : Nat := (z_m j).2.2.1
def z_rt (j : Nat) : Option FieldType := (z_m j).2.2.2.1
def z_oc (j : Nat) : Nat := (z_m j).2.2.2.2
/-- a value has a type's form -/
def z_fit : FieldType → Value → Bool
  | .int, .int _ => true
  | .long, .long _ => true
  | .boolean, .int v => v == 0 || v == 1
  | .object _, .ref _ => true
  | .object _, .null => true
  | .array _, .ref _ => true
  | .array _, .null => true
  | _, _ => false
def z_cat (o : Option Value) : Bool := match o with
  | some (.long _) => true
  | some (.double _) => true
  | _ => false
def z_p1 (L : zL) (i : Nat) (v : Value) : zL := match i with
  | 0 => L.set 0 (some v)
  | k + 1 => if z_cat ((L[k]?).join) = true then (L.set (k + 1) (some v)).set k none else L.set (k + 1) (some v)
def z_p2 (L : zL) (i : Nat) (v : Value) : zL := (z_p1 L i v).set (i + 1) none
def z_ent (vs : List Value) (n : Nat) : zL := (vs.flatMap fun v => if v.category = 2 then [some v, none] else [some v]) ++ List.replicate (n - (vs.flatMap fun v => if v.category = 2 then [some v, none] else [some v]).length) none
def z_get (L : zL) (i : Nat) : Option Value := (L[i]?).join
def z_br {α : Type} (c : ClassFile.Cond) (x y : Int32) (a b : α) : α := match c with
  | .eq => if x = y then a else b
  | .ne => if x = y then b else a
  | .lt => if x < y then a else b
  | .ge => if x < y then b else a
  | .gt => if y < x then a else b
  | .le => if y < x then b else a
def z_tg (pc : Nat) (off : Int) : Option Nat := match (pc : Int) + off with
  | .ofNat t => some t
  | .negSucc _ => none
def z_out (i : Int32) (n : Nat) : Prop := i < 0 ∨ n ≤ i.toNatClampNeg
def z_updL (f : Nat → Int64) (k : Nat) (x : Int64) : Nat → Int64 := fun j => if j = k then x else f j
def z_updR (f : Nat → Option Nat) (k : Nat) (x : Option Nat) : Nat → Option Nat := fun j => if j = k then x else f j
def z_find {α : Type} (l : List ((Nat × Nat) × α)) (c i : Nat) : Option α := (l.find? fun e => e.1.1 == c && e.1.2 == i).map (·.2)
def z_dv : FieldType → Value
  | .int => .int 0
  | .boolean => .int 0
  | .long => .long 0
  | _ => .null
def z_nf (ci : Nat) : Nat := ((z_cl[ci]?).map (·.2.2)).getD 0
def z_blank (ci : Nat) : List Value := (List.range (z_nf ci)).map fun k => z_dv (z_fty ci k)
def z_len (i : Instr) (len : Nat) : Nat := match i with
  | .bipush _ | .iload _ | .lload _ | .aload _ | .istore _ | .lstore _ | .astore _ | .ldc _ | .newarray _ => 2
  | .sipush _ | .iinc _ _ | .ifCond _ _ | .if_icmp _ _ | .ifnull _ | .ifnonnull _ | .goto _ | .ldc_w _ | .ldc2_w _ | .getfield _ | .putfield _ | .getstatic _ | .new _ | .anewarray _ | .invokestatic _ | .invokevirtual _ | .invokespecial _ => 3
  | .tableswitch _ _ _ _ | .lookupswitch _ _ => len
  | _ => 1
/-- numbers, locals, stack, branches -/
def z_s1 (i : Instr) (pc : Nat) (L : zL) (S : zS) : Option (Nat × zL × zS) := match i with
  | .aconst_null => some (pc + 1, L, .null :: S)
  | .iconst n => some (pc + 1, L, .int (Int32.ofInt n) :: S)
  | .bipush n => some (pc + 2, L, .int (Int8.ofInt n).toInt32 :: S)
  | .sipush n => some (pc + 3, L, .int (Int16.ofInt n).toInt32 :: S)
  | .lconst n => some (pc + 1, L, .long (Int64.ofNat n) :: S)
  | .iload_n k => match z_get L k with | some (.int x) => some (pc + 1, L, .int x :: S) | _ => none
  | .iload k => match z_get L k with | some (.int x) => some (pc + 2, L, .int x :: S) | _ => none
  | .lload_n k => match z_get L k with | some (.long x) => some (pc + 1, L, .long x :: S) | _ => none
  | .lload k => match z_get L k with | some (.long x) => some (pc + 2, L, .long x :: S) | _ => none
  | .aload_n k => match z_get L k with | some (.ref x) => some (pc + 1, L, .ref x :: S) | some .null => some (pc + 1, L, .null :: S) | _ => none
  | .aload k => match z_get L k with | some (.ref x) => some (pc + 2, L, .ref x :: S) | some .null => some (pc + 2, L, .null :: S) | _ => none
  | .istore_n k => match S with | .int x :: r => if (k : Nat) < L.length then some (pc + 1, z_p1 L k (.int x), r) else none | _ => none
  | .istore k => match S with | .int x :: r => if k < L.length then some (pc + 2, z_p1 L k (.int x), r) else none | _ => none
  | .lstore_n k => match S with | .long x :: r => if (k : Nat) + 1 < L.length then some (pc + 1, z_p2 L k (.long x), r) else none | _ => none
  | .lstore k => match S with | .long x :: r => if k + 1 < L.length then some (pc + 2, z_p2 L k (.long x), r) else none | _ => none
  | .astore_n k => match S with | .ref x :: r => if (k : Nat) < L.length then some (pc + 1, z_p1 L k (.ref x), r) else none | .null :: r => if (k : Nat) < L.length then some (pc + 1, z_p1 L k .null, r) else none | _ => none
  | .astore k => match S with | .ref x :: r => if k < L.length then some (pc + 2, z_p1 L k (.ref x), r) else none | .null :: r => if k < L.length then some (pc + 2, z_p1 L k .null, r) else none | _ => none
  | .iinc k n => match z_get L k with | some (.int x) => some (pc + 3, z_p1 L k (.int (x + Int32.ofInt n)), S) | _ => none
  | .iadd => match S with | .int y :: .int x :: r => some (pc + 1, L, .int (x + y) :: r) | _ => none
  | .isub => match S with | .int y :: .int x :: r => some (pc + 1, L, .int (x - y) :: r) | _ => none
  | .imul => match S with | .int y :: .int x :: r => some (pc + 1, L, .int (x * y) :: r) | _ => none
  | .iand => match S with | .int y :: .int x :: r => some (pc + 1, L, .int (x &&& y) :: r) | _ => none
  | .ior => match S with | .int y :: .int x :: r => some (pc + 1, L, .int (x ||| y) :: r) | _ => none
  | .ixor => match S with | .int y :: .int x :: r => some (pc + 1, L, .int (x ^^^ y) :: r) | _ => none
  | .idiv => match S with | .int y :: .int x :: r => if y = 0 then none else some (pc + 1, L, .int (x / y) :: r) | _ => none
  | .irem => match S with | .int y :: .int x :: r => if y = 0 then none else some (pc + 1, L, .int (x - x / y * y) :: r) | _ => none
  | .ineg => match S with | .int x :: r => some (pc + 1, L, .int (-x) :: r) | _ => none
  | .ladd => match S with | .long y :: .long x :: r => some (pc + 1, L, .long (x + y) :: r) | _ => none
  | .lsub => match S with | .long y :: .long x :: r => some (pc + 1, L, .long (x - y) :: r) | _ => none
  | .land => match S with | .long y :: .long x :: r => some (pc + 1, L, .long (x &&& y) :: r) | _ => none
  | .lor => match S with | .long y :: .long x :: r => some (pc + 1, L, .long (x ||| y) :: r) | _ => none
  | .lxor => match S with | .long y :: .long x :: r => some (pc + 1, L, .long (x ^^^ y) :: r) | _ => none
  | .ishl => match S with | .int y :: .int x :: r => some (pc + 1, L, .int (x <<< (y &&& 31)) :: r) | _ => none
  | .ishr => match S with | .int y :: .int x :: r => some (pc + 1, L, .int (x >>> (y &&& 31)) :: r) | _ => none
  | .iushr => match S with | .int y :: .int x :: r => some (pc + 1, L, .int ((x.toUInt32 >>> (y.toUInt32 &&& Int32.toUInt32 31)).toInt32) :: r) | _ => none
  | .lushr => match S with | .int y :: .long x :: r => some (pc + 1, L, .long ((x.toUInt64 >>> (y.toInt64.toUInt64 &&& Int64.toUInt64 63)).toInt64) :: r) | _ => none
  | .lshl => match S with | .int y :: .long x :: r => some (pc + 1, L, .long (x <<< (y.toInt64 &&& 63)) :: r) | _ => none
  | .lcmp => match S with | .long y :: .long x :: r => some (pc + 1, L, .int (lg_cmp x y) :: r) | _ => none
  | .i2l => match S with | .int x :: r => some (pc + 1, L, .long x.toInt64 :: r) | _ => none
  | .l2i => match S with | .long x :: r => some (pc + 1, L, .int x.toInt32 :: r) | _ => none
  | .i2b => match S with | .int x :: r => some (pc + 1, L, .int x.toInt8.toInt32 :: r) | _ => none
  | .i2s => match S with | .int x :: r => some (pc + 1, L, .int x.toInt16.toInt32 :: r) | _ => none
  | .dup => match S with | v :: r => if v.category = 1 then some (pc + 1, L, v :: v :: r) else none | _ => none
  | .pop => match S with | v :: r => if v.category = 1 then some (pc + 1, L, r) else none | _ => none
  | .dup_x1 => match S with | v :: w :: r => if v.category = 1 ∧ w.category = 1 then some (pc + 1, L, v :: w :: v :: r) else none | _ => none
  | .dup_x2 => match S with | v :: w :: u :: r => if v.category = 1 ∧ w.category = 1 ∧ u.category = 1 then some (pc + 1, L, v :: w :: u :: v :: r) else none | _ => none
  | .dup2 => match S with | v :: w :: r => if v.category = 1 ∧ w.category = 1 then some (pc + 1, L, v :: w :: v :: w :: r) else if v.category = 2 then some (pc + 1, L, v :: v :: w :: r) else none | _ => none
  | .pop2 => match S with | v :: r => if v.category = 2 then some (pc + 1, L, r) else none | _ => none
  | .ifCond c off => match S, z_tg pc off with | .int x :: r, some t => some (z_br c x 0 t (pc + 3), L, r) | _, _ => none
  | .if_icmp c off => match S, z_tg pc off with | .int y :: .int x :: r, some t => some (z_br c x y t (pc + 3), L, r) | _, _ => none
  | .ifnull off => match S, z_tg pc off with | .null :: r, some t => some (t, L, r) | .ref _ :: r, some _ => some (pc + 3, L, r) | _, _ => none
  | .ifnonnull off => match S, z_tg pc off with | .null :: r, some _ => some (pc + 3, L, r) | .ref _ :: r, some t => some (t, L, r) | _, _ => none
  | .goto off => match z_tg pc off with | some t => some (t, L, S) | _ => none
  | .tableswitch d lo hi offs => match S with
    | .int x :: r => if x.toInt < lo ∨ hi < x.toInt then (match z_tg pc d with | some t => some (t, L, r) | _ => none)
      else (match offs[(x.toInt - lo).toNat]? with | some off => (match z_tg pc off with | some t => some (t, L, r) | _ => none) | _ => none)
    | _ => none
  | .lookupswitch d ps => match S with
    | .int x :: r => if (ps.toList.zip (ps.toList.drop 1)).all (fun (a, next) => a.1 < next.1) = true then (match z_tg pc (Op.lookupswitch.offset ps.toList d x.toInt) with | some t => some (t, L, r) | _ => none) else none
    | _ => none
  | _ => none
/-- the heap -/
def z_s2 (c : Nat) (init : Bool) (i : Instr) (pc : Nat) (S : zS) (M : zH) : Option (Nat × zS × zH) := match i with
  | .ldc k => (z_find z_ld c k).map fun q => (pc + 2, .int q.1 :: S, M)
  | .ldc_w k => (z_find z_ld c k).map fun q => (pc + 3, .int q.1 :: S, M)
  | .ldc2_w k => (z_find z_l2 c k).map fun q => (pc + 3, .long q.1 :: S, M)
  | .getstatic k => (z_find z_gs c k).map fun q => (pc + 3, .ref q.1 :: S, M)
  | .getfield k => match S with
    | .ref a :: r => match M[a]?, z_find z_fl c k with
      | some (.inr (ci, fs)), some q => if ci ∈ q.1.2 ∧ 4 ≤ a then (fs[q.1.1]?).map fun v => (pc + 3, v :: r, M) else none
      | _, _ => none
    | _ => none
  | .putfield k => match S with
    | v :: .ref a :: r => match M[a]?, z_find z_fl c k with
      | some (.inr (ci, fs)), some q => if ci ∈ q.1.2 ∧ 4 ≤ a ∧ z_fit (z_fty ci q.1.1) v = true ∧ q.1.1 < fs.length ∧ (((z_cl[ci]?).map fun w => (w.2.1 q.1.1).2.2.2) = some false ∨ (init = true ∧ q.2.1.2.1 = z_cn c)) then some (pc + 3, r, M.set a (.inr (ci, fs.set q.1.1 v))) else none
      | _, _ => none
    | _ => none
  | .new k => (z_find z_nw c k).map fun q => (pc + 3, .ref M.length :: S, M ++ [.inr (q.1, z_blank q.1)])
  | .newarray t => match S with
    | .int n :: r => if n < 0 ∨ 1000000 < n.toNatClampNeg then none else match t with
      | .int => some (pc + 2, .ref M.length :: r, M ++ [.inl (0, n.toNatClampNeg, .inl fun _ => 0)])
      | .long => some (pc + 2, .ref M.length :: r, M ++ [.inl (1, n.toNatClampNeg, .inr (.inl fun _ => 0))])
      | _ => none
    | _ => none
  | .anewarray k => match S with
    | .int n :: r => if n < 0 ∨ 1000000 < n.toNatClampNeg then none else (z_find z_an c k).map fun q => (pc + 3, .ref M.length :: r, M ++ [.inl (q.1, n.toNatClampNeg, .inr (.inr fun _ => none))])
    | _ => none
  | .arraylength => match S with
    | .ref a :: r => match M[a]? with | some (.inl (_, n, _)) => some (pc + 1, .int (Int32.ofNat n) :: r, M) | _ => none
    | _ => none
  | .iaload => match S with
    | .int i :: .ref a :: r => match M[a]? with | some (.inl (0, n, .inl f)) => if i < 0 ∨ n ≤ i.toNatClampNeg then none else some (pc + 1, .int (f i.toNatClampNeg) :: r, M) | _ => none
    | _ => none
  | .laload => match S with
    | .int i :: .ref a :: r => match M[a]? with | some (.inl (1, n, .inr (.inl f))) => if i < 0 ∨ n ≤ i.toNatClampNeg then none else some (pc + 1, .long (f i.toNatClampNeg) :: r, M) | _ => none
    | _ => none
  | .aaload => match S with
    | .int i :: .ref a :: r => match M[a]? with | some (.inl (t, n, .inr (.inr f))) => if i < 0 ∨ n ≤ i.toNatClampNeg ∨ a < 4 ∨ t < 2 then none else some (pc + 1, va_rf (f i.toNatClampNeg) :: r, M) | _ => none
    | _ => none
  | .iastore => match S with
    | .int x :: .int i :: .ref a :: r => match M[a]? with | some (.inl (0, n, .inl f)) => if i < 0 ∨ n ≤ i.toNatClampNeg ∨ a < 4 then none else some (pc + 1, r, M.set a (.inl (0, n, .inl (upd f i.toNatClampNeg x)))) | _ => none
    | _ => none
  | .lastore => match S with
    | .long x :: .int i :: .ref a :: r => match M[a]? with | some (.inl (1, n, .inr (.inl f))) => if i < 0 ∨ n ≤ i.toNatClampNeg ∨ a < 4 then none else some (pc + 1, r, M.set a (.inl (1, n, .inr (.inl (z_updL f i.toNatClampNeg x))))) | _ => none
    | _ => none
  | .aastore => match S with
    | .null :: .int i :: .ref a :: r => match M[a]? with | some (.inl (t, n, .inr (.inr f))) => if i < 0 ∨ n ≤ i.toNatClampNeg ∨ a < 4 ∨ t < 2 then none else some (pc + 1, r, M.set a (.inl (t, n, .inr (.inr (z_updR f i.toNatClampNeg none))))) | _ => none
    | .ref v :: .int i :: .ref a :: r => match M[a]?, M[v]? with
      | some (.inl (t, n, .inr (.inr f))), some (.inr (ci, _)) => if i < 0 ∨ n ≤ i.toNatClampNeg ∨ a < 4 ∨ v < 4 ∨ ¬ ((t = 2 ∧ ci = 3) ∨ (t = 3 ∧ 4 ≤ ci ∧ ci ≤ 11)) then none else some (pc + 1, r, M.set a (.inl (t, n, .inr (.inr (z_updR f i.toNatClampNeg (some v))))))
      | _, _ => none
    | _ => none
  | _ => none
/-- System.arraycopy of longs -/
def z_cpy (f g : Nat → Int64) (sp dp n : Nat) : Nat → Int64 := fun k => if dp ≤ k ∧ k < dp + n then f (sp + (k - dp)) else g k
def z_copy (S : zS) (M : zH) : Option (zS × zH) := match S with
  | .int n :: .int dp :: .ref a :: .int sp :: .ref b :: r => match M[a]?, M[b]? with
    | some (.inl (1, na, .inr (.inl g))), some (.inl (1, nb, .inr (.inl f))) =>
      if sp < 0 ∨ dp < 0 ∨ n < 0 ∨ a < 4 ∨ b < 4 ∨ nb < sp.toNatClampNeg + n.toNatClampNeg ∨ na < dp.toNatClampNeg + n.toNatClampNeg then none
      else some (r, M.set a (.inl (1, na, .inr (.inl (z_cpy f g sp.toNatClampNeg dp.toNatClampNeg n.toNatClampNeg)))))
    | _, _ => none
  | _ => none
def z_ws (S : zS) : Nat := (S.map fun v => v.category).sum
/-- a call site: its kind, the callee, the callee's arguments (the receiver first), the rest of the stack -/
def z_call (c : Nat) (i : Instr) (S : zS) (M : zH) : Option (Nat × Nat × List Value × zS) := match i with
  | .invokestatic k => match z_find z_cS c k with
    | some ((kd, n, tg), _) => match tg with
      | [(_, j)] => if n ≤ S.length then some (kd, j, (S.take n).reverse, S.drop n) else none
      | _ => none
    | _ => none
  | .invokevirtual k => match z_find z_cV c k with
    | some ((kd, n, tg), _) => match S[n]? with
      | some (.ref b) => match M[b]? with
        | some (.inr (ci, _)) => if 4 ≤ b then (tg.find? fun t => t.1 == ci).map fun t => (kd, t.2, .ref b :: (S.take n).reverse, S.drop (n + 1)) else none
        | _ => none
      | _ => none
    | _ => none
  | .invokespecial k => match z_find z_cI c k with
    | some ((kd, n, tg), _) => match S[n]?, tg with
      | some (.ref b), [(_, j)] => match M[b]? with
        | some (.inr (_, _)) => if 4 ≤ b then some (kd, j, .ref b :: (S.take n).reverse, S.drop (n + 1)) else none
        | _ => none
      | _, _ => none
    | _ => none
  | _ => none
/-- what isn't a call of a method of ours: Object's start, Math.max and min of ints -/
def z_s3 (c : Nat) (i : Instr) (pc : Nat) (S : zS) (M : zH) : Option (Nat × zS × zH) := match i with
  | .invokespecial k => match z_find z_cI c k, S with
    | some ((7, _, _), _), .ref _ :: r => if z_ws r ≤ 8 then some (pc + 3, r, M) else none
    | _, _ => none
  | .invokestatic k => match z_find z_cS c k with
    | some ((10, _, _), _) => match S with
      | .int y :: .int x :: r => if z_ws r ≤ 8 then some (pc + 3, .int (if x < y then y else x) :: r, M) else none
      | _ => none
    | some ((11, _, _), _) => match S with
      | .int y :: .int x :: r => if z_ws r ≤ 8 then some (pc + 3, .int (if y < x then y else x) :: r, M) else none
      | _ => none
    | _ => none
  | _ => none
/-- System.arraycopy -/
def z_s4 (c : Nat) (i : Instr) (pc : Nat) (S : zS) (M : zH) : Option (Nat × zS × zH) := match i with
  | .invokestatic k => match z_find z_cS c k with
    | some ((8, _, _), _) => match z_copy S M with
      | some (r, M1) => if z_ws r ≤ 8 then some (pc + 3, r, M1) else none
      | none => none
    | _ => none
  | _ => none
/-- one step that stays in the method -/
def z_st (j : Nat) (i : Instr) (pc : Nat) (L : zL) (S : zS) (M : zH) : Option (Nat × zL × zS × zH) :=
  match z_s1 i pc L S with
  | some (pc1, L1, S1) => some (pc1, L1, S1, M)
  | none => match z_s2 (z_oc j) ((z_name j).name == "<init>") i pc S M with
    | some (pc1, S1, M1) => some (pc1, L, S1, M1)
    | none => match z_s3 (z_oc j) i pc S M with
      | some (pc1, S1, M1) => some (pc1, L, S1, M1)
      | none => match z_s4 (z_oc j) i pc S M with
        | some (pc1, S1, M1) => some (pc1, L, S1, M1)
        | none => none
/-- the end of a method: its answer -/
def z_end (j : Nat) (i : Instr) (S : zS) : Option (Option Value) := match i, z_rt j, S with
  | .return_, none, [] => some none
  | .ireturn, some .int, [.int v] => some (some (.int v))
  | .ireturn, some .boolean, [.int v] => if v = 0 ∨ v = 1 then some (some (.int v)) else none
  | .lreturn, some .long, [.long v] => some (some (.long v))
  | .areturn, some (.object _), [.ref a] => some (some (.ref a))
  | .areturn, some (.object _), [.null] => some (some .null)
  | _, _, _ => none
/-- a run: fuel n, depth d -/
def z_run : Nat → Nat → Nat → Nat → zL → zS → zH → Option (Option Value × zH)
  | 0, _, _, _, _, _, _ => none
  | n + 1, d, j, pc, L, S, M => match decode (z_b j) pc with
    | .error _ => none
    | .ok (i, len) => if len = z_len i len then
        match z_end j i S with
        | some r => some (r, M)
        | none => match z_st j i pc L S M with
          | some (pc1, L1, S1, M1) => z_run n d j pc1 L1 S1 M1
          | none => match d, z_call (z_oc j) i S M with
            | d1 + 1, some (kd, k, vs, r) => if z_ws r ≤ 8 ∧ kd ≠ 8 ∧ (z_ent vs 0).length ≤ z_ml k then
                match z_run n d1 k 0 (z_ent vs (z_ml k)) [] M with
                | some (v, M1) => z_run n d j (pc + 3) L (v.toList ++ r) M1
                | none => none
              else none
            | _, _ => none
      else none
