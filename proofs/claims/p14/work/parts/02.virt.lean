/-! A machine of its own for the methods: cells by their numbers, the script is number 0, none is a cell of which nothing is said. -/
abbrev vm_H : Type := List (Option va_E)
abbrev vm_L : Type := List (Nat × Value)
abbrev vm_F : Type := Nat × vm_L × List Value
def vm_ra (bs b : Nat) (n : Nat) : Nat := match n with
  | 0 => bs
  | k + 1 => b + k
def vm_rv (bs b : Nat) (v : Value) : Value := match v with
  | .ref n => .ref (vm_ra bs b n)
  | w => w
def vm_re (ct : Nat → ClassId) (bs b : Nat) (e : va_E) : va_E := match e with
  | .inl (t, n, .inl f) => .inl (ct t, n, .inl f)
  | .inl (t, n, .inr (.inl f)) => .inl (ct t, n, .inr (.inl f))
  | .inl (t, n, .inr (.inr (.inr (.inr f)))) => .inl (ct t, n, .inr (.inr (.inr (.inr (fun j => (f j).map (vm_ra bs b))))))
  | .inl (t, n, x) => .inl (ct t, n, x)
  | .inr (ci, fs) => .inr (ci, fs.map (vm_rv bs b))
def vm_at (vh : vm_H) (n : Nat) : Option va_E := match vh[n]? with
  | some (some c) => some c
  | _ => none
def vm_s1 (ls : vm_L) (i : Nat) (v : Value) : vm_L := (i, v) :: ls.filter (fun q => !(q.1 == i) && !(q.1 + 1 == i && q.2.category == 2))
def vm_s2 (ls : vm_L) (i : Nat) (v : Value) : vm_L := (i, v) :: ls.filter (fun q => !(q.1 == i) && (!(q.1 == i + 1) && !(q.1 + 1 == i && q.2.category == 2)))
abbrev vm_O : Type := Option (vm_F × vm_H × Nat × Nat)
def vm_nx (pc : Nat) (ls : vm_L) (st : List Value) (vh : vm_H) : vm_O := some ((pc, ls, st), vh, 0, 0)
def vm_loadI (ls : vm_L) (i pc : Nat) (st : List Value) (vh : vm_H) : vm_O := match ls.lookup i with
  | some (.int v) => vm_nx pc ls (.int v :: st) vh
  | _ => none
def vm_loadL (ls : vm_L) (i pc : Nat) (st : List Value) (vh : vm_H) : vm_O := match ls.lookup i with
  | some (.long v) => vm_nx pc ls (.long v :: st) vh
  | _ => none
def vm_loadA (ls : vm_L) (i pc : Nat) (st : List Value) (vh : vm_H) : vm_O := match ls.lookup i with
  | some (.ref v) => vm_nx pc ls (.ref v :: st) vh
  | some .null => vm_nx pc ls (.null :: st) vh
  | _ => none
def vm_storeI (mx : Nat) (ls : vm_L) (i pc : Nat) (st : List Value) (vh : vm_H) : vm_O := match st with
  | .int v :: r => if i < mx then vm_nx pc (vm_s1 ls i (.int v)) r vh else none
  | _ => none
def vm_storeL (mx : Nat) (ls : vm_L) (i pc : Nat) (st : List Value) (vh : vm_H) : vm_O := match st with
  | .long v :: r => if i + 1 < mx then vm_nx pc (vm_s2 ls i (.long v)) r vh else none
  | _ => none
def vm_storeA (mx : Nat) (ls : vm_L) (i pc : Nat) (st : List Value) (vh : vm_H) : vm_O := match st with
  | .ref v :: r => if i < mx then vm_nx pc (vm_s1 ls i (.ref v)) r vh else none
  | .null :: r => if i < mx then vm_nx pc (vm_s1 ls i .null) r vh else none
  | _ => none
def vm_ii (f : Int32 → Int32 → Int32) (pc : Nat) (ls : vm_L) (st : List Value) (vh : vm_H) : vm_O := match st with
  | .int y :: .int x :: r => vm_nx pc ls (.int (f x y) :: r) vh
  | _ => none
def vm_ll (f : Int64 → Int64 → Int64) (pc : Nat) (ls : vm_L) (st : List Value) (vh : vm_H) : vm_O := match st with
  | .long y :: .long x :: r => vm_nx pc ls (.long (f x y) :: r) vh
  | _ => none
def vm_li (f : Int64 → Int32 → Int64) (pc : Nat) (ls : vm_L) (st : List Value) (vh : vm_H) : vm_O := match st with
  | .int y :: .long x :: r => vm_nx pc ls (.long (f x y) :: r) vh
  | _ => none
def vm_cond (cd : Jvm.ClassFile.Cond) (x y : Int32) : Bool := match cd with
  | .eq => decide (x = y)
  | .ne => decide (¬ x = y)
  | .lt => decide (x < y)
  | .ge => decide (y ≤ x)
  | .gt => decide (y < x)
  | .le => decide (x ≤ y)
def vm_br (t : Bool) (tgt pc : Nat) (ls : vm_L) (st : List Value) (vh : vm_H) : vm_O := match t with
  | true => vm_nx tgt ls st vh
  | false => vm_nx pc ls st vh
/-- may this value stand in a field of this type -/
def vm_okv (ty : FieldType) (v : Value) : Bool := match ty, v with
  | .boolean, .int v => decide (v = 0) || decide (v = 1)
  | .int, .int _ => true
  | .long, .long _ => true
  | .object _, .null => true
  | .object _, .ref _ => true
  | .array _, .null => true
  | .array _, .ref _ => true
  | _, _ => false
def vm_get (x y pc : Nat) (ls : vm_L) (st : List Value) (vh : vm_H) : vm_O := match st with
  | .ref n :: r => match vm_at vh n with
    | some (.inr (ci, fs)) => if ci = x then (match fs[y]? with
      | some v => vm_nx pc ls (v :: r) vh
      | none => none) else none
    | _ => none
  | _ => none
def vm_put (x y pc : Nat) (ls : vm_L) (st : List Value) (vh : vm_H) : vm_O := match st with
  | v :: .ref n :: r => match vm_at vh n with
    | some (.inr (ci, fs)) => if ci = x ∧ y < fs.length ∧ vm_okv (vm_tyF x y) v = true then vm_nx pc ls r (vh.set n (some (.inr (ci, fs.set y v)))) else none
    | _ => none
  | _ => none
def vm_out (i : Int32) (n : Nat) : Bool := decide (i < 0) || decide (n ≤ i.toNatClampNeg)
def vm_ald (pc : Nat) (ls : vm_L) (st : List Value) (vh : vm_H) : vm_O := match st with
  | .int i :: .ref n :: r => match vm_at vh n with
    | some (.inl (0, w, .inl f)) => if vm_out i w then none else vm_nx pc ls (.int (f i.toNatClampNeg) :: r) vh
    | _ => none
  | _ => none
def vm_zld (pc : Nat) (ls : vm_L) (st : List Value) (vh : vm_H) : vm_O := match st with
  | .int i :: .ref n :: r => match vm_at vh n with
    | some (.inl (2, w, .inl f)) => if vm_out i w then none else vm_nx pc ls (.int (f i.toNatClampNeg) :: r) vh
    | _ => none
  | _ => none
def vm_lld (pc : Nat) (ls : vm_L) (st : List Value) (vh : vm_H) : vm_O := match st with
  | .int i :: .ref n :: r => match vm_at vh n with
    | some (.inl (1, w, .inr (.inl f))) => if vm_out i w then none else vm_nx pc ls (.long (f i.toNatClampNeg) :: r) vh
    | _ => none
  | _ => none
def vm_qld (pc : Nat) (ls : vm_L) (st : List Value) (vh : vm_H) : vm_O := match st with
  | .int i :: .ref n :: r => match vm_at vh n with
    | some (.inl (t, w, .inr (.inr (.inr (.inr f))))) => if vm_out i w || decide (t < 3) || decide (5 ≤ t) then none else vm_nx pc ls (va_rf (f i.toNatClampNeg) :: r) vh
    | _ => none
  | _ => none
def vm_ast (pc : Nat) (ls : vm_L) (st : List Value) (vh : vm_H) : vm_O := match st with
  | .int v :: .int i :: .ref n :: r => match vm_at vh n with
    | some (.inl (0, w, .inl f)) => if vm_out i w || decide (n = 0) then none else vm_nx pc ls r (vh.set n (some (.inl (0, w, .inl (upd f i.toNatClampNeg v)))))
    | _ => none
  | _ => none
def vm_zst (pc : Nat) (ls : vm_L) (st : List Value) (vh : vm_H) : vm_O := match st with
  | .int v :: .int i :: .ref n :: r => match vm_at vh n with
    | some (.inl (2, w, .inl f)) => if vm_out i w then none else vm_nx pc ls r (vh.set n (some (.inl (2, w, .inl (upd f i.toNatClampNeg (v &&& 1))))))
    | _ => none
  | _ => none
def vm_lst (pc : Nat) (ls : vm_L) (st : List Value) (vh : vm_H) : vm_O := match st with
  | .long v :: .int i :: .ref n :: r => match vm_at vh n with
    | some (.inl (1, w, .inr (.inl f))) => if vm_out i w then none else vm_nx pc ls r (vh.set n (some (.inl (1, w, .inr (.inl (vp_updL f i.toNatClampNeg v))))))
    | _ => none
  | _ => none
def vm_qst (pc : Nat) (ls : vm_L) (st : List Value) (vh : vm_H) : vm_O := match st with
  | .ref a :: .int i :: .ref n :: r => match vm_at vh n, vm_at vh a with
    | some (.inl (t, w, .inr (.inr (.inr (.inr f))))), some (.inr (ci, _)) => if vm_out i w || !vm_aok t ci then none else vm_nx pc ls r (vh.set n (some (.inl (t, w, .inr (.inr (.inr (.inr (va_up f i.toNatClampNeg (some a)))))))))
    | _, _ => none
  | _ => none
def vm_len (pc : Nat) (ls : vm_L) (st : List Value) (vh : vm_H) : vm_O := match st with
  | .ref n :: r => match vm_at vh n with
    | some (.inl (t, w, _)) => if t < 5 then vm_nx pc ls (.int (Int32.ofNat w) :: r) vh else none
    | _ => none
  | _ => none
def vm_new (x pc : Nat) (ls : vm_L) (st : List Value) (vh : vm_H) : vm_O := match vm_cls[x]? with
  | some q => some ((pc, ls, .ref vh.length :: st), vh ++ [some (.inr (x, (List.range q.2.2).map (fun j => defaultValue (vm_tyF x j))))], 1, q.2.2)
  | none => none
def vm_newa (ty : Jvm.ClassFile.ArrayType) (pc : Nat) (ls : vm_L) (st : List Value) (vh : vm_H) : vm_O := match st with
  | .int n :: r => if n < 0 ∨ 65536 < n.toNatClampNeg then none else (match ty with
    | .int => some ((pc, ls, .ref vh.length :: r), vh ++ [some (.inl (0, n.toNatClampNeg, .inl (fun _ => 0)))], 1, n.toNatClampNeg)
    | .long => some ((pc, ls, .ref vh.length :: r), vh ++ [some (.inl (1, n.toNatClampNeg, .inr (.inl (fun _ => 0))))], 1, n.toNatClampNeg)
    | .boolean => some ((pc, ls, .ref vh.length :: r), vh ++ [some (.inl (2, n.toNatClampNeg, .inl (fun _ => 0)))], 1, n.toNatClampNeg)
    | _ => none)
  | _ => none
def vm_newq (x pc : Nat) (ls : vm_L) (st : List Value) (vh : vm_H) : vm_O := match st with
  | .int n :: r => if n < 0 ∨ 65536 < n.toNatClampNeg then none else some ((pc, ls, .ref vh.length :: r), vh ++ [some (.inl (x, n.toNatClampNeg, .inr (.inr (.inr (.inr (fun _ => none))))))], 1, n.toNatClampNeg)
  | _ => none
def vm_isn (v : Value) : Option Bool := match v with
  | .null => some true
  | .ref _ => some false
  | _ => none
def vm_rfo (v : Value) : Option (Option Nat) := match v with
  | .null => some none
  | .ref n => some (some n)
  | _ => none
/-- one instruction that calls nothing; x, y, z are what the table says of it -/
def vm_x (mx : Nat) (i : Jvm.ClassFile.Instr) (x y pc : Nat) (ls : vm_L) (st : List Value) (vh : vm_H) : vm_O := match i with
  | .iconst n => vm_nx (pc + 1) ls (.int (Int32.ofInt n) :: st) vh
  | .bipush n => vm_nx (pc + 2) ls (.int (Int8.ofInt n).toInt32 :: st) vh
  | .sipush n => vm_nx (pc + 3) ls (.int (Int16.ofInt n).toInt32 :: st) vh
  | .lconst n => vm_nx (pc + 1) ls (.long (Int64.ofNat (n : Nat)) :: st) vh
  | .aconst_null => vm_nx (pc + 1) ls (.null :: st) vh
  | .ldc2_w _ => vm_nx (pc + 3) ls (.long (Int64.ofNat x) :: st) vh
  | .iload j => vm_loadI ls j (pc + 2) st vh
  | .iload_n j => vm_loadI ls j (pc + 1) st vh
  | .lload j => vm_loadL ls j (pc + 2) st vh
  | .lload_n j => vm_loadL ls j (pc + 1) st vh
  | .aload j => vm_loadA ls j (pc + 2) st vh
  | .aload_n j => vm_loadA ls j (pc + 1) st vh
  | .istore j => vm_storeI mx ls j (pc + 2) st vh
  | .istore_n j => vm_storeI mx ls j (pc + 1) st vh
  | .lstore j => vm_storeL mx ls j (pc + 2) st vh
  | .lstore_n j => vm_storeL mx ls j (pc + 1) st vh
  | .astore j => vm_storeA mx ls j (pc + 2) st vh
  | .astore_n j => vm_storeA mx ls j (pc + 1) st vh
  | .iinc j n => (match ls.lookup j with
    | some (.int v) => if j < mx then vm_nx (pc + 3) (vm_s1 ls j (.int (v + Int32.ofInt n))) st vh else none
    | _ => none)
  | .iadd => vm_ii (fun a b => a + b) (pc + 1) ls st vh
  | .isub => vm_ii (fun a b => a - b) (pc + 1) ls st vh
  | .imul => vm_ii (fun a b => a * b) (pc + 1) ls st vh
  | .iand => vm_ii (fun a b => a &&& b) (pc + 1) ls st vh
  | .ior => vm_ii (fun a b => a ||| b) (pc + 1) ls st vh
  | .ishl => vm_ii (fun a b => a <<< (b &&& 31)) (pc + 1) ls st vh
  | .iushr => vm_ii (fun a b => (a.toUInt32 >>> (b.toUInt32 &&& Int32.toUInt32 31)).toInt32) (pc + 1) ls st vh
  | .irem => (match st with
    | .int b :: .int a :: r => if b = 0 then none else vm_nx (pc + 1) ls (.int (a - a / b * b) :: r) vh
    | _ => none)
  | .ladd => vm_ll (fun a b => a + b) (pc + 1) ls st vh
  | .lsub => vm_ll (fun a b => a - b) (pc + 1) ls st vh
  | .lmul => vm_ll (fun a b => a * b) (pc + 1) ls st vh
  | .land => vm_ll (fun a b => a &&& b) (pc + 1) ls st vh
  | .lor => vm_ll (fun a b => a ||| b) (pc + 1) ls st vh
  | .lxor => vm_ll (fun a b => a ^^^ b) (pc + 1) ls st vh
  | .ldiv => (match st with
    | .long b :: .long a :: r => if b = 0 then none else vm_nx (pc + 1) ls (.long (a / b) :: r) vh
    | _ => none)
  | .lrem => (match st with
    | .long b :: .long a :: r => if b = 0 then none else vm_nx (pc + 1) ls (.long (a - a / b * b) :: r) vh
    | _ => none)
  | .lneg => (match st with
    | .long a :: r => vm_nx (pc + 1) ls (.long (-a) :: r) vh
    | _ => none)
  | .lshl => vm_li (fun a b => a <<< (b.toInt64 &&& 63)) (pc + 1) ls st vh
  | .lushr => vm_li (fun a b => (a.toUInt64 >>> (b.toInt64.toUInt64 &&& Int64.toUInt64 63)).toInt64) (pc + 1) ls st vh
  | .lcmp => (match st with
    | .long b :: .long a :: r => vm_nx (pc + 1) ls (.int (lg_cmp a b) :: r) vh
    | _ => none)
  | .i2l => (match st with
    | .int a :: r => vm_nx (pc + 1) ls (.long a.toInt64 :: r) vh
    | _ => none)
  | .l2i => (match st with
    | .long a :: r => vm_nx (pc + 1) ls (.int a.toInt32 :: r) vh
    | _ => none)
  | .dup => (match st with
    | a :: r => if a.category = 1 then vm_nx (pc + 1) ls (a :: a :: r) vh else none
    | _ => none)
  | .dup2 => (match st with
    | a :: c :: r => if a.category = 1 ∧ c.category = 1 then vm_nx (pc + 1) ls (a :: c :: a :: c :: r) vh else none
    | _ => none)
  | .pop => (match st with
    | a :: r => if a.category = 1 then vm_nx (pc + 1) ls r vh else none
    | _ => none)
  | .pop2 => (match st with
    | a :: r => if a.category = 2 then vm_nx (pc + 1) ls r vh else none
    | _ => none)
  | .goto _ => vm_nx x ls st vh
  | .ifCond cd _ => (match st with
    | .int a :: r => vm_br (vm_cond cd a 0) x (pc + 3) ls r vh
    | _ => none)
  | .if_icmp cd _ => (match st with
    | .int b :: .int a :: r => vm_br (vm_cond cd a b) x (pc + 3) ls r vh
    | _ => none)
  | .ifnull _ => (match st with
    | .null :: r => vm_nx x ls r vh
    | .ref _ :: r => vm_nx (pc + 3) ls r vh
    | _ => none)
  | .ifnonnull _ => (match st with
    | .null :: r => vm_nx (pc + 3) ls r vh
    | .ref _ :: r => vm_nx x ls r vh
    | _ => none)
  | .if_acmp .ne _ => (match st with
    | .ref b :: .ref a :: r => vm_br (!decide (a = b)) x (pc + 3) ls r vh
    | _ => none)
  | .tableswitch d lo hi offs => (match st with
    | .int a :: r => if a.toInt < lo ∨ hi < a.toInt then (if 0 ≤ (pc : Int) + d then vm_nx ((pc : Int) + d).toNat ls r vh else none) else (match offs[(a.toInt - lo).toNat]? with
      | some o => if 0 ≤ (pc : Int) + o then vm_nx ((pc : Int) + o).toNat ls r vh else none
      | none => none)
    | _ => none)
  | .getfield _ => vm_get x y (pc + 3) ls st vh
  | .putfield _ => vm_put x y (pc + 3) ls st vh
  | .iaload => vm_ald (pc + 1) ls st vh
  | .baload => vm_zld (pc + 1) ls st vh
  | .laload => vm_lld (pc + 1) ls st vh
  | .aaload => vm_qld (pc + 1) ls st vh
  | .iastore => vm_ast (pc + 1) ls st vh
  | .bastore => vm_zst (pc + 1) ls st vh
  | .lastore => vm_lst (pc + 1) ls st vh
  | .aastore => vm_qst (pc + 1) ls st vh
  | .arraylength => vm_len (pc + 1) ls st vh
  | .new _ => vm_new x (pc + 3) ls st vh
  | .newarray ty => vm_newa ty (pc + 2) ls st vh
  | .anewarray _ => vm_newq x (pc + 3) ls st vh
  | _ => none
