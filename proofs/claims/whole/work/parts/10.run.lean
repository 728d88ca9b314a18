/-! the abstract machine: a total function over the model's own instructions; 'none' is stuck -/
abbrev Cl : Type := (Nat × List Value) ⊕ ((FieldType × List Int32) ⊕ List Int64)
abbrev Hp : Type := (Nat → Option Cl) × (Nat × Nat)
/-- a method: its class, name, bytes, locals, return, arguments, instructions; links: fields, calls, classes to make, constants -/
abbrev MI : Type := String × MethodName × ByteArray × Nat × Option FieldType × Nat × List (Nat × Instr × Nat) × List (Nat × Nat × Nat) × List (Nat × Nat × Nat) × List (Nat × Nat) × List (Nat × Value)
def mi_own (m : MI) : String := m.1
def mi_y (m : MI) : MethodName := m.2.1
def mi_cc (m : MI) : ByteArray := m.2.2.1
def mi_mx (m : MI) : Nat := m.2.2.2.1
def mi_rt (m : MI) : Option FieldType := m.2.2.2.2.1
def mi_np (m : MI) : Nat := m.2.2.2.2.2.1
def mi_ins (m : MI) : List (Nat × Instr × Nat) := m.2.2.2.2.2.2.1
def mi_fl (m : MI) : List (Nat × Nat × Nat) := m.2.2.2.2.2.2.2.1
def mi_ml (m : MI) : List (Nat × Nat × Nat) := m.2.2.2.2.2.2.2.2.1
def mi_nl (m : MI) : List (Nat × Nat) := m.2.2.2.2.2.2.2.2.2.1
def mi_kl (m : MI) : List (Nat × Value) := m.2.2.2.2.2.2.2.2.2.2
def lk {α : Type} : List (Nat × α) → Nat → Option α
  | [], _ => none
  | (k, v) :: t, n => cond (Nat.beq k n) (some v) (lk t n)
theorem lk_mem {α : Type} {l : List (Nat × α)} {n : Nat} {v : α} (h : lk l n = some v) : (n, v) ∈ l := by
  induction l with
  | nil => cases h
  | cons a t ih =>
    obtain ⟨k, w⟩ := a
    unfold lk at h
    cases hb : Nat.beq k n with
    | true =>
      rw [hb] at h
      have e1 : k = n := Nat.eq_of_beq_eq_true hb
      have e2 : w = v := Option.some.inj h
      rw [e1, e2]; exact List.mem_cons_self
    | false => rw [hb] at h; exact List.mem_cons_of_mem _ (ih h)
def hset (h : Hp) (i : Nat) (c : Cl) : Hp := (fun j => if j = i then some c else h.1 j, h.2)
def hnew (h : Hp) (i : Nat) (c : Cl) (n : Nat) : Hp := (fun j => if j = i then some c else h.1 j, (h.2.1 + 1, h.2.2 + n))
/-- a local that isn't known -/
abbrev unk : Value := .retAddr 0
def kil (ls : List Value) (i : Nat) : List Value := match i with
  | 0 => ls
  | j + 1 => match ls[j]? with
    | some (.long _) => ls.set j unk
    | _ => ls
def sto1 (ls : List Value) (i : Nat) (v : Value) : List Value := (kil ls i).set i v
def sto2 (ls : List Value) (i : Nat) (v : Value) : List Value := ((kil ls i).set i v).set (i + 1) unk
def tg (pc : Nat) (off : Int) : Option Nat := if 0 ≤ (pc : Int) + off then some ((pc : Int) + off).toNat else none
def fitV (ty : FieldType) (v : Value) : Bool := match ty, v with
  | .int, .int _ => true
  | .long, .long _ => true
  | .object _, .ref _ => true
  | .object _, .null => true
  | .array _, .ref _ => true
  | .array _, .null => true
  | .boolean, .int x => x == 0 || x == 1
  | _, _ => false
def tyOf (ci k : Nat) : Option FieldType := (cty[ci]?).bind (fun l => l[k]?)
/-- reading and writing fields and elements -/
def gF (h : Hp) (v : Value) (ci k : Nat) : Option Value := match v with
  | .ref i => match h.1 i with
    | some (.inl (c, fs)) => if c = ci then fs[k]? else none
    | _ => none
  | _ => none
def pF (h : Hp) (v : Value) (ci k : Nat) (x : Value) : Option Hp := match v with
  | .ref i => match h.1 i with
    | some (.inl (c, fs)) => if c = ci ∧ 64 ≤ i ∧ k < fs.length ∧ (tyOf ci k).any (fun t => fitV t x) = true then some (hset h i (.inl (c, fs.set k x))) else none
    | _ => none
  | _ => none
def aI (ty : FieldType) (h : Hp) (v : Value) (j : Int32) : Option Int32 := match v with
  | .ref i => match h.1 i with
    | some (.inr (.inl (t, xs))) => if t = ty ∧ ¬ j < 0 then xs[j.toNatClampNeg]? else none
    | _ => none
  | _ => none
def sI (ty : FieldType) (h : Hp) (v : Value) (j x : Int32) : Option Hp := match v with
  | .ref i => match h.1 i with
    | some (.inr (.inl (t, xs))) => if t = ty ∧ 64 ≤ i ∧ ¬ j < 0 ∧ j.toNatClampNeg < xs.length then some (hset h i (.inr (.inl (t, xs.set j.toNatClampNeg x)))) else none
    | _ => none
  | _ => none
def aL (h : Hp) (v : Value) (j : Int32) : Option Int64 := match v with
  | .ref i => match h.1 i with
    | some (.inr (.inr xs)) => if ¬ j < 0 then xs[j.toNatClampNeg]? else none
    | _ => none
  | _ => none
def sL (h : Hp) (v : Value) (j : Int32) (x : Int64) : Option Hp := match v with
  | .ref i => match h.1 i with
    | some (.inr (.inr xs)) => if 64 ≤ i ∧ ¬ j < 0 ∧ j.toNatClampNeg < xs.length then some (hset h i (.inr (.inr (xs.set j.toNatClampNeg x)))) else none
    | _ => none
  | _ => none
def aN (h : Hp) (v : Value) : Option Int32 := match v with
  | .ref i => match h.1 i with
    | some (.inr (.inl (_, xs))) => some (Int32.ofNat xs.length)
    | some (.inr (.inr xs)) => some (Int32.ofNat xs.length)
    | _ => none
  | _ => none
/-- a part of a row into another (or the same) row -/
def cpy (xs ys : List Int32) (sp dp n : Nat) : List Int32 := ys.take dp ++ ((xs.drop sp).take n ++ ys.drop (dp + n))
def cpI (h : Hp) (a : Value) (sp : Int32) (b : Value) (dp n : Int32) : Option Hp := match a, b with
  | .ref i, .ref j => match h.1 i, h.1 j with
    | some (.inr (.inl (t, xs))), some (.inr (.inl (u, ys))) => if t = .int ∧ u = .int ∧ 64 ≤ i ∧ 64 ≤ j ∧ ¬ sp < 0 ∧ ¬ dp < 0 ∧ ¬ n < 0 ∧ sp.toNatClampNeg + n.toNatClampNeg ≤ xs.length ∧ dp.toNatClampNeg + n.toNatClampNeg ≤ ys.length then some (hset h j (.inr (.inl (.int, cpy xs ys sp.toNatClampNeg dp.toNatClampNeg n.toNatClampNeg)))) else none
    | _, _ => none
  | _, _ => none
def nA (al : Nat → Nat) (h : Hp) (ty : ArrayType) (n : Int32) : Option (Nat × Hp) :=
  if ¬ n < 0 ∧ n.toNatClampNeg ≤ 100000 ∧ 64 ≤ al h.2.1 ∧ (h.1 (al h.2.1)).isNone = true then match ty with
    | .int => some (al h.2.1, hnew h (al h.2.1) (.inr (.inl (.int, List.replicate n.toNatClampNeg 0))) n.toNatClampNeg)
    | .byte => some (al h.2.1, hnew h (al h.2.1) (.inr (.inl (.byte, List.replicate n.toNatClampNeg 0))) n.toNatClampNeg)
    | .long => some (al h.2.1, hnew h (al h.2.1) (.inr (.inr (List.replicate n.toNatClampNeg 0))) n.toNatClampNeg)
    | _ => none
  else none
def nO (al : Nat → Nat) (h : Hp) (ci : Nat) : Option (Nat × Hp) :=
  if 64 ≤ al h.2.1 ∧ (h.1 (al h.2.1)).isNone = true then (cty[ci]?).map (fun l => (al h.2.1, hnew h (al h.2.1) (.inl (ci, l.map defaultValue)) l.length)) else none
abbrev Sx : Type := Nat × List Value × List Value × Hp
abbrev Ac : Type := (Option Value × Hp) ⊕ (Sx ⊕ (Nat × List Value × Nat × List Value × List Value))
def go (pc : Nat) (ls st : List Value) (h : Hp) : Option Ac := some (.inr (.inl (pc, ls, st, h)))
def ini (mx : Nat) (as : List Value) : List Value := let l := as.flatMap (fun v => if v.category = 2 then [v, unk] else [v]); l ++ List.replicate (mx - l.length) unk
def isB (x : Int32) : Bool := x == 0 || x == 1
def bi2 (pc : Nat) (ls st : List Value) (h : Hp) (f : Int32 → Int32 → Int32) : Option Ac := match st with
  | .int y :: .int x :: r => go (pc + 1) ls (.int (f x y) :: r) h
  | _ => none
def bl2 (pc : Nat) (ls st : List Value) (h : Hp) (f : Int64 → Int64 → Int64) : Option Ac := match st with
  | .long y :: .long x :: r => go (pc + 1) ls (.long (f x y) :: r) h
  | _ => none
def br1 (pc : Nat) (ls st : List Value) (h : Hp) (off : Int) (c : Int32 → Bool) : Option Ac := match st with
  | .int x :: r => (tg pc off).bind (fun t => go (cond (c x) t (pc + 3)) ls r h)
  | _ => none
def br2 (pc : Nat) (ls st : List Value) (h : Hp) (off : Int) (c : Int32 → Int32 → Bool) : Option Ac := match st with
  | .int y :: .int x :: r => (tg pc off).bind (fun t => go (cond (c x y) t (pc + 3)) ls r h)
  | _ => none
def ldv (ls : List Value) (i : Nat) : Option Value := match ls[i]? with
  | some (.retAddr _) => none
  | o => o
def retV (t : FieldType) (v : Int32) : Bool := match t with
  | .int => true
  | .boolean => isB v
  | .byte => decide (v.toInt8.toInt32 = v)
  | .char => decide (v.toUInt32.toUInt16.toUInt32.toInt32 = v)
  | _ => false
def cats (st : List Value) : Nat := (st.map fun v => v.category).sum
def ldI (pc : Nat) (ls st : List Value) (h : Hp) (i : Nat) : Option Ac := match ls[i]? with
  | some (.int x) => go pc ls (.int x :: st) h
  | _ => none
def ldL (pc : Nat) (ls st : List Value) (h : Hp) (i : Nat) : Option Ac := match ls[i]? with
  | some (.long x) => go pc ls (.long x :: st) h
  | _ => none
def ldA (pc : Nat) (ls st : List Value) (h : Hp) (i : Nat) : Option Ac := match ls[i]? with
  | some (.ref x) => go pc ls (.ref x :: st) h
  | some .null => go pc ls (.null :: st) h
  | _ => none
def stI (pc : Nat) (ls st : List Value) (h : Hp) (i : Nat) : Option Ac := match st with
  | .int x :: r => if i < ls.length then go pc (sto1 ls i (.int x)) r h else none
  | _ => none
def stL (pc : Nat) (ls st : List Value) (h : Hp) (i : Nat) : Option Ac := match st with
  | .long x :: r => if i + 1 < ls.length then go pc (sto2 ls i (.long x)) r h else none
  | _ => none
def stA (pc : Nat) (ls st : List Value) (h : Hp) (i : Nat) : Option Ac := match st with
  | .ref x :: r => if i < ls.length then go pc (sto1 ls i (.ref x)) r h else none
  | .null :: r => if i < ls.length then go pc (sto1 ls i .null) r h else none
  | _ => none
/-- a call: the arguments in their order, the rest of the stack -/
def cal (P : List MI) (k : Nat) (pc : Nat) (ls st : List Value) : Option Ac := match P[k]? with
  | some mq => if mi_np mq ≤ st.length ∧ cats (st.drop (mi_np mq)) ≤ 8 then some (.inr (.inr (k, (st.take (mi_np mq)).reverse, pc + 3, ls, st.drop (mi_np mq)))) else none
  | none => none
def isC (h : Hp) (v : Option Value) (ci : Nat) : Bool := match v with
  | some (.ref b) => match h.1 b with
    | some (.inl (c, _)) => Nat.beq c ci
    | _ => false
  | _ => false
def isR (v : Option Value) : Bool := match v with
  | some (.ref _) => true
  | _ => false
def act1 (al : Nat → Nat) (m : MI) (i : Instr) (pc : Nat) (ls st : List Value) (h : Hp) : Option Ac := match i with
  | .iconst n => go (pc + 1) ls (.int (Int32.ofInt n) :: st) h
  | .bipush n => go (pc + 2) ls (.int (Int8.ofInt n).toInt32 :: st) h
  | .sipush n => go (pc + 3) ls (.int (Int16.ofInt n).toInt32 :: st) h
  | .lconst n => go (pc + 1) ls (.long (Int64.ofNat n.val) :: st) h
  | .iload_n k => ldI (pc + 1) ls st h k.val
  | .iload k => ldI (pc + 2) ls st h k
  | .lload_n k => ldL (pc + 1) ls st h k.val
  | .lload k => ldL (pc + 2) ls st h k
  | .aload_n k => ldA (pc + 1) ls st h k.val
  | .aload k => ldA (pc + 2) ls st h k
  | .istore_n k => stI (pc + 1) ls st h k.val
  | .istore k => stI (pc + 2) ls st h k
  | .lstore_n k => stL (pc + 1) ls st h k.val
  | .lstore k => stL (pc + 2) ls st h k
  | .astore_n k => stA (pc + 1) ls st h k.val
  | .astore k => stA (pc + 2) ls st h k
  | .iinc k n => match ls[k]? with
    | some (.int x) => go (pc + 3) (sto1 ls k (.int (x + Int32.ofInt n))) st h
    | _ => none
  | .iadd => bi2 pc ls st h (fun x y => x + y)
  | .isub => bi2 pc ls st h (fun x y => x - y)
  | .imul => bi2 pc ls st h (fun x y => x * y)
  | .iand => bi2 pc ls st h (fun x y => x &&& y)
  | .ior => bi2 pc ls st h (fun x y => x ||| y)
  | .ixor => bi2 pc ls st h (fun x y => x ^^^ y)
  | .ishl => bi2 pc ls st h (fun x y => x <<< (y &&& 31))
  | .ishr => bi2 pc ls st h (fun x y => x >>> (y &&& 31))
  | .iushr => bi2 pc ls st h (fun x y => (x.toUInt32 >>> (y.toUInt32 &&& Int32.toUInt32 31)).toInt32)
  | .idiv => match st with
    | .int y :: .int x :: r => if y = 0 then none else go (pc + 1) ls (.int (x / y) :: r) h
    | _ => none
  | .irem => match st with
    | .int y :: .int x :: r => if y = 0 then none else go (pc + 1) ls (.int (x - x / y * y) :: r) h
    | _ => none
  | .ineg => match st with
    | .int x :: r => go (pc + 1) ls (.int (-x) :: r) h
    | _ => none
  | .ladd => bl2 pc ls st h (fun x y => x + y)
  | .lmul => bl2 pc ls st h (fun x y => x * y)
  | .ldiv => match st with
    | .long y :: .long x :: r => if y = 0 then none else go (pc + 1) ls (.long (x / y) :: r) h
    | _ => none
  | .lrem => match st with
    | .long y :: .long x :: r => if y = 0 then none else go (pc + 1) ls (.long (x - x / y * y) :: r) h
    | _ => none
  | .lcmp => match st with
    | .long y :: .long x :: r => go (pc + 1) ls (.int (lg_cmp x y) :: r) h
    | _ => none
  | .i2l => match st with
    | .int x :: r => go (pc + 1) ls (.long x.toInt64 :: r) h
    | _ => none
  | .l2i => match st with
    | .long x :: r => go (pc + 1) ls (.int x.toInt32 :: r) h
    | _ => none
  | .i2b => match st with
    | .int x :: r => go (pc + 1) ls (.int x.toInt8.toInt32 :: r) h
    | _ => none
  | .i2c => match st with
    | .int x :: r => go (pc + 1) ls (.int (x.toUInt32 % 65536).toInt32 :: r) h
    | _ => none
  | .dup => match st with
    | v :: r => if v.category = 1 then go (pc + 1) ls (v :: v :: r) h else none
    | _ => none
  | .pop => match st with
    | v :: r => if v.category = 1 then go (pc + 1) ls r h else none
    | _ => none
  | .dup2 => match st with
    | v :: w :: r => if v.category = 1 ∧ w.category = 1 then go (pc + 1) ls (v :: w :: v :: w :: r) h else none
    | _ => none
  | .goto off => (tg pc off).bind (fun t => go t ls st h)
  | .ifCond c off => match c with
    | .eq => br1 pc ls st h off (fun x => decide (x = 0))
    | .ne => br1 pc ls st h off (fun x => decide (¬ x = 0))
    | .lt => br1 pc ls st h off (fun x => decide (x < 0))
    | .ge => br1 pc ls st h off (fun x => decide (0 ≤ x))
    | .gt => br1 pc ls st h off (fun x => decide (0 < x))
    | .le => br1 pc ls st h off (fun x => decide (x ≤ 0))
  | .if_icmp c off => match c with
    | .eq => br2 pc ls st h off (fun x y => decide (x = y))
    | .ne => br2 pc ls st h off (fun x y => decide (¬ x = y))
    | .lt => br2 pc ls st h off (fun x y => decide (x < y))
    | .ge => br2 pc ls st h off (fun x y => decide (y ≤ x))
    | .gt => br2 pc ls st h off (fun x y => decide (y < x))
    | .le => br2 pc ls st h off (fun x y => decide (x ≤ y))
  | .ifnull off => match st with
    | .null :: r => (tg pc off).bind (fun t => go t ls r h)
    | .ref _ :: r => go (pc + 3) ls r h
    | _ => none
  | .ifnonnull off => match st with
    | .null :: r => go (pc + 3) ls r h
    | .ref _ :: r => (tg pc off).bind (fun t => go t ls r h)
    | _ => none
  | .tableswitch dflt lo hi offs => match st with
    | .int x :: r => if x.toInt < lo ∨ hi < x.toInt then (tg pc dflt).bind (fun t => go t ls r h) else (offs[(x.toInt - lo).toNat]?).bind (fun off => (tg pc off).bind (fun t => go t ls r h))
    | _ => none
  | .ldc k => (lk (mi_kl m) k).bind (fun v => go (pc + 2) ls (v :: st) h)
  | .ldc_w k => (lk (mi_kl m) k).bind (fun v => go (pc + 3) ls (v :: st) h)
  | .ldc2_w k => (lk (mi_kl m) k).bind (fun v => go (pc + 3) ls (v :: st) h)
  | .getstatic k => (lk (mi_kl m) k).bind (fun v => go (pc + 3) ls (v :: st) h)
  | .getfield k => match st with
    | v :: r => (lk (mi_fl m) k).bind (fun q => (gF h v q.1 q.2).bind (fun x => go (pc + 3) ls (x :: r) h))
    | _ => none
  | .putfield k => match st with
    | x :: v :: r => (lk (mi_fl m) k).bind (fun q => (pF h v q.1 q.2 x).bind (fun h' => go (pc + 3) ls r h'))
    | _ => none
  | .iaload => match st with
    | .int j :: v :: r => (aI .int h v j).bind (fun x => go (pc + 1) ls (.int x :: r) h)
    | _ => none
  | .baload => match st with
    | .int j :: v :: r => (aI .byte h v j).bind (fun x => go (pc + 1) ls (.int x :: r) h)
    | _ => none
  | .laload => match st with
    | .int j :: v :: r => (aL h v j).bind (fun x => go (pc + 1) ls (.long x :: r) h)
    | _ => none
  | .iastore => match st with
    | .int x :: .int j :: v :: r => (sI .int h v j x).bind (fun h' => go (pc + 1) ls r h')
    | _ => none
  | .bastore => match st with
    | .int x :: .int j :: v :: r => (sI .byte h v j x.toInt8.toInt32).bind (fun h' => go (pc + 1) ls r h')
    | _ => none
  | .lastore => match st with
    | .long x :: .int j :: v :: r => (sL h v j x).bind (fun h' => go (pc + 1) ls r h')
    | _ => none
  | .arraylength => match st with
    | v :: r => (aN h v).bind (fun n => go (pc + 1) ls (.int n :: r) h)
    | _ => none
  | .newarray ty => match st with
    | .int n :: r => (nA al h ty n).bind (fun q => go (pc + 2) ls (.ref q.1 :: r) q.2)
    | _ => none
  | .new k => (lk (mi_nl m) k).bind (fun ci => (nO al h ci).bind (fun q => go (pc + 3) ls (.ref q.1 :: st) q.2))
  | .ireturn => match st with
    | [.int v] => if (mi_rt m).any (fun t => retV t v) = true then some (.inl (some (.int v), h)) else none
    | _ => none
  | .lreturn => match st with
    | [.long v] => if mi_rt m = some .long then some (.inl (some (.long v), h)) else none
    | _ => none
  | .areturn => match st with
    | [.ref v] => if (mi_rt m).any (fun t => match t with | .object _ => true | .array _ => true | _ => false) = true then some (.inl (some (.ref v), h)) else none
    | _ => none
  | .return_ => match st with
    | [] => if mi_rt m = none then some (.inl (none, h)) else none
    | _ => none
  | _ => none
def act (P : List MI) (al : Nat → Nat) (m : MI) (x : Sx) : Option Ac := match lk (mi_ins m) x.1 with
  | none => none
  | some (i, _) => match i with
    | .invokevirtual k => (lk (mi_ml m) k).bind (fun q => (P[q.1]?).bind (fun mq => if isC x.2.2.2 (x.2.2.1[mi_np mq - 1]?) q.2 = true ∧ 0 < mi_np mq then cal P q.1 x.1 x.2.1 x.2.2.1 else none))
    | .invokespecial k => (lk (mi_ml m) k).bind (fun q => if q.1 = 1000 then (match x.2.2.1 with
        | .ref _ :: r => if cats r ≤ 8 then go (x.1 + 3) x.2.1 r x.2.2.2 else none
        | _ => none) else (P[q.1]?).bind (fun mq => if isR (x.2.2.1[mi_np mq - 1]?) = true ∧ 0 < mi_np mq then cal P q.1 x.1 x.2.1 x.2.2.1 else none))
    | .invokestatic k => (lk (mi_ml m) k).bind (fun q => if q.1 = 1001 then (match x.2.2.1 with
        | .int n :: .int dp :: b :: .int sp :: a :: r => if cats r ≤ 8 then (cpI x.2.2.2 a sp b dp n).bind (fun h' => go (x.1 + 3) x.2.1 r h') else none
        | _ => none) else cal P q.1 x.1 x.2.1 x.2.2.1)
    | i => act1 al m i x.1 x.2.1 x.2.2.1 x.2.2.2
def run (P : List MI) (al : Nat → Nat) : Nat → Nat → Nat → Sx → Option (Option Value × Hp)
  | 0, _, _, _ => none
  | n + 1, d, M, x => (P[M]?).bind (fun m => match act P al m x with
    | none => none
    | some (.inl r) => some r
    | some (.inr (.inl x')) => run P al n d M x'
    | some (.inr (.inr (k, as, pc, ls, rest))) => match d with
      | 0 => none
      | d' + 1 => (P[k]?).bind (fun mq => (run P al n d' k (0, ini (mi_mx mq) as, [], x.2.2.2)).bind (fun q => run P al n (d' + 1) M (pc, ls, q.1.toList ++ rest, q.2))))
