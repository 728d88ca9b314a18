/-! the abstract machine: a total function over the model's own instructions; 'none' is stuck. A heap: kinds (0..13 as vwCl, 50 String, 100 int rows, 101 byte rows, 102 long rows, 999 nothing), int fields, long fields, reference fields, int rows, long rows, how many cells were made, how many words. Ids from 1000000 on are only read. -/
abbrev Hp : Type := (Nat → Nat) × ((Nat → Nat → Int32) × ((Nat → Nat → Int64) × ((Nat → Nat → Option Nat) × ((Nat → List Int32) × ((Nat → List Int64) × (Nat × Nat))))))
def kd (h : Hp) : Nat → Nat := h.1
def fI (h : Hp) : Nat → Nat → Int32 := h.2.1
def fL (h : Hp) : Nat → Nat → Int64 := h.2.2.1
def fR (h : Hp) : Nat → Nat → Option Nat := h.2.2.2.1
def iA (h : Hp) : Nat → List Int32 := h.2.2.2.2.1
def lA (h : Hp) : Nat → List Int64 := h.2.2.2.2.2.1
def cn (h : Hp) : Nat := h.2.2.2.2.2.2.1
def wd (h : Hp) : Nat := h.2.2.2.2.2.2.2
def up1 {α : Type} (f : Nat → α) (a : Nat) (v : α) : Nat → α := fun x => if x = a then v else f x
def up2 {α : Type} (f : Nat → Nat → α) (a k : Nat) (v : α) : Nat → Nat → α := fun x y => if x = a ∧ y = k then v else f x y
def zr {α : Type} (f : Nat → Nat → α) (a : Nat) (v : α) : Nat → Nat → α := fun x y => if x = a then v else f x y
def sFI (h : Hp) (a k : Nat) (v : Int32) : Hp := (kd h, up2 (fI h) a k v, fL h, fR h, iA h, lA h, cn h, wd h)
def sFL (h : Hp) (a k : Nat) (v : Int64) : Hp := (kd h, fI h, up2 (fL h) a k v, fR h, iA h, lA h, cn h, wd h)
def sFR (h : Hp) (a k : Nat) (v : Option Nat) : Hp := (kd h, fI h, fL h, up2 (fR h) a k v, iA h, lA h, cn h, wd h)
def sIA (h : Hp) (a : Nat) (v : List Int32) : Hp := (kd h, fI h, fL h, fR h, up1 (iA h) a v, lA h, cn h, wd h)
def sLA (h : Hp) (a : Nat) (v : List Int64) : Hp := (kd h, fI h, fL h, fR h, iA h, up1 (lA h) a v, cn h, wd h)
def mkO (h : Hp) (ci n : Nat) : Hp := (up1 (kd h) (cn h) ci, zr (fI h) (cn h) 0, zr (fL h) (cn h) 0, zr (fR h) (cn h) none, iA h, lA h, cn h + 1, wd h + n)
def mkA (h : Hp) (kk n : Nat) : Hp := (up1 (kd h) (cn h) kk, fI h, fL h, fR h, up1 (iA h) (cn h) (List.replicate n 0), up1 (lA h) (cn h) (List.replicate n 0), cn h + 1, wd h + n)
def mkX (h : Hp) (n : Nat) : Hp := (up1 (kd h) (cn h) 999, fI h, fL h, fR h, iA h, lA h, cn h + 1, wd h + n)
/-- a field's kind: 1 int, 2 long, 3 reference, 4 boolean, 5 byte, 0 none -/
def tk (t : FieldType) : Nat := match t with
  | .int => 1
  | .long => 2
  | .object _ => 3
  | .array _ => 3
  | .boolean => 4
  | .byte => 5
  | _ => 0
def ftk (ci k : Nat) : Nat := if ci = 50 then (if k = 0 then 3 else if k = 1 then 5 else 0) else match (cty[ci]?).bind (fun l => l[k]?) with
  | some t => tk t
  | none => 0
def rf (o : Option Nat) : Value := match o with
  | some i => .ref i
  | none => .null
def isB (x : Int32) : Bool := x == 0 || x == 1
/-- reads and writes -/
def gI (h : Hp) (a ci k : Nat) : Option Int32 := if kd h a = ci then some (fI h a k) else none
def gL (h : Hp) (a ci k : Nat) : Option Int64 := if kd h a = ci then some (fL h a k) else none
def gQ (h : Hp) (a ci k : Nat) : Option (Option Nat) := if kd h a = ci then some (fR h a k) else none
def gR (h : Hp) (a ci k : Nat) : Option Nat := if kd h a = ci then fR h a k else none
def pI (h : Hp) (a ci k : Nat) (v : Int32) : Option Hp := if kd h a = ci then some (sFI h a k v) else none
def pZ (h : Hp) (a ci k : Nat) (v : Int32) : Option Hp := if kd h a = ci ∧ isB v = true then some (sFI h a k v) else none
def pL (h : Hp) (a ci k : Nat) (v : Int64) : Option Hp := if kd h a = ci then some (sFL h a k v) else none
def pR (h : Hp) (a ci k : Nat) (v : Option Nat) : Option Hp := if kd h a = ci then some (sFR h a k v) else none
def ix (j : Int32) (n : Nat) : Option Nat := if j < 0 then none else if j.toNatClampNeg < n then some j.toNatClampNeg else none
def aI (h : Hp) (kk a : Nat) (j : Int32) : Option Int32 := if kd h a = kk then (ix j (iA h a).length).bind (fun i => (iA h a)[i]?) else none
def aL (h : Hp) (a : Nat) (j : Int32) : Option Int64 := if kd h a = 102 then (ix j (lA h a).length).bind (fun i => (lA h a)[i]?) else none
def sI (h : Hp) (kk a : Nat) (j v : Int32) : Option Hp := if kd h a = kk ∧ a < 1000000 then (ix j (iA h a).length).map (fun i => sIA h a ((iA h a).set i v)) else none
def sL (h : Hp) (a : Nat) (j : Int32) (v : Int64) : Option Hp := if kd h a = 102 ∧ a < 1000000 then (ix j (lA h a).length).map (fun i => sLA h a ((lA h a).set i v)) else none
def aN (h : Hp) (a : Nat) : Option Int32 := if kd h a = 100 ∨ kd h a = 101 then some (Int32.ofNat (iA h a).length) else if kd h a = 102 then some (Int32.ofNat (lA h a).length) else none
/-- a part of a row into a row -/
def cpy (xs ys : List Int32) (sp dp n : Nat) : List Int32 := ys.take dp ++ ((xs.drop sp).take n ++ ys.drop (dp + n))
def cpI (h : Hp) (a : Nat) (sp : Int32) (b : Nat) (dp n : Int32) : Option Hp :=
  if kd h a = 100 ∧ kd h b = 100 ∧ a < 1000000 ∧ b < 1000000 ∧ ¬ sp < 0 ∧ ¬ dp < 0 ∧ ¬ n < 0 ∧ sp.toNatClampNeg + n.toNatClampNeg ≤ (iA h a).length ∧ dp.toNatClampNeg + n.toNatClampNeg ≤ (iA h b).length then some (sIA h b (cpy (iA h a) (iA h b) sp.toNatClampNeg dp.toNatClampNeg n.toNatClampNeg)) else none
def nA (h : Hp) (kk : Nat) (n : Int32) : Option (Nat × Hp) := if ¬ n < 0 ∧ n.toNatClampNeg ≤ 100000 ∧ cn h < 900000 then some (cn h, mkA h kk n.toNatClampNeg) else none
def nO (h : Hp) (ci : Nat) : Option (Nat × Hp) := if cn h < 900000 then (cty[ci]?).map (fun l => (cn h, mkO h ci l.length)) else none
/-- a method: its class, name, bytes; locals, return, arguments; instructions (with length, and locals that are forgotten there); links: fields, calls, classes to make, constants -/
abbrev MI : Type := (String × MethodName × ByteArray) × (Nat × Option FieldType × Nat) × List (Nat × Instr × Nat × List Nat) × List (Nat × Nat × Nat) × List (Nat × Nat × Nat) × List (Nat × Nat) × List (Nat × Value)
def mi_own (m : MI) : String := m.1.1
def mi_y (m : MI) : MethodName := m.1.2.1
def mi_cc (m : MI) : ByteArray := m.1.2.2
def mi_mx (m : MI) : Nat := m.2.1.1
def mi_rt (m : MI) : Option FieldType := m.2.1.2.1
def mi_np (m : MI) : Nat := m.2.1.2.2
def mi_ins (m : MI) : List (Nat × Instr × Nat × List Nat) := m.2.2.1
def mi_fl (m : MI) : List (Nat × Nat × Nat) := m.2.2.2.1
def mi_ml (m : MI) : List (Nat × Nat × Nat) := m.2.2.2.2.1
def mi_nl (m : MI) : List (Nat × Nat) := m.2.2.2.2.2.1
def mi_kl (m : MI) : List (Nat × Value) := m.2.2.2.2.2.2
def lk {α : Type} : List (Nat × α) → Nat → Option α
  | [], _ => none
  | (k, v) :: t, n => cond (Nat.beq k n) (some v) (lk t n)
theorem lk_mem {α : Type} {l : List (Nat × α)} {n : Nat} {v : α} (h : lk l n = some v) : (n, v) ∈ l := by
  induction l with
  | nil => cases h
  | cons a t ih =>
    obtain ⟨k, w⟩ := a
    unfold lk at h
    cases hb : Nat.beq k n with
    | true =>
      rw [hb] at h
      have e1 : k = n := Nat.eq_of_beq_eq_true hb
      have e2 : w = v := Option.some.inj h
      rw [e1, e2]; exact List.mem_cons_self
    | false => rw [hb] at h; exact List.mem_cons_of_mem _ (ih h)
/-- a local that isn't known -/
abbrev unk : Value := .retAddr 0
def kil (ls : List Value) (i : Nat) : List Value := match i with
  | 0 => ls
  | j + 1 => match ls[j]? with
    | some v => if v.category = 2 then ls.set j unk else ls
    | none => ls
def sto1 (ls : List Value) (i : Nat) (v : Value) : List Value := (kil ls i).set i v
def sto2 (ls : List Value) (i : Nat) (v : Value) : List Value := ((kil ls i).set i v).set (i + 1) unk
def kls (ks : List Nat) (ls : List Value) : List Value := match ks with
  | [] => ls
  | k :: t => kls t (ls.set k unk)
def tg (pc : Nat) (off : Int) : Option Nat := if 0 ≤ (pc : Int) + off then some ((pc : Int) + off).toNat else none
abbrev Sx : Type := Nat × List Value × List Value × Hp
abbrev Ac : Type := (Option Value × Hp) ⊕ (Sx ⊕ (Nat × List Value × Nat × List Value × List Value))
def go (pc : Nat) (ls st : List Value) (h : Hp) : Option Ac := some (.inr (.inl (pc, ls, st, h)))
def ini (mx : Nat) (as : List Value) : List Value := let l := as.flatMap (fun v => if v.category = 2 then [v, unk] else [v]); l ++ List.replicate (mx - l.length) unk
def bi2 (pc : Nat) (ls st : List Value) (h : Hp) (f : Int32 → Int32 → Int32) : Option Ac := match st with
  | .int y :: .int x :: r => go (pc + 1) ls (.int (f x y) :: r) h
  | _ => none
def bl2 (pc : Nat) (ls st : List Value) (h : Hp) (f : Int64 → Int64 → Int64) : Option Ac := match st with
  | .long y :: .long x :: r => go (pc + 1) ls (.long (f x y) :: r) h
  | _ => none
def br1 (pc : Nat) (ls st : List Value) (h : Hp) (off : Int) (c : Int32 → Bool) : Option Ac := match st with
  | .int x :: r => (tg pc off).bind (fun t => go (cond (c x) t (pc + 3)) ls r h)
  | _ => none
def br2 (pc : Nat) (ls st : List Value) (h : Hp) (off : Int) (c : Int32 → Int32 → Bool) : Option Ac := match st with
  | .int y :: .int x :: r => (tg pc off).bind (fun t => go (cond (c x y) t (pc + 3)) ls r h)
  | _ => none
def retV (t : FieldType) (v : Int32) : Bool := match t with
  | .int => true
  | .boolean => isB v
  | .byte => decide (v.toInt8.toInt32 = v)
  | .char => decide (v.toUInt32.toUInt16.toUInt32.toInt32 = v)
  | _ => false
def cats (st : List Value) : Nat := (st.map fun v => v.category).sum
def ldI (pc : Nat) (ls st : List Value) (h : Hp) (i : Nat) : Option Ac := match ls[i]? with
  | some (.int x) => go pc ls (.int x :: st) h
  | _ => none
def ldL (pc : Nat) (ls st : List Value) (h : Hp) (i : Nat) : Option Ac := match ls[i]? with
  | some (.long x) => go pc ls (.long x :: st) h
  | _ => none
def ldA (pc : Nat) (ls st : List Value) (h : Hp) (i : Nat) : Option Ac := match ls[i]? with
  | some (.ref x) => go pc ls (.ref x :: st) h
  | _ => none
def stI (pc : Nat) (ls st : List Value) (h : Hp) (i : Nat) : Option Ac := match st with
  | .int x :: r => if i < ls.length then go pc (sto1 ls i (.int x)) r h else none
  | _ => none
def stL (pc : Nat) (ls st : List Value) (h : Hp) (i : Nat) : Option Ac := match st with
  | .long x :: r => if i + 1 < ls.length then go pc (sto2 ls i (.long x)) r h else none
  | _ => none
def stA (pc : Nat) (ls st : List Value) (h : Hp) (i : Nat) : Option Ac := match st with
  | .ref x :: r => if i < ls.length then go pc (sto1 ls i (.ref x)) r h else none
  | _ => none
/-- a call: the arguments in their order, the rest of the stack -/
def cal (P : List MI) (k : Nat) (pc : Nat) (ls st : List Value) : Option Ac := match P[k]? with
  | some mq => if mi_np mq ≤ st.length ∧ cats (st.drop (mi_np mq)) ≤ 8 then some (.inr (.inr (k, (st.take (mi_np mq)).reverse, pc + 3, ls, st.drop (mi_np mq)))) else none
  | none => none
def isC (h : Hp) (v : Option Value) (ci : Nat) : Bool := match v with
  | some (.ref b) => Nat.beq (kd h b) ci
  | _ => false
def isR (v : Option Value) : Bool := match v with
  | some (.ref _) => true
  | _ => false
def gF (h : Hp) (a ci k : Nat) : Option Value := match ftk ci k with
  | 1 => (gI h a ci k).map Value.int
  | 2 => (gL h a ci k).map Value.long
  | 3 => (gQ h a ci k).map rf
  | 4 => (gI h a ci k).map Value.int
  | 5 => (gI h a ci k).map Value.int
  | _ => none
def pF (h : Hp) (a ci k : Nat) (v : Value) : Option Hp := match ftk ci k, v with
  | 1, .int x => pI h a ci k x
  | 2, .long x => pL h a ci k x
  | 3, .ref x => pR h a ci k (some x)
  | 4, .int x => pZ h a ci k x
  | _, _ => none
def act1 (m : MI) (i : Instr) (pc : Nat) (ls st : List Value) (h : Hp) : Option Ac := match i with
  | .iconst n => go (pc + 1) ls (.int (Int32.ofInt n) :: st) h
  | .bipush n => go (pc + 2) ls (.int (Int8.ofInt n).toInt32 :: st) h
  | .sipush n => go (pc + 3) ls (.int (Int16.ofInt n).toInt32 :: st) h
  | .lconst n => go (pc + 1) ls (.long (Int64.ofNat n.val) :: st) h
  | .iload_n k => ldI (pc + 1) ls st h k.val
  | .iload k => ldI (pc + 2) ls st h k
  | .lload_n k => ldL (pc + 1) ls st h k.val
  | .lload k => ldL (pc + 2) ls st h k
  | .aload_n k => ldA (pc + 1) ls st h k.val
  | .aload k => ldA (pc + 2) ls st h k
  | .istore_n k => stI (pc + 1) ls st h k.val
  | .istore k => stI (pc + 2) ls st h k
  | .lstore_n k => stL (pc + 1) ls st h k.val
  | .lstore k => stL (pc + 2) ls st h k
  | .astore_n k => stA (pc + 1) ls st h k.val
  | .astore k => stA (pc + 2) ls st h k
  | .iinc k n => match ls[k]? with
    | some (.int x) => go (pc + 3) (sto1 ls k (.int (x + Int32.ofInt n))) st h
    | _ => none
  | .iadd => bi2 pc ls st h (fun x y => x + y)
  | .isub => bi2 pc ls st h (fun x y => x - y)
  | .imul => bi2 pc ls st h (fun x y => x * y)
  | .iand => bi2 pc ls st h (fun x y => x &&& y)
  | .ior => bi2 pc ls st h (fun x y => x ||| y)
  | .ixor => bi2 pc ls st h (fun x y => x ^^^ y)
  | .ishl => bi2 pc ls st h (fun x y => x <<< (y &&& 31))
  | .ishr => bi2 pc ls st h (fun x y => x >>> (y &&& 31))
  | .iushr => bi2 pc ls st h (fun x y => (x.toUInt32 >>> (y.toUInt32 &&& Int32.toUInt32 31)).toInt32)
  | .idiv => match st with
    | .int y :: .int x :: r => if y = 0 then none else go (pc + 1) ls (.int (x / y) :: r) h
    | _ => none
  | .irem => match st with
    | .int y :: .int x :: r => if y = 0 then none else go (pc + 1) ls (.int (x - x / y * y) :: r) h
    | _ => none
  | .ineg => match st with
    | .int x :: r => go (pc + 1) ls (.int (-x) :: r) h
    | _ => none
  | .ladd => bl2 pc ls st h (fun x y => x + y)
  | .lmul => bl2 pc ls st h (fun x y => x * y)
  | .ldiv => match st with
    | .long y :: .long x :: r => if y = 0 then none else go (pc + 1) ls (.long (x / y) :: r) h
    | _ => none
  | .lrem => match st with
    | .long y :: .long x :: r => if y = 0 then none else go (pc + 1) ls (.long (x - x / y * y) :: r) h
    | _ => none
  | .lcmp => match st with
    | .long y :: .long x :: r => go (pc + 1) ls (.int (lg_cmp x y) :: r) h
    | _ => none
  | .i2l => match st with
    | .int x :: r => go (pc + 1) ls (.long x.toInt64 :: r) h
    | _ => none
  | .l2i => match st with
    | .long x :: r => go (pc + 1) ls (.int x.toInt32 :: r) h
    | _ => none
  | .i2b => match st with
    | .int x :: r => go (pc + 1) ls (.int x.toInt8.toInt32 :: r) h
    | _ => none
  | .i2c => match st with
    | .int x :: r => go (pc + 1) ls (.int (x.toUInt32 % 65536).toInt32 :: r) h
    | _ => none
  | .dup => match st with
    | v :: r => if v.category = 1 then go (pc + 1) ls (v :: v :: r) h else none
    | _ => none
  | .pop => match st with
    | v :: r => if v.category = 1 then go (pc + 1) ls r h else none
    | _ => none
  | .dup2 => match st with
    | v :: w :: r => if v.category = 1 ∧ w.category = 1 then go (pc + 1) ls (v :: w :: v :: w :: r) h else none
    | _ => none
  | .goto off => (tg pc off).bind (fun t => go t ls st h)
  | .ifCond c off => match c with
    | .eq => br1 pc ls st h off (fun x => decide (x = 0))
    | .ne => br1 pc ls st h off (fun x => decide (¬ x = 0))
    | .lt => br1 pc ls st h off (fun x => decide (x < 0))
    | .ge => br1 pc ls st h off (fun x => decide (0 ≤ x))
    | .gt => br1 pc ls st h off (fun x => decide (0 < x))
    | .le => br1 pc ls st h off (fun x => decide (x ≤ 0))
  | .if_icmp c off => match c with
    | .eq => br2 pc ls st h off (fun x y => decide (x = y))
    | .ne => br2 pc ls st h off (fun x y => decide (¬ x = y))
    | .lt => br2 pc ls st h off (fun x y => decide (x < y))
    | .ge => br2 pc ls st h off (fun x y => decide (y ≤ x))
    | .gt => br2 pc ls st h off (fun x y => decide (y < x))
    | .le => br2 pc ls st h off (fun x y => decide (x ≤ y))
  | .ifnull off => match st with
    | .null :: r => (tg pc off).bind (fun t => go t ls r h)
    | .ref _ :: r => go (pc + 3) ls r h
    | _ => none
  | .ifnonnull off => match st with
    | .null :: r => go (pc + 3) ls r h
    | .ref _ :: r => (tg pc off).bind (fun t => go t ls r h)
    | _ => none
  | .tableswitch dflt lo hi offs => match st with
    | .int x :: r => if x.toInt < lo ∨ hi < x.toInt then (tg pc dflt).bind (fun t => go t ls r h) else (offs[(x.toInt - lo).toNat]?).bind (fun off => (tg pc off).bind (fun t => go t ls r h))
    | _ => none
  | .ldc k => (lk (mi_kl m) k).bind (fun v => go (pc + 2) ls (v :: st) h)
  | .ldc_w k => (lk (mi_kl m) k).bind (fun v => go (pc + 3) ls (v :: st) h)
  | .ldc2_w k => (lk (mi_kl m) k).bind (fun v => go (pc + 3) ls (v :: st) h)
  | .getstatic k => (lk (mi_kl m) k).bind (fun v => go (pc + 3) ls (v :: st) h)
  | .getfield k => match st with
    | .ref a :: r => (lk (mi_fl m) k).bind (fun q => (gF h a q.1 q.2).bind (fun x => go (pc + 3) ls (x :: r) h))
    | _ => none
  | .putfield k => match st with
    | x :: .ref a :: r => (lk (mi_fl m) k).bind (fun q => (pF h a q.1 q.2 x).bind (fun h' => go (pc + 3) ls r h'))
    | _ => none
  | .iaload => match st with
    | .int j :: .ref a :: r => (aI h 100 a j).bind (fun x => go (pc + 1) ls (.int x :: r) h)
    | _ => none
  | .baload => match st with
    | .int j :: .ref a :: r => (aI h 101 a j).bind (fun x => go (pc + 1) ls (.int x :: r) h)
    | _ => none
  | .laload => match st with
    | .int j :: .ref a :: r => (aL h a j).bind (fun x => go (pc + 1) ls (.long x :: r) h)
    | _ => none
  | .iastore => match st with
    | .int x :: .int j :: .ref a :: r => (sI h 100 a j x).bind (fun h' => go (pc + 1) ls r h')
    | _ => none
  | .bastore => match st with
    | .int x :: .int j :: .ref a :: r => (sI h 101 a j x.toInt8.toInt32).bind (fun h' => go (pc + 1) ls r h')
    | _ => none
  | .lastore => match st with
    | .long x :: .int j :: .ref a :: r => (sL h a j x).bind (fun h' => go (pc + 1) ls r h')
    | _ => none
  | .arraylength => match st with
    | .ref a :: r => (aN h a).bind (fun n => go (pc + 1) ls (.int n :: r) h)
    | _ => none
  | .newarray ty => match st with
    | .int n :: r => match ty with
      | .int => (nA h 100 n).bind (fun q => go (pc + 2) ls (.ref q.1 :: r) q.2)
      | .byte => (nA h 101 n).bind (fun q => go (pc + 2) ls (.ref q.1 :: r) q.2)
      | .long => (nA h 102 n).bind (fun q => go (pc + 2) ls (.ref q.1 :: r) q.2)
      | _ => none
    | _ => none
  | .new k => (lk (mi_nl m) k).bind (fun ci => if ci = 60 then (if st = [] ∧ cn h < 900000 then some (.inl (some (.retAddr 1), mkX h 6)) else none) else (nO h ci).bind (fun q => go (pc + 3) ls (.ref q.1 :: st) q.2))
  | .ireturn => match st with
    | [.int v] => if (mi_rt m).any (fun t => retV t v) = true then some (.inl (some (.int v), h)) else none
    | _ => none
  | .lreturn => match st with
    | [.long v] => if mi_rt m = some .long then some (.inl (some (.long v), h)) else none
    | _ => none
  | .areturn => match st with
    | [.ref v] => if (mi_rt m).any (fun t => tk t == 3) = true then some (.inl (some (.ref v), h)) else none
    | _ => none
  | .return_ => match st with
    | [] => if mi_rt m = none then some (.inl (none, h)) else none
    | _ => none
  | _ => none
/-- a call's link: its number in the table, and 0..13, 50 the receiver's kind; 200 static; 201 a constructor; 202 a constructor of a nest mate; number 1000: Object's constructor, 1001: arraycopy -/
def act2 (P : List MI) (m : MI) (i : Instr) (pc : Nat) (ls st : List Value) (h : Hp) : Option Ac := match i with
  | .invokevirtual k => (lk (mi_ml m) k).bind (fun q => (P[q.1]?).bind (fun mq => if isC h (st[mi_np mq - 1]?) q.2 = true ∧ 0 < mi_np mq ∧ q.2 < 100 then cal P q.1 pc ls st else none))
  | .invokespecial k => (lk (mi_ml m) k).bind (fun q => if q.1 = 1000 then (match st with
      | .ref _ :: r => if cats r ≤ 8 then go (pc + 3) ls r h else none
      | _ => none) else (P[q.1]?).bind (fun mq => if isR (st[mi_np mq - 1]?) = true ∧ 0 < mi_np mq ∧ (q.2 = 201 ∨ q.2 = 202) then cal P q.1 pc ls st else none))
  | .invokestatic k => (lk (mi_ml m) k).bind (fun q => if q.1 = 1001 then (match st with
      | .int n :: .int dp :: .ref b :: .int sp :: .ref a :: r => if cats r ≤ 8 then (cpI h a sp b dp n).bind (fun h' => go (pc + 3) ls r h') else none
      | _ => none) else if q.2 = 200 then cal P q.1 pc ls st else none)
  | i => act1 m i pc ls st h
def act (P : List MI) (m : MI) (x : Sx) : Option Ac := match lk (mi_ins m) x.1 with
  | none => none
  | some (i, _, ks) => act2 P m i x.1 (kls ks x.2.1) x.2.2.1 x.2.2.2
def run (P : List MI) : Nat → Nat → Nat → Sx → Option (Option Value × Hp)
  | 0, _, _, _ => none
  | n + 1, d, M, x => match P[M]? with
    | none => none
    | some m => match act P m x with
      | none => none
      | some (.inl r) => some r
      | some (.inr (.inl x')) => run P n d M x'
      | some (.inr (.inr (k, as, pc, ls, rest))) => match d with
        | 0 => none
        | d' + 1 => match P[k]? with
          | none => none
          | some mq => if ¬ (ini (mi_mx mq) as).length = mi_mx mq then none else match run P n d' k (0, ini (mi_mx mq) as, [], x.2.2.2) with
            | none => none
            | some q => if q.1 = some (.retAddr 1) then (if M = 0 then run P n (d' + 1) M (13, ls, [], q.2) else none) else run P n (d' + 1) M (pc, ls, q.1.toList ++ rest, q.2)
