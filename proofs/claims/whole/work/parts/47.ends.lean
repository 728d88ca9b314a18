/-! ends and calls of the abstract machine -/
theorem go_nl {pc : Nat} {ls st : List Value} {h : Hp} {y : Option Value × Hp} (e : go pc ls st h = some (.inl y)) : False := by
  unfold go at e; cases e
theorem go_nc {pc : Nat} {ls st : List Value} {h : Hp} {y : Nat × List Value × Nat × List Value × List Value} (e : go pc ls st h = some (.inr (.inr y))) : False := by
  unfold go at e; cases e
theorem cal_nl {k pc : Nat} {ls st : List Value} {y : Option Value × Hp} (h : cal P k pc ls st = some (.inl y)) : False := by
  unfold cal at h
  split at h
  · split at h
    · cases h
    · cases h
  · cases h
def CalR (mq : MI) (pc : Nat) (ls st : List Value) (as : List Value) (pc2 : Nat) (ls2 rest : List Value) : Prop := mi_np mq ≤ st.length ∧ cats (st.drop (mi_np mq)) ≤ 8 ∧ as = (st.take (mi_np mq)).reverse ∧ pc2 = pc + 3 ∧ ls2 = ls ∧ rest = st.drop (mi_np mq)
theorem cal_s {k pc kq pc2 : Nat} {ls st as ls2 rest : List Value} {mq : MI} (hm : P[k]? = some mq) (h : cal P k pc ls st = some (.inr (.inr (kq, as, pc2, ls2, rest)))) : k = kq ∧ CalR mq pc ls st as pc2 ls2 rest := by
  unfold cal at h
  rw [hm] at h
  simp only at h
  split at h
  next hc =>
    have e := Sum.inr.inj (Sum.inr.inj (Option.some.inj h))
    cases e
    exact ⟨rfl, hc.1, hc.2, rfl, rfl, rfl, rfl⟩
  next => cases h
set_option maxHeartbeats 4000000 in
theorem ret_inv {m : MI} {i : Instr} {pc : Nat} {ls st : List Value} {h hf : Hp} {r : Option Value} (ha : act2 P m i pc ls st h = some (.inl (r, hf))) : (i = .ireturn ∧ hf = h ∧ ∃ v, st = [.int v] ∧ r = some (.int v) ∧ (mi_rt m).any (fun t => retV t v) = true) ∨ (i = .lreturn ∧ hf = h ∧ ∃ v, st = [.long v] ∧ r = some (.long v) ∧ mi_rt m = some .long) ∨ (i = .areturn ∧ hf = h ∧ ∃ v, st = [.ref v] ∧ r = some (.ref v) ∧ (mi_rt m).any (fun t => tk t == 3) = true) ∨ (i = .return_ ∧ hf = h ∧ st = [] ∧ r = none ∧ mi_rt m = none) ∨ (∃ k, i = .new k ∧ lk (mi_nl m) k = some 60 ∧ st = [] ∧ cn h < 900000 ∧ r = some (.retAddr 1) ∧ hf = mkX h 6) := by
  cases i
  case iconst n =>
    exact (go_nl (show go (pc + 1) ls (.int (Int32.ofInt n) :: st) h = _ from ha)).elim
  case bipush n =>
    exact (go_nl (show go (pc + 2) ls (.int (Int8.ofInt n).toInt32 :: st) h = _ from ha)).elim
  case sipush n =>
    exact (go_nl (show go (pc + 3) ls (.int (Int16.ofInt n).toInt32 :: st) h = _ from ha)).elim
  case lconst n =>
    exact (go_nl (show go (pc + 1) ls (.long (Int64.ofNat n.val) :: st) h = _ from ha)).elim
  case iload_n k =>
    replace ha : ldI (pc + 1) ls st h k.val = _ := ha
    unfold ldI at ha
    split at ha
    all_goals first | (cases ha; done) | (exact (go_nl ha).elim) | (split at ha <;> first | (cases ha; done) | (exact (go_nl ha).elim)) | (obtain ⟨_, _, ha⟩ := ob_s ha; exact (go_nl ha).elim)
  case iload k =>
    replace ha : ldI (pc + 2) ls st h k = _ := ha
    unfold ldI at ha
    split at ha
    all_goals first | (cases ha; done) | (exact (go_nl ha).elim) | (split at ha <;> first | (cases ha; done) | (exact (go_nl ha).elim)) | (obtain ⟨_, _, ha⟩ := ob_s ha; exact (go_nl ha).elim)
  case lload_n k =>
    replace ha : ldL (pc + 1) ls st h k.val = _ := ha
    unfold ldL at ha
    split at ha
    all_goals first | (cases ha; done) | (exact (go_nl ha).elim) | (split at ha <;> first | (cases ha; done) | (exact (go_nl ha).elim)) | (obtain ⟨_, _, ha⟩ := ob_s ha; exact (go_nl ha).elim)
  case lload k =>
    replace ha : ldL (pc + 2) ls st h k = _ := ha
    unfold ldL at ha
    split at ha
    all_goals first | (cases ha; done) | (exact (go_nl ha).elim) | (split at ha <;> first | (cases ha; done) | (exact (go_nl ha).elim)) | (obtain ⟨_, _, ha⟩ := ob_s ha; exact (go_nl ha).elim)
  case aload_n k =>
    replace ha : ldA (pc + 1) ls st h k.val = _ := ha
    unfold ldA at ha
    split at ha
    all_goals first | (cases ha; done) | (exact (go_nl ha).elim) | (split at ha <;> first | (cases ha; done) | (exact (go_nl ha).elim)) | (obtain ⟨_, _, ha⟩ := ob_s ha; exact (go_nl ha).elim)
  case aload k =>
    replace ha : ldA (pc + 2) ls st h k = _ := ha
    unfold ldA at ha
    split at ha
    all_goals first | (cases ha; done) | (exact (go_nl ha).elim) | (split at ha <;> first | (cases ha; done) | (exact (go_nl ha).elim)) | (obtain ⟨_, _, ha⟩ := ob_s ha; exact (go_nl ha).elim)
  case istore_n k =>
    replace ha : stI (pc + 1) ls st h k.val = _ := ha
    unfold stI at ha
    split at ha
    all_goals first | (cases ha; done) | (exact (go_nl ha).elim) | (split at ha <;> first | (cases ha; done) | (exact (go_nl ha).elim)) | (obtain ⟨_, _, ha⟩ := ob_s ha; exact (go_nl ha).elim)
  case istore k =>
    replace ha : stI (pc + 2) ls st h k = _ := ha
    unfold stI at ha
    split at ha
    all_goals first | (cases ha; done) | (exact (go_nl ha).elim) | (split at ha <;> first | (cases ha; done) | (exact (go_nl ha).elim)) | (obtain ⟨_, _, ha⟩ := ob_s ha; exact (go_nl ha).elim)
  case lstore_n k =>
    replace ha : stL (pc + 1) ls st h k.val = _ := ha
    unfold stL at ha
    split at ha
    all_goals first | (cases ha; done) | (exact (go_nl ha).elim) | (split at ha <;> first | (cases ha; done) | (exact (go_nl ha).elim)) | (obtain ⟨_, _, ha⟩ := ob_s ha; exact (go_nl ha).elim)
  case lstore k =>
    replace ha : stL (pc + 2) ls st h k = _ := ha
    unfold stL at ha
    split at ha
    all_goals first | (cases ha; done) | (exact (go_nl ha).elim) | (split at ha <;> first | (cases ha; done) | (exact (go_nl ha).elim)) | (obtain ⟨_, _, ha⟩ := ob_s ha; exact (go_nl ha).elim)
  case astore_n k =>
    replace ha : stA (pc + 1) ls st h k.val = _ := ha
    unfold stA at ha
    split at ha
    all_goals first | (cases ha; done) | (exact (go_nl ha).elim) | (split at ha <;> first | (cases ha; done) | (exact (go_nl ha).elim)) | (obtain ⟨_, _, ha⟩ := ob_s ha; exact (go_nl ha).elim)
  case astore k =>
    replace ha : stA (pc + 2) ls st h k = _ := ha
    unfold stA at ha
    split at ha
    all_goals first | (cases ha; done) | (exact (go_nl ha).elim) | (split at ha <;> first | (cases ha; done) | (exact (go_nl ha).elim)) | (obtain ⟨_, _, ha⟩ := ob_s ha; exact (go_nl ha).elim)
  case iadd =>
    replace ha : bi2 pc ls st h (fun x y => x + y) = _ := ha
    unfold bi2 at ha
    split at ha
    all_goals first | (cases ha; done) | (exact (go_nl ha).elim) | (split at ha <;> first | (cases ha; done) | (exact (go_nl ha).elim)) | (obtain ⟨_, _, ha⟩ := ob_s ha; exact (go_nl ha).elim)
  case isub =>
    replace ha : bi2 pc ls st h (fun x y => x - y) = _ := ha
    unfold bi2 at ha
    split at ha
    all_goals first | (cases ha; done) | (exact (go_nl ha).elim) | (split at ha <;> first | (cases ha; done) | (exact (go_nl ha).elim)) | (obtain ⟨_, _, ha⟩ := ob_s ha; exact (go_nl ha).elim)
  case imul =>
    replace ha : bi2 pc ls st h (fun x y => x * y) = _ := ha
    unfold bi2 at ha
    split at ha
    all_goals first | (cases ha; done) | (exact (go_nl ha).elim) | (split at ha <;> first | (cases ha; done) | (exact (go_nl ha).elim)) | (obtain ⟨_, _, ha⟩ := ob_s ha; exact (go_nl ha).elim)
  case iand =>
    replace ha : bi2 pc ls st h (fun x y => x &&& y) = _ := ha
    unfold bi2 at ha
    split at ha
    all_goals first | (cases ha; done) | (exact (go_nl ha).elim) | (split at ha <;> first | (cases ha; done) | (exact (go_nl ha).elim)) | (obtain ⟨_, _, ha⟩ := ob_s ha; exact (go_nl ha).elim)
  case ior =>
    replace ha : bi2 pc ls st h (fun x y => x ||| y) = _ := ha
    unfold bi2 at ha
    split at ha
    all_goals first | (cases ha; done) | (exact (go_nl ha).elim) | (split at ha <;> first | (cases ha; done) | (exact (go_nl ha).elim)) | (obtain ⟨_, _, ha⟩ := ob_s ha; exact (go_nl ha).elim)
  case ixor =>
    replace ha : bi2 pc ls st h (fun x y => x ^^^ y) = _ := ha
    unfold bi2 at ha
    split at ha
    all_goals first | (cases ha; done) | (exact (go_nl ha).elim) | (split at ha <;> first | (cases ha; done) | (exact (go_nl ha).elim)) | (obtain ⟨_, _, ha⟩ := ob_s ha; exact (go_nl ha).elim)
  case ishl =>
    replace ha : bi2 pc ls st h (fun x y => x <<< (y &&& 31)) = _ := ha
    unfold bi2 at ha
    split at ha
    all_goals first | (cases ha; done) | (exact (go_nl ha).elim) | (split at ha <;> first | (cases ha; done) | (exact (go_nl ha).elim)) | (obtain ⟨_, _, ha⟩ := ob_s ha; exact (go_nl ha).elim)
  case ishr =>
    replace ha : bi2 pc ls st h (fun x y => x >>> (y &&& 31)) = _ := ha
    unfold bi2 at ha
    split at ha
    all_goals first | (cases ha; done) | (exact (go_nl ha).elim) | (split at ha <;> first | (cases ha; done) | (exact (go_nl ha).elim)) | (obtain ⟨_, _, ha⟩ := ob_s ha; exact (go_nl ha).elim)
  case iushr =>
    replace ha : bi2 pc ls st h (fun x y => (x.toUInt32 >>> (y.toUInt32 &&& Int32.toUInt32 31)).toInt32) = _ := ha
    unfold bi2 at ha
    split at ha
    all_goals first | (cases ha; done) | (exact (go_nl ha).elim) | (split at ha <;> first | (cases ha; done) | (exact (go_nl ha).elim)) | (obtain ⟨_, _, ha⟩ := ob_s ha; exact (go_nl ha).elim)
  case ladd =>
    replace ha : bl2 pc ls st h (fun x y => x + y) = _ := ha
    unfold bl2 at ha
    split at ha
    all_goals first | (cases ha; done) | (exact (go_nl ha).elim) | (split at ha <;> first | (cases ha; done) | (exact (go_nl ha).elim)) | (obtain ⟨_, _, ha⟩ := ob_s ha; exact (go_nl ha).elim)
  case lmul =>
    replace ha : bl2 pc ls st h (fun x y => x * y) = _ := ha
    unfold bl2 at ha
    split at ha
    all_goals first | (cases ha; done) | (exact (go_nl ha).elim) | (split at ha <;> first | (cases ha; done) | (exact (go_nl ha).elim)) | (obtain ⟨_, _, ha⟩ := ob_s ha; exact (go_nl ha).elim)
  case ifCond cd off =>
    cases cd
    case eq =>
      replace ha : br1 pc ls st h off (fun x => decide (x = 0)) = _ := ha
      unfold br1 at ha
      split at ha
      all_goals first | (cases ha; done) | (obtain ⟨_, _, ha⟩ := ob_s ha; exact (go_nl ha).elim)
    case ne =>
      replace ha : br1 pc ls st h off (fun x => decide (¬ x = 0)) = _ := ha
      unfold br1 at ha
      split at ha
      all_goals first | (cases ha; done) | (obtain ⟨_, _, ha⟩ := ob_s ha; exact (go_nl ha).elim)
    case lt =>
      replace ha : br1 pc ls st h off (fun x => decide (x < 0)) = _ := ha
      unfold br1 at ha
      split at ha
      all_goals first | (cases ha; done) | (obtain ⟨_, _, ha⟩ := ob_s ha; exact (go_nl ha).elim)
    case ge =>
      replace ha : br1 pc ls st h off (fun x => decide (0 ≤ x)) = _ := ha
      unfold br1 at ha
      split at ha
      all_goals first | (cases ha; done) | (obtain ⟨_, _, ha⟩ := ob_s ha; exact (go_nl ha).elim)
    case gt =>
      replace ha : br1 pc ls st h off (fun x => decide (0 < x)) = _ := ha
      unfold br1 at ha
      split at ha
      all_goals first | (cases ha; done) | (obtain ⟨_, _, ha⟩ := ob_s ha; exact (go_nl ha).elim)
    case le =>
      replace ha : br1 pc ls st h off (fun x => decide (x ≤ 0)) = _ := ha
      unfold br1 at ha
      split at ha
      all_goals first | (cases ha; done) | (obtain ⟨_, _, ha⟩ := ob_s ha; exact (go_nl ha).elim)
  case if_icmp cd off =>
    cases cd
    case eq =>
      replace ha : br2 pc ls st h off (fun x y => decide (x = y)) = _ := ha
      unfold br2 at ha
      split at ha
      all_goals first | (cases ha; done) | (obtain ⟨_, _, ha⟩ := ob_s ha; exact (go_nl ha).elim)
    case ne =>
      replace ha : br2 pc ls st h off (fun x y => decide (¬ x = y)) = _ := ha
      unfold br2 at ha
      split at ha
      all_goals first | (cases ha; done) | (obtain ⟨_, _, ha⟩ := ob_s ha; exact (go_nl ha).elim)
    case lt =>
      replace ha : br2 pc ls st h off (fun x y => decide (x < y)) = _ := ha
      unfold br2 at ha
      split at ha
      all_goals first | (cases ha; done) | (obtain ⟨_, _, ha⟩ := ob_s ha; exact (go_nl ha).elim)
    case ge =>
      replace ha : br2 pc ls st h off (fun x y => decide (y ≤ x)) = _ := ha
      unfold br2 at ha
      split at ha
      all_goals first | (cases ha; done) | (obtain ⟨_, _, ha⟩ := ob_s ha; exact (go_nl ha).elim)
    case gt =>
      replace ha : br2 pc ls st h off (fun x y => decide (y < x)) = _ := ha
      unfold br2 at ha
      split at ha
      all_goals first | (cases ha; done) | (obtain ⟨_, _, ha⟩ := ob_s ha; exact (go_nl ha).elim)
    case le =>
      replace ha : br2 pc ls st h off (fun x y => decide (x ≤ y)) = _ := ha
      unfold br2 at ha
      split at ha
      all_goals first | (cases ha; done) | (obtain ⟨_, _, ha⟩ := ob_s ha; exact (go_nl ha).elim)
  case iinc k n =>
    replace ha : (match ls[k]? with | some (.int x) => go (pc + 3) (sto1 ls k (.int (x + Int32.ofInt n))) st h | _ => none) = _ := ha
    split at ha
    all_goals first | (cases ha; done) | (split at ha <;> first | (cases ha; done) | (exact (go_nl ha).elim)) | (exact (go_nl ha).elim) | (obtain ⟨_, _, ha⟩ := ob_s ha; first | (exact (go_nl ha).elim) | (obtain ⟨_, _, ha⟩ := ob_s ha; (exact (go_nl ha).elim))) | (split at ha <;> (obtain ⟨_, _, ha⟩ := ob_s ha; first | (exact (go_nl ha).elim) | (obtain ⟨_, _, ha⟩ := ob_s ha; (exact (go_nl ha).elim))))
  case idiv =>
    replace ha : (match st with | .int y :: .int x :: r => if y = 0 then none else go (pc + 1) ls (.int (x / y) :: r) h | _ => none) = _ := ha
    split at ha
    all_goals first | (cases ha; done) | (split at ha <;> first | (cases ha; done) | (exact (go_nl ha).elim)) | (exact (go_nl ha).elim) | (obtain ⟨_, _, ha⟩ := ob_s ha; first | (exact (go_nl ha).elim) | (obtain ⟨_, _, ha⟩ := ob_s ha; (exact (go_nl ha).elim))) | (split at ha <;> (obtain ⟨_, _, ha⟩ := ob_s ha; first | (exact (go_nl ha).elim) | (obtain ⟨_, _, ha⟩ := ob_s ha; (exact (go_nl ha).elim))))
  case irem =>
    replace ha : (match st with | .int y :: .int x :: r => if y = 0 then none else go (pc + 1) ls (.int (x - x / y * y) :: r) h | _ => none) = _ := ha
    split at ha
    all_goals first | (cases ha; done) | (split at ha <;> first | (cases ha; done) | (exact (go_nl ha).elim)) | (exact (go_nl ha).elim) | (obtain ⟨_, _, ha⟩ := ob_s ha; first | (exact (go_nl ha).elim) | (obtain ⟨_, _, ha⟩ := ob_s ha; (exact (go_nl ha).elim))) | (split at ha <;> (obtain ⟨_, _, ha⟩ := ob_s ha; first | (exact (go_nl ha).elim) | (obtain ⟨_, _, ha⟩ := ob_s ha; (exact (go_nl ha).elim))))
  case ldiv =>
    replace ha : (match st with | .long y :: .long x :: r => if y = 0 then none else go (pc + 1) ls (.long (x / y) :: r) h | _ => none) = _ := ha
    split at ha
    all_goals first | (cases ha; done) | (split at ha <;> first | (cases ha; done) | (exact (go_nl ha).elim)) | (exact (go_nl ha).elim) | (obtain ⟨_, _, ha⟩ := ob_s ha; first | (exact (go_nl ha).elim) | (obtain ⟨_, _, ha⟩ := ob_s ha; (exact (go_nl ha).elim))) | (split at ha <;> (obtain ⟨_, _, ha⟩ := ob_s ha; first | (exact (go_nl ha).elim) | (obtain ⟨_, _, ha⟩ := ob_s ha; (exact (go_nl ha).elim))))
  case lrem =>
    replace ha : (match st with | .long y :: .long x :: r => if y = 0 then none else go (pc + 1) ls (.long (x - x / y * y) :: r) h | _ => none) = _ := ha
    split at ha
    all_goals first | (cases ha; done) | (split at ha <;> first | (cases ha; done) | (exact (go_nl ha).elim)) | (exact (go_nl ha).elim) | (obtain ⟨_, _, ha⟩ := ob_s ha; first | (exact (go_nl ha).elim) | (obtain ⟨_, _, ha⟩ := ob_s ha; (exact (go_nl ha).elim))) | (split at ha <;> (obtain ⟨_, _, ha⟩ := ob_s ha; first | (exact (go_nl ha).elim) | (obtain ⟨_, _, ha⟩ := ob_s ha; (exact (go_nl ha).elim))))
  case ineg =>
    replace ha : (match st with | .int x :: r => go (pc + 1) ls (.int (-x) :: r) h | _ => none) = _ := ha
    split at ha
    all_goals first | (cases ha; done) | (split at ha <;> first | (cases ha; done) | (exact (go_nl ha).elim)) | (exact (go_nl ha).elim) | (obtain ⟨_, _, ha⟩ := ob_s ha; first | (exact (go_nl ha).elim) | (obtain ⟨_, _, ha⟩ := ob_s ha; (exact (go_nl ha).elim))) | (split at ha <;> (obtain ⟨_, _, ha⟩ := ob_s ha; first | (exact (go_nl ha).elim) | (obtain ⟨_, _, ha⟩ := ob_s ha; (exact (go_nl ha).elim))))
  case lcmp =>
    replace ha : (match st with | .long y :: .long x :: r => go (pc + 1) ls (.int (lg_cmp x y) :: r) h | _ => none) = _ := ha
    split at ha
    all_goals first | (cases ha; done) | (split at ha <;> first | (cases ha; done) | (exact (go_nl ha).elim)) | (exact (go_nl ha).elim) | (obtain ⟨_, _, ha⟩ := ob_s ha; first | (exact (go_nl ha).elim) | (obtain ⟨_, _, ha⟩ := ob_s ha; (exact (go_nl ha).elim))) | (split at ha <;> (obtain ⟨_, _, ha⟩ := ob_s ha; first | (exact (go_nl ha).elim) | (obtain ⟨_, _, ha⟩ := ob_s ha; (exact (go_nl ha).elim))))
  case i2l =>
    replace ha : (match st with | .int x :: r => go (pc + 1) ls (.long x.toInt64 :: r) h | _ => none) = _ := ha
    split at ha
    all_goals first | (cases ha; done) | (split at ha <;> first | (cases ha; done) | (exact (go_nl ha).elim)) | (exact (go_nl ha).elim) | (obtain ⟨_, _, ha⟩ := ob_s ha; first | (exact (go_nl ha).elim) | (obtain ⟨_, _, ha⟩ := ob_s ha; (exact (go_nl ha).elim))) | (split at ha <;> (obtain ⟨_, _, ha⟩ := ob_s ha; first | (exact (go_nl ha).elim) | (obtain ⟨_, _, ha⟩ := ob_s ha; (exact (go_nl ha).elim))))
  case l2i =>
    replace ha : (match st with | .long x :: r => go (pc + 1) ls (.int x.toInt32 :: r) h | _ => none) = _ := ha
    split at ha
    all_goals first | (cases ha; done) | (split at ha <;> first | (cases ha; done) | (exact (go_nl ha).elim)) | (exact (go_nl ha).elim) | (obtain ⟨_, _, ha⟩ := ob_s ha; first | (exact (go_nl ha).elim) | (obtain ⟨_, _, ha⟩ := ob_s ha; (exact (go_nl ha).elim))) | (split at ha <;> (obtain ⟨_, _, ha⟩ := ob_s ha; first | (exact (go_nl ha).elim) | (obtain ⟨_, _, ha⟩ := ob_s ha; (exact (go_nl ha).elim))))
  case i2b =>
    replace ha : (match st with | .int x :: r => go (pc + 1) ls (.int x.toInt8.toInt32 :: r) h | _ => none) = _ := ha
    split at ha
    all_goals first | (cases ha; done) | (split at ha <;> first | (cases ha; done) | (exact (go_nl ha).elim)) | (exact (go_nl ha).elim) | (obtain ⟨_, _, ha⟩ := ob_s ha; first | (exact (go_nl ha).elim) | (obtain ⟨_, _, ha⟩ := ob_s ha; (exact (go_nl ha).elim))) | (split at ha <;> (obtain ⟨_, _, ha⟩ := ob_s ha; first | (exact (go_nl ha).elim) | (obtain ⟨_, _, ha⟩ := ob_s ha; (exact (go_nl ha).elim))))
  case i2c =>
    replace ha : (match st with | .int x :: r => go (pc + 1) ls (.int (x.toUInt32 % 65536).toInt32 :: r) h | _ => none) = _ := ha
    split at ha
    all_goals first | (cases ha; done) | (split at ha <;> first | (cases ha; done) | (exact (go_nl ha).elim)) | (exact (go_nl ha).elim) | (obtain ⟨_, _, ha⟩ := ob_s ha; first | (exact (go_nl ha).elim) | (obtain ⟨_, _, ha⟩ := ob_s ha; (exact (go_nl ha).elim))) | (split at ha <;> (obtain ⟨_, _, ha⟩ := ob_s ha; first | (exact (go_nl ha).elim) | (obtain ⟨_, _, ha⟩ := ob_s ha; (exact (go_nl ha).elim))))
  case dup =>
    replace ha : (match st with | v :: r => if v.category = 1 then go (pc + 1) ls (v :: v :: r) h else none | _ => none) = _ := ha
    split at ha
    all_goals first | (cases ha; done) | (split at ha <;> first | (cases ha; done) | (exact (go_nl ha).elim)) | (exact (go_nl ha).elim) | (obtain ⟨_, _, ha⟩ := ob_s ha; first | (exact (go_nl ha).elim) | (obtain ⟨_, _, ha⟩ := ob_s ha; (exact (go_nl ha).elim))) | (split at ha <;> (obtain ⟨_, _, ha⟩ := ob_s ha; first | (exact (go_nl ha).elim) | (obtain ⟨_, _, ha⟩ := ob_s ha; (exact (go_nl ha).elim))))
  case pop =>
    replace ha : (match st with | v :: r => if v.category = 1 then go (pc + 1) ls (r) h else none | _ => none) = _ := ha
    split at ha
    all_goals first | (cases ha; done) | (split at ha <;> first | (cases ha; done) | (exact (go_nl ha).elim)) | (exact (go_nl ha).elim) | (obtain ⟨_, _, ha⟩ := ob_s ha; first | (exact (go_nl ha).elim) | (obtain ⟨_, _, ha⟩ := ob_s ha; (exact (go_nl ha).elim))) | (split at ha <;> (obtain ⟨_, _, ha⟩ := ob_s ha; first | (exact (go_nl ha).elim) | (obtain ⟨_, _, ha⟩ := ob_s ha; (exact (go_nl ha).elim))))
  case dup2 =>
    replace ha : (match st with | v :: w :: r => if v.category = 1 ∧ w.category = 1 then go (pc + 1) ls (v :: w :: v :: w :: r) h else none | _ => none) = _ := ha
    split at ha
    all_goals first | (cases ha; done) | (split at ha <;> first | (cases ha; done) | (exact (go_nl ha).elim)) | (exact (go_nl ha).elim) | (obtain ⟨_, _, ha⟩ := ob_s ha; first | (exact (go_nl ha).elim) | (obtain ⟨_, _, ha⟩ := ob_s ha; (exact (go_nl ha).elim))) | (split at ha <;> (obtain ⟨_, _, ha⟩ := ob_s ha; first | (exact (go_nl ha).elim) | (obtain ⟨_, _, ha⟩ := ob_s ha; (exact (go_nl ha).elim))))
  case ifnull off =>
    replace ha : (match st with | .null :: r => (tg pc off).bind (fun t => go t ls r h) | .ref _ :: r => go (pc + 3) ls r h | _ => none) = _ := ha
    split at ha
    all_goals first | (cases ha; done) | (split at ha <;> first | (cases ha; done) | (exact (go_nl ha).elim)) | (exact (go_nl ha).elim) | (obtain ⟨_, _, ha⟩ := ob_s ha; first | (exact (go_nl ha).elim) | (obtain ⟨_, _, ha⟩ := ob_s ha; (exact (go_nl ha).elim))) | (split at ha <;> (obtain ⟨_, _, ha⟩ := ob_s ha; first | (exact (go_nl ha).elim) | (obtain ⟨_, _, ha⟩ := ob_s ha; (exact (go_nl ha).elim))))
  case ifnonnull off =>
    replace ha : (match st with | .null :: r => go (pc + 3) ls r h | .ref _ :: r => (tg pc off).bind (fun t => go t ls r h) | _ => none) = _ := ha
    split at ha
    all_goals first | (cases ha; done) | (split at ha <;> first | (cases ha; done) | (exact (go_nl ha).elim)) | (exact (go_nl ha).elim) | (obtain ⟨_, _, ha⟩ := ob_s ha; first | (exact (go_nl ha).elim) | (obtain ⟨_, _, ha⟩ := ob_s ha; (exact (go_nl ha).elim))) | (split at ha <;> (obtain ⟨_, _, ha⟩ := ob_s ha; first | (exact (go_nl ha).elim) | (obtain ⟨_, _, ha⟩ := ob_s ha; (exact (go_nl ha).elim))))
  case tableswitch dflt lo hi0 offs =>
    replace ha : (match st with | .int x :: r => if x.toInt < lo ∨ hi0 < x.toInt then (tg pc dflt).bind (fun t => go t ls r h) else (offs[(x.toInt - lo).toNat]?).bind (fun off => (tg pc off).bind (fun t => go t ls r h)) | _ => none) = _ := ha
    split at ha
    all_goals first | (cases ha; done) | (split at ha <;> first | (cases ha; done) | (exact (go_nl ha).elim)) | (exact (go_nl ha).elim) | (obtain ⟨_, _, ha⟩ := ob_s ha; first | (exact (go_nl ha).elim) | (obtain ⟨_, _, ha⟩ := ob_s ha; (exact (go_nl ha).elim))) | (split at ha <;> (obtain ⟨_, _, ha⟩ := ob_s ha; first | (exact (go_nl ha).elim) | (obtain ⟨_, _, ha⟩ := ob_s ha; (exact (go_nl ha).elim))))
  case getfield k =>
    replace ha : (match st with | .ref a :: r => (lk (mi_fl m) k).bind (fun q => (gF h a q.1 q.2).bind (fun x => go (pc + 3) ls (x :: r) h)) | _ => none) = _ := ha
    split at ha
    all_goals first | (cases ha; done) | (split at ha <;> first | (cases ha; done) | (exact (go_nl ha).elim)) | (exact (go_nl ha).elim) | (obtain ⟨_, _, ha⟩ := ob_s ha; first | (exact (go_nl ha).elim) | (obtain ⟨_, _, ha⟩ := ob_s ha; (exact (go_nl ha).elim))) | (split at ha <;> (obtain ⟨_, _, ha⟩ := ob_s ha; first | (exact (go_nl ha).elim) | (obtain ⟨_, _, ha⟩ := ob_s ha; (exact (go_nl ha).elim))))
  case putfield k =>
    replace ha : (match st with | x :: .ref a :: r => (lk (mi_fl m) k).bind (fun q => (pF h a q.1 q.2 x).bind (fun h' => go (pc + 3) ls r h')) | _ => none) = _ := ha
    split at ha
    all_goals first | (cases ha; done) | (split at ha <;> first | (cases ha; done) | (exact (go_nl ha).elim)) | (exact (go_nl ha).elim) | (obtain ⟨_, _, ha⟩ := ob_s ha; first | (exact (go_nl ha).elim) | (obtain ⟨_, _, ha⟩ := ob_s ha; (exact (go_nl ha).elim))) | (split at ha <;> (obtain ⟨_, _, ha⟩ := ob_s ha; first | (exact (go_nl ha).elim) | (obtain ⟨_, _, ha⟩ := ob_s ha; (exact (go_nl ha).elim))))
  case iaload =>
    replace ha : (match st with | .int j :: .ref a :: r => (aI h 100 a j).bind (fun x => go (pc + 1) ls (.int x :: r) h) | _ => none) = _ := ha
    split at ha
    all_goals first | (cases ha; done) | (split at ha <;> first | (cases ha; done) | (exact (go_nl ha).elim)) | (exact (go_nl ha).elim) | (obtain ⟨_, _, ha⟩ := ob_s ha; first | (exact (go_nl ha).elim) | (obtain ⟨_, _, ha⟩ := ob_s ha; (exact (go_nl ha).elim))) | (split at ha <;> (obtain ⟨_, _, ha⟩ := ob_s ha; first | (exact (go_nl ha).elim) | (obtain ⟨_, _, ha⟩ := ob_s ha; (exact (go_nl ha).elim))))
  case baload =>
    replace ha : (match st with | .int j :: .ref a :: r => (aI h 101 a j).bind (fun x => go (pc + 1) ls (.int x :: r) h) | _ => none) = _ := ha
    split at ha
    all_goals first | (cases ha; done) | (split at ha <;> first | (cases ha; done) | (exact (go_nl ha).elim)) | (exact (go_nl ha).elim) | (obtain ⟨_, _, ha⟩ := ob_s ha; first | (exact (go_nl ha).elim) | (obtain ⟨_, _, ha⟩ := ob_s ha; (exact (go_nl ha).elim))) | (split at ha <;> (obtain ⟨_, _, ha⟩ := ob_s ha; first | (exact (go_nl ha).elim) | (obtain ⟨_, _, ha⟩ := ob_s ha; (exact (go_nl ha).elim))))
  case laload =>
    replace ha : (match st with | .int j :: .ref a :: r => (aL h a j).bind (fun x => go (pc + 1) ls (.long x :: r) h) | _ => none) = _ := ha
    split at ha
    all_goals first | (cases ha; done) | (split at ha <;> first | (cases ha; done) | (exact (go_nl ha).elim)) | (exact (go_nl ha).elim) | (obtain ⟨_, _, ha⟩ := ob_s ha; first | (exact (go_nl ha).elim) | (obtain ⟨_, _, ha⟩ := ob_s ha; (exact (go_nl ha).elim))) | (split at ha <;> (obtain ⟨_, _, ha⟩ := ob_s ha; first | (exact (go_nl ha).elim) | (obtain ⟨_, _, ha⟩ := ob_s ha; (exact (go_nl ha).elim))))
  case arraylength =>
    replace ha : (match st with | .ref a :: r => (aN h a).bind (fun x => go (pc + 1) ls (.int x :: r) h) | _ => none) = _ := ha
    split at ha
    all_goals first | (cases ha; done) | (split at ha <;> first | (cases ha; done) | (exact (go_nl ha).elim)) | (exact (go_nl ha).elim) | (obtain ⟨_, _, ha⟩ := ob_s ha; first | (exact (go_nl ha).elim) | (obtain ⟨_, _, ha⟩ := ob_s ha; (exact (go_nl ha).elim))) | (split at ha <;> (obtain ⟨_, _, ha⟩ := ob_s ha; first | (exact (go_nl ha).elim) | (obtain ⟨_, _, ha⟩ := ob_s ha; (exact (go_nl ha).elim))))
  case iastore =>
    replace ha : (match st with | .int x :: .int j :: .ref a :: r => (sI h 100 a j x).bind (fun h' => go (pc + 1) ls r h') | _ => none) = _ := ha
    split at ha
    all_goals first | (cases ha; done) | (split at ha <;> first | (cases ha; done) | (exact (go_nl ha).elim)) | (exact (go_nl ha).elim) | (obtain ⟨_, _, ha⟩ := ob_s ha; first | (exact (go_nl ha).elim) | (obtain ⟨_, _, ha⟩ := ob_s ha; (exact (go_nl ha).elim))) | (split at ha <;> (obtain ⟨_, _, ha⟩ := ob_s ha; first | (exact (go_nl ha).elim) | (obtain ⟨_, _, ha⟩ := ob_s ha; (exact (go_nl ha).elim))))
  case bastore =>
    replace ha : (match st with | .int x :: .int j :: .ref a :: r => (sI h 101 a j x.toInt8.toInt32).bind (fun h' => go (pc + 1) ls r h') | _ => none) = _ := ha
    split at ha
    all_goals first | (cases ha; done) | (split at ha <;> first | (cases ha; done) | (exact (go_nl ha).elim)) | (exact (go_nl ha).elim) | (obtain ⟨_, _, ha⟩ := ob_s ha; first | (exact (go_nl ha).elim) | (obtain ⟨_, _, ha⟩ := ob_s ha; (exact (go_nl ha).elim))) | (split at ha <;> (obtain ⟨_, _, ha⟩ := ob_s ha; first | (exact (go_nl ha).elim) | (obtain ⟨_, _, ha⟩ := ob_s ha; (exact (go_nl ha).elim))))
  case lastore =>
    replace ha : (match st with | .long x :: .int j :: .ref a :: r => (sL h a j x).bind (fun h' => go (pc + 1) ls r h') | _ => none) = _ := ha
    split at ha
    all_goals first | (cases ha; done) | (split at ha <;> first | (cases ha; done) | (exact (go_nl ha).elim)) | (exact (go_nl ha).elim) | (obtain ⟨_, _, ha⟩ := ob_s ha; first | (exact (go_nl ha).elim) | (obtain ⟨_, _, ha⟩ := ob_s ha; (exact (go_nl ha).elim))) | (split at ha <;> (obtain ⟨_, _, ha⟩ := ob_s ha; first | (exact (go_nl ha).elim) | (obtain ⟨_, _, ha⟩ := ob_s ha; (exact (go_nl ha).elim))))
  case newarray ty =>
    cases ty
    case int =>
      replace ha : (match st with | .int n :: r => (nA h 100 n).bind (fun q => go (pc + 2) ls (.ref q.1 :: r) q.2) | _ => none) = _ := ha
      split at ha
      all_goals first | (cases ha; done) | (obtain ⟨_, _, ha⟩ := ob_s ha; exact (go_nl ha).elim)
    case byte =>
      replace ha : (match st with | .int n :: r => (nA h 101 n).bind (fun q => go (pc + 2) ls (.ref q.1 :: r) q.2) | _ => none) = _ := ha
      split at ha
      all_goals first | (cases ha; done) | (obtain ⟨_, _, ha⟩ := ob_s ha; exact (go_nl ha).elim)
    case long =>
      replace ha : (match st with | .int n :: r => (nA h 102 n).bind (fun q => go (pc + 2) ls (.ref q.1 :: r) q.2) | _ => none) = _ := ha
      split at ha
      all_goals first | (cases ha; done) | (obtain ⟨_, _, ha⟩ := ob_s ha; exact (go_nl ha).elim)
    all_goals (replace ha : (match st with | .int n :: r => (none : Option Ac) | _ => none) = _ := ha; split at ha <;> cases ha)
  case goto off =>
    obtain ⟨t, ht, ha⟩ := ob_s (show (tg pc off).bind (fun t => go t ls st h) = _ from ha)
    exact (go_nl ha).elim
  case ldc k =>
    obtain ⟨v, hv, ha⟩ := ob_s (show (lk (mi_kl m) k).bind (fun v => go (pc + 2) ls (v :: st) h) = _ from ha)
    exact (go_nl ha).elim
  case ldc_w k =>
    obtain ⟨v, hv, ha⟩ := ob_s (show (lk (mi_kl m) k).bind (fun v => go (pc + 3) ls (v :: st) h) = _ from ha)
    exact (go_nl ha).elim
  case ldc2_w k =>
    obtain ⟨v, hv, ha⟩ := ob_s (show (lk (mi_kl m) k).bind (fun v => go (pc + 3) ls (v :: st) h) = _ from ha)
    exact (go_nl ha).elim
  case getstatic k =>
    obtain ⟨v, hv, ha⟩ := ob_s (show (lk (mi_kl m) k).bind (fun v => go (pc + 3) ls (v :: st) h) = _ from ha)
    exact (go_nl ha).elim
  case new k =>
    replace ha := ob_s (show (lk (mi_nl m) k).bind _ = _ from ha)
    obtain ⟨ci, hq, ha⟩ := ha
    by_cases h60 : ci = 60
    · rw [if_pos h60] at ha
      split at ha
      next hs =>
        cases ha
        subst h60
        exact Or.inr (Or.inr (Or.inr (Or.inr ⟨k, rfl, hq, hs.1, hs.2, rfl, rfl⟩)))
      next => cases ha
    · rw [if_neg h60] at ha
      obtain ⟨q, hv, ha⟩ := ob_s ha
      exact (go_nl ha).elim
  case invokevirtual k =>
    replace ha := ob_s (show (lk (mi_ml m) k).bind _ = _ from ha)
    obtain ⟨q, hq, ha⟩ := ha
    obtain ⟨mq, hm, ha⟩ := ob_s ha
    split at ha
    · exact (cal_nl ha).elim
    · cases ha
  case invokespecial k =>
    replace ha := ob_s (show (lk (mi_ml m) k).bind _ = _ from ha)
    obtain ⟨q, hq, ha⟩ := ha
    by_cases h1 : q.1 = 1000
    · rw [if_pos h1] at ha
      split at ha
      · split at ha
        · exact (go_nl ha).elim
        · cases ha
      · cases ha
    · rw [if_neg h1] at ha
      obtain ⟨mq, hm, ha⟩ := ob_s ha
      split at ha
      · exact (cal_nl ha).elim
      · cases ha
  case invokestatic k =>
    replace ha := ob_s (show (lk (mi_ml m) k).bind _ = _ from ha)
    obtain ⟨q, hq, ha⟩ := ha
    by_cases h1 : q.1 = 1001
    · rw [if_pos h1] at ha
      split at ha
      · split at ha
        · obtain ⟨h2, hv, ha⟩ := ob_s ha
          exact (go_nl ha).elim
        · cases ha
      · cases ha
    · rw [if_neg h1] at ha
      split at ha
      · exact (cal_nl ha).elim
      · cases ha
  case ireturn =>
    replace ha : (match st with | [.int v] => if (mi_rt m).any (fun t => retV t v) = true then (some (.inl (some (.int v), h)) : Option Ac) else none | _ => none) = _ := ha
    split at ha
    next v =>
      split at ha
      next hv => cases ha; exact Or.inl ⟨rfl, rfl, v, rfl, rfl, hv⟩
      next => cases ha
    next => cases ha
  case lreturn =>
    replace ha : (match st with | [.long v] => if mi_rt m = some FieldType.long then (some (.inl (some (.long v), h)) : Option Ac) else none | _ => none) = _ := ha
    split at ha
    next v =>
      split at ha
      next hv => cases ha; exact Or.inr (Or.inl ⟨rfl, rfl, v, rfl, rfl, hv⟩)
      next => cases ha
    next => cases ha
  case areturn =>
    replace ha : (match st with | [.ref v] => if (mi_rt m).any (fun t => tk t == 3) = true then (some (.inl (some (.ref v), h)) : Option Ac) else none | _ => none) = _ := ha
    split at ha
    next v =>
      split at ha
      next hv => cases ha; exact Or.inr (Or.inr (Or.inl ⟨rfl, rfl, v, rfl, rfl, hv⟩))
      next => cases ha
    next => cases ha
  case return_ =>
    replace ha : (match st with | [] => if mi_rt m = none then (some (.inl (none, h)) : Option Ac) else none | _ => none) = _ := ha
    split at ha
    next =>
      split at ha
      next hv => cases ha; exact Or.inr (Or.inr (Or.inr (Or.inl ⟨rfl, rfl, rfl, rfl, hv⟩)))
      next => cases ha
    next => cases ha
  all_goals (exfalso; revert ha; first | (intro ha; cases ha; done) | (show (match st with | [.int v] => _ | _ => none) = _ → False; intro ha; split at ha <;> (try split at ha) <;> cases ha) | (show (match st with | [.long v] => _ | _ => none) = _ → False; intro ha; split at ha <;> (try split at ha) <;> cases ha) | (show (match st with | [.ref v] => _ | _ => none) = _ → False; intro ha; split at ha <;> (try split at ha) <;> cases ha) | (show (match st with | [] => _ | _ => none) = _ → False; intro ha; split at ha <;> (try split at ha) <;> cases ha))
set_option maxHeartbeats 4000000 in
theorem call_inv {m : MI} {i : Instr} {pc kq pc2 : Nat} {ls st as ls2 rest : List Value} {h : Hp} (ha : act2 P m i pc ls st h = some (.inr (.inr (kq, as, pc2, ls2, rest)))) : (∃ k q mq, i = .invokevirtual k ∧ lk (mi_ml m) k = some q ∧ q.1 = kq ∧ P[q.1]? = some mq ∧ isC h (st[mi_np mq - 1]?) q.2 = true ∧ 0 < mi_np mq ∧ q.2 < 100 ∧ CalR mq pc ls st as pc2 ls2 rest) ∨ (∃ k q mq, i = .invokespecial k ∧ lk (mi_ml m) k = some q ∧ q.1 = kq ∧ ¬ q.1 = 1000 ∧ P[q.1]? = some mq ∧ isR (st[mi_np mq - 1]?) = true ∧ 0 < mi_np mq ∧ (q.2 = 201 ∨ q.2 = 202) ∧ CalR mq pc ls st as pc2 ls2 rest) ∨ (∃ k q mq, i = .invokestatic k ∧ lk (mi_ml m) k = some q ∧ q.1 = kq ∧ ¬ q.1 = 1001 ∧ P[q.1]? = some mq ∧ q.2 = 200 ∧ CalR mq pc ls st as pc2 ls2 rest) := by
  cases i
  case iconst n =>
    exact (go_nc (show go (pc + 1) ls (.int (Int32.ofInt n) :: st) h = _ from ha)).elim
  case bipush n =>
    exact (go_nc (show go (pc + 2) ls (.int (Int8.ofInt n).toInt32 :: st) h = _ from ha)).elim
  case sipush n =>
    exact (go_nc (show go (pc + 3) ls (.int (Int16.ofInt n).toInt32 :: st) h = _ from ha)).elim
  case lconst n =>
    exact (go_nc (show go (pc + 1) ls (.long (Int64.ofNat n.val) :: st) h = _ from ha)).elim
  case iload_n k =>
    replace ha : ldI (pc + 1) ls st h k.val = _ := ha
    unfold ldI at ha
    split at ha
    all_goals first | (cases ha; done) | (exact (go_nc ha).elim) | (split at ha <;> first | (cases ha; done) | (exact (go_nc ha).elim)) | (obtain ⟨_, _, ha⟩ := ob_s ha; exact (go_nc ha).elim)
  case iload k =>
    replace ha : ldI (pc + 2) ls st h k = _ := ha
    unfold ldI at ha
    split at ha
    all_goals first | (cases ha; done) | (exact (go_nc ha).elim) | (split at ha <;> first | (cases ha; done) | (exact (go_nc ha).elim)) | (obtain ⟨_, _, ha⟩ := ob_s ha; exact (go_nc ha).elim)
  case lload_n k =>
    replace ha : ldL (pc + 1) ls st h k.val = _ := ha
    unfold ldL at ha
    split at ha
    all_goals first | (cases ha; done) | (exact (go_nc ha).elim) | (split at ha <;> first | (cases ha; done) | (exact (go_nc ha).elim)) | (obtain ⟨_, _, ha⟩ := ob_s ha; exact (go_nc ha).elim)
  case lload k =>
    replace ha : ldL (pc + 2) ls st h k = _ := ha
    unfold ldL at ha
    split at ha
    all_goals first | (cases ha; done) | (exact (go_nc ha).elim) | (split at ha <;> first | (cases ha; done) | (exact (go_nc ha).elim)) | (obtain ⟨_, _, ha⟩ := ob_s ha; exact (go_nc ha).elim)
  case aload_n k =>
    replace ha : ldA (pc + 1) ls st h k.val = _ := ha
    unfold ldA at ha
    split at ha
    all_goals first | (cases ha; done) | (exact (go_nc ha).elim) | (split at ha <;> first | (cases ha; done) | (exact (go_nc ha).elim)) | (obtain ⟨_, _, ha⟩ := ob_s ha; exact (go_nc ha).elim)
  case aload k =>
    replace ha : ldA (pc + 2) ls st h k = _ := ha
    unfold ldA at ha
    split at ha
    all_goals first | (cases ha; done) | (exact (go_nc ha).elim) | (split at ha <;> first | (cases ha; done) | (exact (go_nc ha).elim)) | (obtain ⟨_, _, ha⟩ := ob_s ha; exact (go_nc ha).elim)
  case istore_n k =>
    replace ha : stI (pc + 1) ls st h k.val = _ := ha
    unfold stI at ha
    split at ha
    all_goals first | (cases ha; done) | (exact (go_nc ha).elim) | (split at ha <;> first | (cases ha; done) | (exact (go_nc ha).elim)) | (obtain ⟨_, _, ha⟩ := ob_s ha; exact (go_nc ha).elim)
  case istore k =>
    replace ha : stI (pc + 2) ls st h k = _ := ha
    unfold stI at ha
    split at ha
    all_goals first | (cases ha; done) | (exact (go_nc ha).elim) | (split at ha <;> first | (cases ha; done) | (exact (go_nc ha).elim)) | (obtain ⟨_, _, ha⟩ := ob_s ha; exact (go_nc ha).elim)
  case lstore_n k =>
    replace ha : stL (pc + 1) ls st h k.val = _ := ha
    unfold stL at ha
    split at ha
    all_goals first | (cases ha; done) | (exact (go_nc ha).elim) | (split at ha <;> first | (cases ha; done) | (exact (go_nc ha).elim)) | (obtain ⟨_, _, ha⟩ := ob_s ha; exact (go_nc ha).elim)
  case lstore k =>
    replace ha : stL (pc + 2) ls st h k = _ := ha
    unfold stL at ha
    split at ha
    all_goals first | (cases ha; done) | (exact (go_nc ha).elim) | (split at ha <;> first | (cases ha; done) | (exact (go_nc ha).elim)) | (obtain ⟨_, _, ha⟩ := ob_s ha; exact (go_nc ha).elim)
  case astore_n k =>
    replace ha : stA (pc + 1) ls st h k.val = _ := ha
    unfold stA at ha
    split at ha
    all_goals first | (cases ha; done) | (exact (go_nc ha).elim) | (split at ha <;> first | (cases ha; done) | (exact (go_nc ha).elim)) | (obtain ⟨_, _, ha⟩ := ob_s ha; exact (go_nc ha).elim)
  case astore k =>
    replace ha : stA (pc + 2) ls st h k = _ := ha
    unfold stA at ha
    split at ha
    all_goals first | (cases ha; done) | (exact (go_nc ha).elim) | (split at ha <;> first | (cases ha; done) | (exact (go_nc ha).elim)) | (obtain ⟨_, _, ha⟩ := ob_s ha; exact (go_nc ha).elim)
  case iadd =>
    replace ha : bi2 pc ls st h (fun x y => x + y) = _ := ha
    unfold bi2 at ha
    split at ha
    all_goals first | (cases ha; done) | (exact (go_nc ha).elim) | (split at ha <;> first | (cases ha; done) | (exact (go_nc ha).elim)) | (obtain ⟨_, _, ha⟩ := ob_s ha; exact (go_nc ha).elim)
  case isub =>
    replace ha : bi2 pc ls st h (fun x y => x - y) = _ := ha
    unfold bi2 at ha
    split at ha
    all_goals first | (cases ha; done) | (exact (go_nc ha).elim) | (split at ha <;> first | (cases ha; done) | (exact (go_nc ha).elim)) | (obtain ⟨_, _, ha⟩ := ob_s ha; exact (go_nc ha).elim)
  case imul =>
    replace ha : bi2 pc ls st h (fun x y => x * y) = _ := ha
    unfold bi2 at ha
    split at ha
    all_goals first | (cases ha; done) | (exact (go_nc ha).elim) | (split at ha <;> first | (cases ha; done) | (exact (go_nc ha).elim)) | (obtain ⟨_, _, ha⟩ := ob_s ha; exact (go_nc ha).elim)
  case iand =>
    replace ha : bi2 pc ls st h (fun x y => x &&& y) = _ := ha
    unfold bi2 at ha
    split at ha
    all_goals first | (cases ha; done) | (exact (go_nc ha).elim) | (split at ha <;> first | (cases ha; done) | (exact (go_nc ha).elim)) | (obtain ⟨_, _, ha⟩ := ob_s ha; exact (go_nc ha).elim)
  case ior =>
    replace ha : bi2 pc ls st h (fun x y => x ||| y) = _ := ha
    unfold bi2 at ha
    split at ha
    all_goals first | (cases ha; done) | (exact (go_nc ha).elim) | (split at ha <;> first | (cases ha; done) | (exact (go_nc ha).elim)) | (obtain ⟨_, _, ha⟩ := ob_s ha; exact (go_nc ha).elim)
  case ixor =>
    replace ha : bi2 pc ls st h (fun x y => x ^^^ y) = _ := ha
    unfold bi2 at ha
    split at ha
    all_goals first | (cases ha; done) | (exact (go_nc ha).elim) | (split at ha <;> first | (cases ha; done) | (exact (go_nc ha).elim)) | (obtain ⟨_, _, ha⟩ := ob_s ha; exact (go_nc ha).elim)
  case ishl =>
    replace ha : bi2 pc ls st h (fun x y => x <<< (y &&& 31)) = _ := ha
    unfold bi2 at ha
    split at ha
    all_goals first | (cases ha; done) | (exact (go_nc ha).elim) | (split at ha <;> first | (cases ha; done) | (exact (go_nc ha).elim)) | (obtain ⟨_, _, ha⟩ := ob_s ha; exact (go_nc ha).elim)
  case ishr =>
    replace ha : bi2 pc ls st h (fun x y => x >>> (y &&& 31)) = _ := ha
    unfold bi2 at ha
    split at ha
    all_goals first | (cases ha; done) | (exact (go_nc ha).elim) | (split at ha <;> first | (cases ha; done) | (exact (go_nc ha).elim)) | (obtain ⟨_, _, ha⟩ := ob_s ha; exact (go_nc ha).elim)
  case iushr =>
    replace ha : bi2 pc ls st h (fun x y => (x.toUInt32 >>> (y.toUInt32 &&& Int32.toUInt32 31)).toInt32) = _ := ha
    unfold bi2 at ha
    split at ha
    all_goals first | (cases ha; done) | (exact (go_nc ha).elim) | (split at ha <;> first | (cases ha; done) | (exact (go_nc ha).elim)) | (obtain ⟨_, _, ha⟩ := ob_s ha; exact (go_nc ha).elim)
  case ladd =>
    replace ha : bl2 pc ls st h (fun x y => x + y) = _ := ha
    unfold bl2 at ha
    split at ha
    all_goals first | (cases ha; done) | (exact (go_nc ha).elim) | (split at ha <;> first | (cases ha; done) | (exact (go_nc ha).elim)) | (obtain ⟨_, _, ha⟩ := ob_s ha; exact (go_nc ha).elim)
  case lmul =>
    replace ha : bl2 pc ls st h (fun x y => x * y) = _ := ha
    unfold bl2 at ha
    split at ha
    all_goals first | (cases ha; done) | (exact (go_nc ha).elim) | (split at ha <;> first | (cases ha; done) | (exact (go_nc ha).elim)) | (obtain ⟨_, _, ha⟩ := ob_s ha; exact (go_nc ha).elim)
  case ifCond cd off =>
    cases cd
    case eq =>
      replace ha : br1 pc ls st h off (fun x => decide (x = 0)) = _ := ha
      unfold br1 at ha
      split at ha
      all_goals first | (cases ha; done) | (obtain ⟨_, _, ha⟩ := ob_s ha; exact (go_nc ha).elim)
    case ne =>
      replace ha : br1 pc ls st h off (fun x => decide (¬ x = 0)) = _ := ha
      unfold br1 at ha
      split at ha
      all_goals first | (cases ha; done) | (obtain ⟨_, _, ha⟩ := ob_s ha; exact (go_nc ha).elim)
    case lt =>
      replace ha : br1 pc ls st h off (fun x => decide (x < 0)) = _ := ha
      unfold br1 at ha
      split at ha
      all_goals first | (cases ha; done) | (obtain ⟨_, _, ha⟩ := ob_s ha; exact (go_nc ha).elim)
    case ge =>
      replace ha : br1 pc ls st h off (fun x => decide (0 ≤ x)) = _ := ha
      unfold br1 at ha
      split at ha
      all_goals first | (cases ha; done) | (obtain ⟨_, _, ha⟩ := ob_s ha; exact (go_nc ha).elim)
    case gt =>
      replace ha : br1 pc ls st h off (fun x => decide (0 < x)) = _ := ha
      unfold br1 at ha
      split at ha
      all_goals first | (cases ha; done) | (obtain ⟨_, _, ha⟩ := ob_s ha; exact (go_nc ha).elim)
    case le =>
      replace ha : br1 pc ls st h off (fun x => decide (x ≤ 0)) = _ := ha
      unfold br1 at ha
      split at ha
      all_goals first | (cases ha; done) | (obtain ⟨_, _, ha⟩ := ob_s ha; exact (go_nc ha).elim)
  case if_icmp cd off =>
    cases cd
    case eq =>
      replace ha : br2 pc ls st h off (fun x y => decide (x = y)) = _ := ha
      unfold br2 at ha
      split at ha
      all_goals first | (cases ha; done) | (obtain ⟨_, _, ha⟩ := ob_s ha; exact (go_nc ha).elim)
    case ne =>
      replace ha : br2 pc ls st h off (fun x y => decide (¬ x = y)) = _ := ha
      unfold br2 at ha
      split at ha
      all_goals first | (cases ha; done) | (obtain ⟨_, _, ha⟩ := ob_s ha; exact (go_nc ha).elim)
    case lt =>
      replace ha : br2 pc ls st h off (fun x y => decide (x < y)) = _ := ha
      unfold br2 at ha
      split at ha
      all_goals first | (cases ha; done) | (obtain ⟨_, _, ha⟩ := ob_s ha; exact (go_nc ha).elim)
    case ge =>
      replace ha : br2 pc ls st h off (fun x y => decide (y ≤ x)) = _ := ha
      unfold br2 at ha
      split at ha
      all_goals first | (cases ha; done) | (obtain ⟨_, _, ha⟩ := ob_s ha; exact (go_nc ha).elim)
    case gt =>
      replace ha : br2 pc ls st h off (fun x y => decide (y < x)) = _ := ha
      unfold br2 at ha
      split at ha
      all_goals first | (cases ha; done) | (obtain ⟨_, _, ha⟩ := ob_s ha; exact (go_nc ha).elim)
    case le =>
      replace ha : br2 pc ls st h off (fun x y => decide (x ≤ y)) = _ := ha
      unfold br2 at ha
      split at ha
      all_goals first | (cases ha; done) | (obtain ⟨_, _, ha⟩ := ob_s ha; exact (go_nc ha).elim)
  case iinc k n =>
    replace ha : (match ls[k]? with | some (.int x) => go (pc + 3) (sto1 ls k (.int (x + Int32.ofInt n))) st h | _ => none) = _ := ha
    split at ha
    all_goals first | (cases ha; done) | (split at ha <;> first | (cases ha; done) | (exact (go_nc ha).elim)) | (exact (go_nc ha).elim) | (obtain ⟨_, _, ha⟩ := ob_s ha; first | (exact (go_nc ha).elim) | (obtain ⟨_, _, ha⟩ := ob_s ha; (exact (go_nc ha).elim))) | (split at ha <;> (obtain ⟨_, _, ha⟩ := ob_s ha; first | (exact (go_nc ha).elim) | (obtain ⟨_, _, ha⟩ := ob_s ha; (exact (go_nc ha).elim))))
  case idiv =>
    replace ha : (match st with | .int y :: .int x :: r => if y = 0 then none else go (pc + 1) ls (.int (x / y) :: r) h | _ => none) = _ := ha
    split at ha
    all_goals first | (cases ha; done) | (split at ha <;> first | (cases ha; done) | (exact (go_nc ha).elim)) | (exact (go_nc ha).elim) | (obtain ⟨_, _, ha⟩ := ob_s ha; first | (exact (go_nc ha).elim) | (obtain ⟨_, _, ha⟩ := ob_s ha; (exact (go_nc ha).elim))) | (split at ha <;> (obtain ⟨_, _, ha⟩ := ob_s ha; first | (exact (go_nc ha).elim) | (obtain ⟨_, _, ha⟩ := ob_s ha; (exact (go_nc ha).elim))))
  case irem =>
    replace ha : (match st with | .int y :: .int x :: r => if y = 0 then none else go (pc + 1) ls (.int (x - x / y * y) :: r) h | _ => none) = _ := ha
    split at ha
    all_goals first | (cases ha; done) | (split at ha <;> first | (cases ha; done) | (exact (go_nc ha).elim)) | (exact (go_nc ha).elim) | (obtain ⟨_, _, ha⟩ := ob_s ha; first | (exact (go_nc ha).elim) | (obtain ⟨_, _, ha⟩ := ob_s ha; (exact (go_nc ha).elim))) | (split at ha <;> (obtain ⟨_, _, ha⟩ := ob_s ha; first | (exact (go_nc ha).elim) | (obtain ⟨_, _, ha⟩ := ob_s ha; (exact (go_nc ha).elim))))
  case ldiv =>
    replace ha : (match st with | .long y :: .long x :: r => if y = 0 then none else go (pc + 1) ls (.long (x / y) :: r) h | _ => none) = _ := ha
    split at ha
    all_goals first | (cases ha; done) | (split at ha <;> first | (cases ha; done) | (exact (go_nc ha).elim)) | (exact (go_nc ha).elim) | (obtain ⟨_, _, ha⟩ := ob_s ha; first | (exact (go_nc ha).elim) | (obtain ⟨_, _, ha⟩ := ob_s ha; (exact (go_nc ha).elim))) | (split at ha <;> (obtain ⟨_, _, ha⟩ := ob_s ha; first | (exact (go_nc ha).elim) | (obtain ⟨_, _, ha⟩ := ob_s ha; (exact (go_nc ha).elim))))
  case lrem =>
    replace ha : (match st with | .long y :: .long x :: r => if y = 0 then none else go (pc + 1) ls (.long (x - x / y * y) :: r) h | _ => none) = _ := ha
    split at ha
    all_goals first | (cases ha; done) | (split at ha <;> first | (cases ha; done) | (exact (go_nc ha).elim)) | (exact (go_nc ha).elim) | (obtain ⟨_, _, ha⟩ := ob_s ha; first | (exact (go_nc ha).elim) | (obtain ⟨_, _, ha⟩ := ob_s ha; (exact (go_nc ha).elim))) | (split at ha <;> (obtain ⟨_, _, ha⟩ := ob_s ha; first | (exact (go_nc ha).elim) | (obtain ⟨_, _, ha⟩ := ob_s ha; (exact (go_nc ha).elim))))
  case ineg =>
    replace ha : (match st with | .int x :: r => go (pc + 1) ls (.int (-x) :: r) h | _ => none) = _ := ha
    split at ha
    all_goals first | (cases ha; done) | (split at ha <;> first | (cases ha; done) | (exact (go_nc ha).elim)) | (exact (go_nc ha).elim) | (obtain ⟨_, _, ha⟩ := ob_s ha; first | (exact (go_nc ha).elim) | (obtain ⟨_, _, ha⟩ := ob_s ha; (exact (go_nc ha).elim))) | (split at ha <;> (obtain ⟨_, _, ha⟩ := ob_s ha; first | (exact (go_nc ha).elim) | (obtain ⟨_, _, ha⟩ := ob_s ha; (exact (go_nc ha).elim))))
  case lcmp =>
    replace ha : (match st with | .long y :: .long x :: r => go (pc + 1) ls (.int (lg_cmp x y) :: r) h | _ => none) = _ := ha
    split at ha
    all_goals first | (cases ha; done) | (split at ha <;> first | (cases ha; done) | (exact (go_nc ha).elim)) | (exact (go_nc ha).elim) | (obtain ⟨_, _, ha⟩ := ob_s ha; first | (exact (go_nc ha).elim) | (obtain ⟨_, _, ha⟩ := ob_s ha; (exact (go_nc ha).elim))) | (split at ha <;> (obtain ⟨_, _, ha⟩ := ob_s ha; first | (exact (go_nc ha).elim) | (obtain ⟨_, _, ha⟩ := ob_s ha; (exact (go_nc ha).elim))))
  case i2l =>
    replace ha : (match st with | .int x :: r => go (pc + 1) ls (.long x.toInt64 :: r) h | _ => none) = _ := ha
    split at ha
    all_goals first | (cases ha; done) | (split at ha <;> first | (cases ha; done) | (exact (go_nc ha).elim)) | (exact (go_nc ha).elim) | (obtain ⟨_, _, ha⟩ := ob_s ha; first | (exact (go_nc ha).elim) | (obtain ⟨_, _, ha⟩ := ob_s ha; (exact (go_nc ha).elim))) | (split at ha <;> (obtain ⟨_, _, ha⟩ := ob_s ha; first | (exact (go_nc ha).elim) | (obtain ⟨_, _, ha⟩ := ob_s ha; (exact (go_nc ha).elim))))
  case l2i =>
    replace ha : (match st with | .long x :: r => go (pc + 1) ls (.int x.toInt32 :: r) h | _ => none) = _ := ha
    split at ha
    all_goals first | (cases ha; done) | (split at ha <;> first | (cases ha; done) | (exact (go_nc ha).elim)) | (exact (go_nc ha).elim) | (obtain ⟨_, _, ha⟩ := ob_s ha; first | (exact (go_nc ha).elim) | (obtain ⟨_, _, ha⟩ := ob_s ha; (exact (go_nc ha).elim))) | (split at ha <;> (obtain ⟨_, _, ha⟩ := ob_s ha; first | (exact (go_nc ha).elim) | (obtain ⟨_, _, ha⟩ := ob_s ha; (exact (go_nc ha).elim))))
  case i2b =>
    replace ha : (match st with | .int x :: r => go (pc + 1) ls (.int x.toInt8.toInt32 :: r) h | _ => none) = _ := ha
    split at ha
    all_goals first | (cases ha; done) | (split at ha <;> first | (cases ha; done) | (exact (go_nc ha).elim)) | (exact (go_nc ha).elim) | (obtain ⟨_, _, ha⟩ := ob_s ha; first | (exact (go_nc ha).elim) | (obtain ⟨_, _, ha⟩ := ob_s ha; (exact (go_nc ha).elim))) | (split at ha <;> (obtain ⟨_, _, ha⟩ := ob_s ha; first | (exact (go_nc ha).elim) | (obtain ⟨_, _, ha⟩ := ob_s ha; (exact (go_nc ha).elim))))
  case i2c =>
    replace ha : (match st with | .int x :: r => go (pc + 1) ls (.int (x.toUInt32 % 65536).toInt32 :: r) h | _ => none) = _ := ha
    split at ha
    all_goals first | (cases ha; done) | (split at ha <;> first | (cases ha; done) | (exact (go_nc ha).elim)) | (exact (go_nc ha).elim) | (obtain ⟨_, _, ha⟩ := ob_s ha; first | (exact (go_nc ha).elim) | (obtain ⟨_, _, ha⟩ := ob_s ha; (exact (go_nc ha).elim))) | (split at ha <;> (obtain ⟨_, _, ha⟩ := ob_s ha; first | (exact (go_nc ha).elim) | (obtain ⟨_, _, ha⟩ := ob_s ha; (exact (go_nc ha).elim))))
  case dup =>
    replace ha : (match st with | v :: r => if v.category = 1 then go (pc + 1) ls (v :: v :: r) h else none | _ => none) = _ := ha
    split at ha
    all_goals first | (cases ha; done) | (split at ha <;> first | (cases ha; done) | (exact (go_nc ha).elim)) | (exact (go_nc ha).elim) | (obtain ⟨_, _, ha⟩ := ob_s ha; first | (exact (go_nc ha).elim) | (obtain ⟨_, _, ha⟩ := ob_s ha; (exact (go_nc ha).elim))) | (split at ha <;> (obtain ⟨_, _, ha⟩ := ob_s ha; first | (exact (go_nc ha).elim) | (obtain ⟨_, _, ha⟩ := ob_s ha; (exact (go_nc ha).elim))))
  case pop =>
    replace ha : (match st with | v :: r => if v.category = 1 then go (pc + 1) ls (r) h else none | _ => none) = _ := ha
    split at ha
    all_goals first | (cases ha; done) | (split at ha <;> first | (cases ha; done) | (exact (go_nc ha).elim)) | (exact (go_nc ha).elim) | (obtain ⟨_, _, ha⟩ := ob_s ha; first | (exact (go_nc ha).elim) | (obtain ⟨_, _, ha⟩ := ob_s ha; (exact (go_nc ha).elim))) | (split at ha <;> (obtain ⟨_, _, ha⟩ := ob_s ha; first | (exact (go_nc ha).elim) | (obtain ⟨_, _, ha⟩ := ob_s ha; (exact (go_nc ha).elim))))
  case dup2 =>
    replace ha : (match st with | v :: w :: r => if v.category = 1 ∧ w.category = 1 then go (pc + 1) ls (v :: w :: v :: w :: r) h else none | _ => none) = _ := ha
    split at ha
    all_goals first | (cases ha; done) | (split at ha <;> first | (cases ha; done) | (exact (go_nc ha).elim)) | (exact (go_nc ha).elim) | (obtain ⟨_, _, ha⟩ := ob_s ha; first | (exact (go_nc ha).elim) | (obtain ⟨_, _, ha⟩ := ob_s ha; (exact (go_nc ha).elim))) | (split at ha <;> (obtain ⟨_, _, ha⟩ := ob_s ha; first | (exact (go_nc ha).elim) | (obtain ⟨_, _, ha⟩ := ob_s ha; (exact (go_nc ha).elim))))
  case ifnull off =>
    replace ha : (match st with | .null :: r => (tg pc off).bind (fun t => go t ls r h) | .ref _ :: r => go (pc + 3) ls r h | _ => none) = _ := ha
    split at ha
    all_goals first | (cases ha; done) | (split at ha <;> first | (cases ha; done) | (exact (go_nc ha).elim)) | (exact (go_nc ha).elim) | (obtain ⟨_, _, ha⟩ := ob_s ha; first | (exact (go_nc ha).elim) | (obtain ⟨_, _, ha⟩ := ob_s ha; (exact (go_nc ha).elim))) | (split at ha <;> (obtain ⟨_, _, ha⟩ := ob_s ha; first | (exact (go_nc ha).elim) | (obtain ⟨_, _, ha⟩ := ob_s ha; (exact (go_nc ha).elim))))
  case ifnonnull off =>
    replace ha : (match st with | .null :: r => go (pc + 3) ls r h | .ref _ :: r => (tg pc off).bind (fun t => go t ls r h) | _ => none) = _ := ha
    split at ha
    all_goals first | (cases ha; done) | (split at ha <;> first | (cases ha; done) | (exact (go_nc ha).elim)) | (exact (go_nc ha).elim) | (obtain ⟨_, _, ha⟩ := ob_s ha; first | (exact (go_nc ha).elim) | (obtain ⟨_, _, ha⟩ := ob_s ha; (exact (go_nc ha).elim))) | (split at ha <;> (obtain ⟨_, _, ha⟩ := ob_s ha; first | (exact (go_nc ha).elim) | (obtain ⟨_, _, ha⟩ := ob_s ha; (exact (go_nc ha).elim))))
  case tableswitch dflt lo hi0 offs =>
    replace ha : (match st with | .int x :: r => if x.toInt < lo ∨ hi0 < x.toInt then (tg pc dflt).bind (fun t => go t ls r h) else (offs[(x.toInt - lo).toNat]?).bind (fun off => (tg pc off).bind (fun t => go t ls r h)) | _ => none) = _ := ha
    split at ha
    all_goals first | (cases ha; done) | (split at ha <;> first | (cases ha; done) | (exact (go_nc ha).elim)) | (exact (go_nc ha).elim) | (obtain ⟨_, _, ha⟩ := ob_s ha; first | (exact (go_nc ha).elim) | (obtain ⟨_, _, ha⟩ := ob_s ha; (exact (go_nc ha).elim))) | (split at ha <;> (obtain ⟨_, _, ha⟩ := ob_s ha; first | (exact (go_nc ha).elim) | (obtain ⟨_, _, ha⟩ := ob_s ha; (exact (go_nc ha).elim))))
  case getfield k =>
    replace ha : (match st with | .ref a :: r => (lk (mi_fl m) k).bind (fun q => (gF h a q.1 q.2).bind (fun x => go (pc + 3) ls (x :: r) h)) | _ => none) = _ := ha
    split at ha
    all_goals first | (cases ha; done) | (split at ha <;> first | (cases ha; done) | (exact (go_nc ha).elim)) | (exact (go_nc ha).elim) | (obtain ⟨_, _, ha⟩ := ob_s ha; first | (exact (go_nc ha).elim) | (obtain ⟨_, _, ha⟩ := ob_s ha; (exact (go_nc ha).elim))) | (split at ha <;> (obtain ⟨_, _, ha⟩ := ob_s ha; first | (exact (go_nc ha).elim) | (obtain ⟨_, _, ha⟩ := ob_s ha; (exact (go_nc ha).elim))))
  case putfield k =>
    replace ha : (match st with | x :: .ref a :: r => (lk (mi_fl m) k).bind (fun q => (pF h a q.1 q.2 x).bind (fun h' => go (pc + 3) ls r h')) | _ => none) = _ := ha
    split at ha
    all_goals first | (cases ha; done) | (split at ha <;> first | (cases ha; done) | (exact (go_nc ha).elim)) | (exact (go_nc ha).elim) | (obtain ⟨_, _, ha⟩ := ob_s ha; first | (exact (go_nc ha).elim) | (obtain ⟨_, _, ha⟩ := ob_s ha; (exact (go_nc ha).elim))) | (split at ha <;> (obtain ⟨_, _, ha⟩ := ob_s ha; first | (exact (go_nc ha).elim) | (obtain ⟨_, _, ha⟩ := ob_s ha; (exact (go_nc ha).elim))))
  case iaload =>
    replace ha : (match st with | .int j :: .ref a :: r => (aI h 100 a j).bind (fun x => go (pc + 1) ls (.int x :: r) h) | _ => none) = _ := ha
    split at ha
    all_goals first | (cases ha; done) | (split at ha <;> first | (cases ha; done) | (exact (go_nc ha).elim)) | (exact (go_nc ha).elim) | (obtain ⟨_, _, ha⟩ := ob_s ha; first | (exact (go_nc ha).elim) | (obtain ⟨_, _, ha⟩ := ob_s ha; (exact (go_nc ha).elim))) | (split at ha <;> (obtain ⟨_, _, ha⟩ := ob_s ha; first | (exact (go_nc ha).elim) | (obtain ⟨_, _, ha⟩ := ob_s ha; (exact (go_nc ha).elim))))
  case baload =>
    replace ha : (match st with | .int j :: .ref a :: r => (aI h 101 a j).bind (fun x => go (pc + 1) ls (.int x :: r) h) | _ => none) = _ := ha
    split at ha
    all_goals first | (cases ha; done) | (split at ha <;> first | (cases ha; done) | (exact (go_nc ha).elim)) | (exact (go_nc ha).elim) | (obtain ⟨_, _, ha⟩ := ob_s ha; first | (exact (go_nc ha).elim) | (obtain ⟨_, _, ha⟩ := ob_s ha; (exact (go_nc ha).elim))) | (split at ha <;> (obtain ⟨_, _, ha⟩ := ob_s ha; first | (exact (go_nc ha).elim) | (obtain ⟨_, _, ha⟩ := ob_s ha; (exact (go_nc ha).elim))))
  case laload =>
    replace ha : (match st with | .int j :: .ref a :: r => (aL h a j).bind (fun x => go (pc + 1) ls (.long x :: r) h) | _ => none) = _ := ha
    split at ha
    all_goals first | (cases ha; done) | (split at ha <;> first | (cases ha; done) | (exact (go_nc ha).elim)) | (exact (go_nc ha).elim) | (obtain ⟨_, _, ha⟩ := ob_s ha; first | (exact (go_nc ha).elim) | (obtain ⟨_, _, ha⟩ := ob_s ha; (exact (go_nc ha).elim))) | (split at ha <;> (obtain ⟨_, _, ha⟩ := ob_s ha; first | (exact (go_nc ha).elim) | (obtain ⟨_, _, ha⟩ := ob_s ha; (exact (go_nc ha).elim))))
  case arraylength =>
    replace ha : (match st with | .ref a :: r => (aN h a).bind (fun x => go (pc + 1) ls (.int x :: r) h) | _ => none) = _ := ha
    split at ha
    all_goals first | (cases ha; done) | (split at ha <;> first | (cases ha; done) | (exact (go_nc ha).elim)) | (exact (go_nc ha).elim) | (obtain ⟨_, _, ha⟩ := ob_s ha; first | (exact (go_nc ha).elim) | (obtain ⟨_, _, ha⟩ := ob_s ha; (exact (go_nc ha).elim))) | (split at ha <;> (obtain ⟨_, _, ha⟩ := ob_s ha; first | (exact (go_nc ha).elim) | (obtain ⟨_, _, ha⟩ := ob_s ha; (exact (go_nc ha).elim))))
  case iastore =>
    replace ha : (match st with | .int x :: .int j :: .ref a :: r => (sI h 100 a j x).bind (fun h' => go (pc + 1) ls r h') | _ => none) = _ := ha
    split at ha
    all_goals first | (cases ha; done) | (split at ha <;> first | (cases ha; done) | (exact (go_nc ha).elim)) | (exact (go_nc ha).elim) | (obtain ⟨_, _, ha⟩ := ob_s ha; first | (exact (go_nc ha).elim) | (obtain ⟨_, _, ha⟩ := ob_s ha; (exact (go_nc ha).elim))) | (split at ha <;> (obtain ⟨_, _, ha⟩ := ob_s ha; first | (exact (go_nc ha).elim) | (obtain ⟨_, _, ha⟩ := ob_s ha; (exact (go_nc ha).elim))))
  case bastore =>
    replace ha : (match st with | .int x :: .int j :: .ref a :: r => (sI h 101 a j x.toInt8.toInt32).bind (fun h' => go (pc + 1) ls r h') | _ => none) = _ := ha
    split at ha
    all_goals first | (cases ha; done) | (split at ha <;> first | (cases ha; done) | (exact (go_nc ha).elim)) | (exact (go_nc ha).elim) | (obtain ⟨_, _, ha⟩ := ob_s ha; first | (exact (go_nc ha).elim) | (obtain ⟨_, _, ha⟩ := ob_s ha; (exact (go_nc ha).elim))) | (split at ha <;> (obtain ⟨_, _, ha⟩ := ob_s ha; first | (exact (go_nc ha).elim) | (obtain ⟨_, _, ha⟩ := ob_s ha; (exact (go_nc ha).elim))))
  case lastore =>
    replace ha : (match st with | .long x :: .int j :: .ref a :: r => (sL h a j x).bind (fun h' => go (pc + 1) ls r h') | _ => none) = _ := ha
    split at ha
    all_goals first | (cases ha; done) | (split at ha <;> first | (cases ha; done) | (exact (go_nc ha).elim)) | (exact (go_nc ha).elim) | (obtain ⟨_, _, ha⟩ := ob_s ha; first | (exact (go_nc ha).elim) | (obtain ⟨_, _, ha⟩ := ob_s ha; (exact (go_nc ha).elim))) | (split at ha <;> (obtain ⟨_, _, ha⟩ := ob_s ha; first | (exact (go_nc ha).elim) | (obtain ⟨_, _, ha⟩ := ob_s ha; (exact (go_nc ha).elim))))
  case newarray ty =>
    cases ty
    case int =>
      replace ha : (match st with | .int n :: r => (nA h 100 n).bind (fun q => go (pc + 2) ls (.ref q.1 :: r) q.2) | _ => none) = _ := ha
      split at ha
      all_goals first | (cases ha; done) | (obtain ⟨_, _, ha⟩ := ob_s ha; exact (go_nc ha).elim)
    case byte =>
      replace ha : (match st with | .int n :: r => (nA h 101 n).bind (fun q => go (pc + 2) ls (.ref q.1 :: r) q.2) | _ => none) = _ := ha
      split at ha
      all_goals first | (cases ha; done) | (obtain ⟨_, _, ha⟩ := ob_s ha; exact (go_nc ha).elim)
    case long =>
      replace ha : (match st with | .int n :: r => (nA h 102 n).bind (fun q => go (pc + 2) ls (.ref q.1 :: r) q.2) | _ => none) = _ := ha
      split at ha
      all_goals first | (cases ha; done) | (obtain ⟨_, _, ha⟩ := ob_s ha; exact (go_nc ha).elim)
    all_goals (replace ha : (match st with | .int n :: r => (none : Option Ac) | _ => none) = _ := ha; split at ha <;> cases ha)
  case goto off =>
    obtain ⟨t, ht, ha⟩ := ob_s (show (tg pc off).bind (fun t => go t ls st h) = _ from ha)
    exact (go_nc ha).elim
  case ldc k =>
    obtain ⟨v, hv, ha⟩ := ob_s (show (lk (mi_kl m) k).bind (fun v => go (pc + 2) ls (v :: st) h) = _ from ha)
    exact (go_nc ha).elim
  case ldc_w k =>
    obtain ⟨v, hv, ha⟩ := ob_s (show (lk (mi_kl m) k).bind (fun v => go (pc + 3) ls (v :: st) h) = _ from ha)
    exact (go_nc ha).elim
  case ldc2_w k =>
    obtain ⟨v, hv, ha⟩ := ob_s (show (lk (mi_kl m) k).bind (fun v => go (pc + 3) ls (v :: st) h) = _ from ha)
    exact (go_nc ha).elim
  case getstatic k =>
    obtain ⟨v, hv, ha⟩ := ob_s (show (lk (mi_kl m) k).bind (fun v => go (pc + 3) ls (v :: st) h) = _ from ha)
    exact (go_nc ha).elim
  case new k =>
    replace ha := ob_s (show (lk (mi_nl m) k).bind _ = _ from ha)
    obtain ⟨ci, hq, ha⟩ := ha
    by_cases h60 : ci = 60
    · rw [if_pos h60] at ha
      split at ha <;> cases ha
    · rw [if_neg h60] at ha
      obtain ⟨q, hv, ha⟩ := ob_s ha
      exact (go_nc ha).elim
  case invokevirtual k =>
    replace ha := ob_s (show (lk (mi_ml m) k).bind _ = _ from ha)
    obtain ⟨q, hq, ha⟩ := ha
    obtain ⟨mq, hm, ha⟩ := ob_s ha
    split at ha
    next hc =>
      obtain ⟨rfl, e⟩ := cal_s hm ha
      exact Or.inl ⟨k, q, mq, rfl, hq, rfl, hm, hc.1, hc.2.1, hc.2.2, e⟩
    next => cases ha
  case invokespecial k =>
    replace ha := ob_s (show (lk (mi_ml m) k).bind _ = _ from ha)
    obtain ⟨q, hq, ha⟩ := ha
    by_cases h1 : q.1 = 1000
    · rw [if_pos h1] at ha
      split at ha
      · split at ha
        · exact (go_nc ha).elim
        · cases ha
      · cases ha
    · rw [if_neg h1] at ha
      obtain ⟨mq, hm, ha⟩ := ob_s ha
      split at ha
      next hc =>
        obtain ⟨rfl, e⟩ := cal_s hm ha
        exact Or.inr (Or.inl ⟨k, q, mq, rfl, hq, rfl, h1, hm, hc.1, hc.2.1, hc.2.2, e⟩)
      next => cases ha
  case invokestatic k =>
    replace ha := ob_s (show (lk (mi_ml m) k).bind _ = _ from ha)
    obtain ⟨q, hq, ha⟩ := ha
    by_cases h1 : q.1 = 1001
    · rw [if_pos h1] at ha
      split at ha
      · split at ha
        · obtain ⟨h2, hv, ha⟩ := ob_s ha
          exact (go_nc ha).elim
        · cases ha
      · cases ha
    · rw [if_neg h1] at ha
      split at ha
      next h2 =>
        cases hm : P[q.1]? with
        | none => unfold cal at ha; rw [hm] at ha; cases ha
        | some mq =>
          obtain ⟨rfl, e⟩ := cal_s hm ha
          exact Or.inr (Or.inr ⟨k, q, mq, rfl, hq, rfl, h1, hm, h2, e⟩)
      next => cases ha
  all_goals (exfalso; revert ha; first | (intro ha; cases ha; done) | (show (match st with | [.int v] => _ | _ => none) = _ → False; intro ha; split at ha <;> (try split at ha) <;> cases ha) | (show (match st with | [.long v] => _ | _ => none) = _ → False; intro ha; split at ha <;> (try split at ha) <;> cases ha) | (show (match st with | [.ref v] => _ | _ => none) = _ → False; intro ha; split at ha <;> (try split at ha) <;> cases ha) | (show (match st with | [] => _ | _ => none) = _ → False; intro ha; split at ha <;> (try split at ha) <;> cases ha))
theorem run_mono (n : Nat) : ∀ (d M : Nat) (x : Sx) (r : Option Value) (hf : Hp), run P n d M x = some (r, hf) → cn x.2.2.2 ≤ cn hf ∧ wd x.2.2.2 ≤ wd hf := by
  induction n with
  | zero => intro d M x r hf e; cases e
  | succ n ih =>
    intro d M x r hf e
    unfold run at e
    cases hm : P[M]? with
    | none => rw [hm] at e; cases e
    | some m =>
      rw [hm] at e
      simp only at e
      cases ha : act P m x with
      | none => rw [ha] at e; cases e
      | some a =>
        rw [ha] at e
        unfold act at ha
        cases hi : lk (mi_ins m) x.1 with
        | none => rw [hi] at ha; cases ha
        | some q =>
          obtain ⟨i, len, ks⟩ := q
          rw [hi] at ha
          simp only at ha
          match a, ha, e with
          | .inl (r', h'), ha, e =>
            cases e
            rcases ret_inv ha with ⟨-, rfl, -⟩ | ⟨-, rfl, -⟩ | ⟨-, rfl, -⟩ | ⟨-, rfl, -⟩ | ⟨k, -, -, -, -, -, rfl⟩
            · exact ⟨Nat.le_refl _, Nat.le_refl _⟩
            · exact ⟨Nat.le_refl _, Nat.le_refl _⟩
            · exact ⟨Nat.le_refl _, Nat.le_refl _⟩
            · exact ⟨Nat.le_refl _, Nat.le_refl _⟩
            · exact ⟨Nat.le_succ _, Nat.le_add_right _ _⟩
          | .inr (.inl x'), ha, e =>
            have h1 := ac_mono ha
            have h2 := ih _ _ _ _ _ e
            exact ⟨Nat.le_trans h1.1 h2.1, Nat.le_trans h1.2 h2.2⟩
          | .inr (.inr (k, as, pc, ls, rest)), ha, e =>
            match d, e with
            | 0, e => cases e
            | d' + 1, e =>
              simp only at e
              cases hk : P[k]? with
              | none => rw [hk] at e; cases e
              | some mq =>
                rw [hk] at e
                simp only at e
                split at e
                · cases e
                · cases hq : run P n d' k (0, ini (mi_mx mq) as, [], x.2.2.2) with
                  | none => rw [hq] at e; cases e
                  | some q =>
                    obtain ⟨rv, h1⟩ := q
                    rw [hq] at e
                    simp only at e
                    have g1 := ih _ _ _ _ _ hq
                    split at e
                    · split at e
                      · have g2 := ih _ _ _ _ _ e
                        exact ⟨Nat.le_trans g1.1 g2.1, Nat.le_trans g1.2 g2.2⟩
                      · cases e
                    · have g2 := ih _ _ _ _ _ e
                      exact ⟨Nat.le_trans g1.1 g2.1, Nat.le_trans g1.2 g2.2⟩
