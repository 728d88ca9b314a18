/-! cells and words only grow -/
theorem df_mono {h h' : Hp} {a : Nat} (hd : Df h h' a) : cn h ≤ cn h' ∧ wd h ≤ wd h' := ⟨by rw [hd.2.1]; exact Nat.le_refl _, by rw [hd.2.2.1]; exact Nat.le_refl _⟩
theorem nA_mono {h : Hp} {kk : Nat} {n : Int32} {q : Nat × Hp} (e : nA h kk n = some q) : cn h ≤ cn q.2 ∧ wd h ≤ wd q.2 := by
  unfold nA at e
  split at e
  · cases e; exact ⟨Nat.le_succ _, Nat.le_add_right _ _⟩
  · cases e
theorem nO_mono {h : Hp} {ci : Nat} {q : Nat × Hp} (e : nO h ci = some q) : cn h ≤ cn q.2 ∧ wd h ≤ wd q.2 := by
  unfold nO at e
  split at e
  · obtain ⟨l, _, rfl⟩ := om_s e; exact ⟨Nat.le_succ _, Nat.le_add_right _ _⟩
  · cases e
theorem ac_mono {m : MI} {i : Instr} {pc : Nat} {ls st : List Value} {h : Hp} {x' : Sx} (ha : act2 P m i pc ls st h = some (.inr (.inl x'))) : cn h ≤ cn x'.2.2.2 ∧ wd h ≤ wd x'.2.2.2 := by
  cases i
  case iconst n =>
    have e := go_inj (show go (pc + 1) ls (.int (Int32.ofInt n) :: st) h = _ from ha)
    subst e
    exact ⟨Nat.le_refl _, Nat.le_refl _⟩
  case bipush n =>
    have e := go_inj (show go (pc + 2) ls (.int (Int8.ofInt n).toInt32 :: st) h = _ from ha)
    subst e
    exact ⟨Nat.le_refl _, Nat.le_refl _⟩
  case sipush n =>
    have e := go_inj (show go (pc + 3) ls (.int (Int16.ofInt n).toInt32 :: st) h = _ from ha)
    subst e
    exact ⟨Nat.le_refl _, Nat.le_refl _⟩
  case lconst n =>
    have e := go_inj (show go (pc + 1) ls (.long (Int64.ofNat n.val) :: st) h = _ from ha)
    subst e
    exact ⟨Nat.le_refl _, Nat.le_refl _⟩
  case iload_n k =>
    obtain ⟨x, hx, rfl⟩ := ldI_inv (show ldI (pc + 1) ls st h k.val = _ from ha)
    exact ⟨Nat.le_refl _, Nat.le_refl _⟩
  case iload k =>
    obtain ⟨x, hx, rfl⟩ := ldI_inv (show ldI (pc + 2) ls st h k = _ from ha)
    exact ⟨Nat.le_refl _, Nat.le_refl _⟩
  case lload_n k =>
    obtain ⟨x, hx, rfl⟩ := ldL_inv (show ldL (pc + 1) ls st h k.val = _ from ha)
    exact ⟨Nat.le_refl _, Nat.le_refl _⟩
  case lload k =>
    obtain ⟨x, hx, rfl⟩ := ldL_inv (show ldL (pc + 2) ls st h k = _ from ha)
    exact ⟨Nat.le_refl _, Nat.le_refl _⟩
  case aload_n k =>
    obtain ⟨x, hx, rfl⟩ := ldA_inv (show ldA (pc + 1) ls st h k.val = _ from ha)
    exact ⟨Nat.le_refl _, Nat.le_refl _⟩
  case aload k =>
    obtain ⟨x, hx, rfl⟩ := ldA_inv (show ldA (pc + 2) ls st h k = _ from ha)
    exact ⟨Nat.le_refl _, Nat.le_refl _⟩
  case istore_n k =>
    obtain ⟨x, r, rfl, hi, rfl⟩ := stI_inv (show stI (pc + 1) ls st h k.val = _ from ha)
    exact ⟨Nat.le_refl _, Nat.le_refl _⟩
  case istore k =>
    obtain ⟨x, r, rfl, hi, rfl⟩ := stI_inv (show stI (pc + 2) ls st h k = _ from ha)
    exact ⟨Nat.le_refl _, Nat.le_refl _⟩
  case lstore_n k =>
    obtain ⟨x, r, rfl, hi, rfl⟩ := stL_inv (show stL (pc + 1) ls st h k.val = _ from ha)
    exact ⟨Nat.le_refl _, Nat.le_refl _⟩
  case lstore k =>
    obtain ⟨x, r, rfl, hi, rfl⟩ := stL_inv (show stL (pc + 2) ls st h k = _ from ha)
    exact ⟨Nat.le_refl _, Nat.le_refl _⟩
  case astore_n k =>
    obtain ⟨x, r, rfl, hi, rfl⟩ := stA_inv (show stA (pc + 1) ls st h k.val = _ from ha)
    exact ⟨Nat.le_refl _, Nat.le_refl _⟩
  case astore k =>
    obtain ⟨x, r, rfl, hi, rfl⟩ := stA_inv (show stA (pc + 2) ls st h k = _ from ha)
    exact ⟨Nat.le_refl _, Nat.le_refl _⟩
  case iadd =>
    obtain ⟨x, y, r, rfl, rfl⟩ := bi2_inv (show bi2 pc ls st h (fun x y => x + y) = _ from ha)
    exact ⟨Nat.le_refl _, Nat.le_refl _⟩
  case isub =>
    obtain ⟨x, y, r, rfl, rfl⟩ := bi2_inv (show bi2 pc ls st h (fun x y => x - y) = _ from ha)
    exact ⟨Nat.le_refl _, Nat.le_refl _⟩
  case imul =>
    obtain ⟨x, y, r, rfl, rfl⟩ := bi2_inv (show bi2 pc ls st h (fun x y => x * y) = _ from ha)
    exact ⟨Nat.le_refl _, Nat.le_refl _⟩
  case iand =>
    obtain ⟨x, y, r, rfl, rfl⟩ := bi2_inv (show bi2 pc ls st h (fun x y => x &&& y) = _ from ha)
    exact ⟨Nat.le_refl _, Nat.le_refl _⟩
  case ior =>
    obtain ⟨x, y, r, rfl, rfl⟩ := bi2_inv (show bi2 pc ls st h (fun x y => x ||| y) = _ from ha)
    exact ⟨Nat.le_refl _, Nat.le_refl _⟩
  case ixor =>
    obtain ⟨x, y, r, rfl, rfl⟩ := bi2_inv (show bi2 pc ls st h (fun x y => x ^^^ y) = _ from ha)
    exact ⟨Nat.le_refl _, Nat.le_refl _⟩
  case ishl =>
    obtain ⟨x, y, r, rfl, rfl⟩ := bi2_inv (show bi2 pc ls st h (fun x y => x <<< (y &&& 31)) = _ from ha)
    exact ⟨Nat.le_refl _, Nat.le_refl _⟩
  case ishr =>
    obtain ⟨x, y, r, rfl, rfl⟩ := bi2_inv (show bi2 pc ls st h (fun x y => x >>> (y &&& 31)) = _ from ha)
    exact ⟨Nat.le_refl _, Nat.le_refl _⟩
  case iushr =>
    obtain ⟨x, y, r, rfl, rfl⟩ := bi2_inv (show bi2 pc ls st h (fun x y => (x.toUInt32 >>> (y.toUInt32 &&& Int32.toUInt32 31)).toInt32) = _ from ha)
    exact ⟨Nat.le_refl _, Nat.le_refl _⟩
  case ladd =>
    obtain ⟨x, y, r, rfl, rfl⟩ := bl2_inv (show bl2 pc ls st h (fun x y => x + y) = _ from ha)
    exact ⟨Nat.le_refl _, Nat.le_refl _⟩
  case lmul =>
    obtain ⟨x, y, r, rfl, rfl⟩ := bl2_inv (show bl2 pc ls st h (fun x y => x * y) = _ from ha)
    exact ⟨Nat.le_refl _, Nat.le_refl _⟩
  case ifCond cd off =>
    cases cd
    case eq =>
      obtain ⟨x, r, t, rfl, ht, rfl⟩ := br1_inv (show br1 pc ls st h off (fun x => decide (x = 0)) = _ from ha)
      exact ⟨Nat.le_refl _, Nat.le_refl _⟩
    case ne =>
      obtain ⟨x, r, t, rfl, ht, rfl⟩ := br1_inv (show br1 pc ls st h off (fun x => decide (¬ x = 0)) = _ from ha)
      exact ⟨Nat.le_refl _, Nat.le_refl _⟩
    case lt =>
      obtain ⟨x, r, t, rfl, ht, rfl⟩ := br1_inv (show br1 pc ls st h off (fun x => decide (x < 0)) = _ from ha)
      exact ⟨Nat.le_refl _, Nat.le_refl _⟩
    case ge =>
      obtain ⟨x, r, t, rfl, ht, rfl⟩ := br1_inv (show br1 pc ls st h off (fun x => decide (0 ≤ x)) = _ from ha)
      exact ⟨Nat.le_refl _, Nat.le_refl _⟩
    case gt =>
      obtain ⟨x, r, t, rfl, ht, rfl⟩ := br1_inv (show br1 pc ls st h off (fun x => decide (0 < x)) = _ from ha)
      exact ⟨Nat.le_refl _, Nat.le_refl _⟩
    case le =>
      obtain ⟨x, r, t, rfl, ht, rfl⟩ := br1_inv (show br1 pc ls st h off (fun x => decide (x ≤ 0)) = _ from ha)
      exact ⟨Nat.le_refl _, Nat.le_refl _⟩
  case if_icmp cd off =>
    cases cd
    case eq =>
      obtain ⟨x, y, r, t, rfl, ht, rfl⟩ := br2_inv (show br2 pc ls st h off (fun x y => decide (x = y)) = _ from ha)
      exact ⟨Nat.le_refl _, Nat.le_refl _⟩
    case ne =>
      obtain ⟨x, y, r, t, rfl, ht, rfl⟩ := br2_inv (show br2 pc ls st h off (fun x y => decide (¬ x = y)) = _ from ha)
      exact ⟨Nat.le_refl _, Nat.le_refl _⟩
    case lt =>
      obtain ⟨x, y, r, t, rfl, ht, rfl⟩ := br2_inv (show br2 pc ls st h off (fun x y => decide (x < y)) = _ from ha)
      exact ⟨Nat.le_refl _, Nat.le_refl _⟩
    case ge =>
      obtain ⟨x, y, r, t, rfl, ht, rfl⟩ := br2_inv (show br2 pc ls st h off (fun x y => decide (y ≤ x)) = _ from ha)
      exact ⟨Nat.le_refl _, Nat.le_refl _⟩
    case gt =>
      obtain ⟨x, y, r, t, rfl, ht, rfl⟩ := br2_inv (show br2 pc ls st h off (fun x y => decide (y < x)) = _ from ha)
      exact ⟨Nat.le_refl _, Nat.le_refl _⟩
    case le =>
      obtain ⟨x, y, r, t, rfl, ht, rfl⟩ := br2_inv (show br2 pc ls st h off (fun x y => decide (x ≤ y)) = _ from ha)
      exact ⟨Nat.le_refl _, Nat.le_refl _⟩
  case putfield k =>
    replace ha : (match st with | x :: .ref a :: r => (lk (mi_fl m) k).bind (fun q => (pF h a q.1 q.2 x).bind (fun h' => go (pc + 3) ls r h')) | _ => none) = _ := ha
    split at ha
    next v a r =>
      obtain ⟨q, hq, ha⟩ := ob_s ha
      obtain ⟨h1, hv, ha⟩ := ob_s ha
      have e := go_inj ha
      subst e
      exact df_mono (pF_inv hv).2.1
    next => cases ha
  case iastore =>
    replace ha : (match st with | .int x :: .int j :: .ref a :: r => (sI h 100 a j x).bind (fun h' => go (pc + 1) ls r h') | _ => none) = _ := ha
    split at ha
    next x j a r =>
      obtain ⟨h1, hv, ha⟩ := ob_s ha
      have e := go_inj ha
      subst e
      obtain ⟨_, _, _, _, rfl⟩ := sI_inv hv
      exact df_mono (Df_A _ _ _)
    next => cases ha
  case bastore =>
    replace ha : (match st with | .int x :: .int j :: .ref a :: r => (sI h 101 a j x.toInt8.toInt32).bind (fun h' => go (pc + 1) ls r h') | _ => none) = _ := ha
    split at ha
    next x j a r =>
      obtain ⟨h1, hv, ha⟩ := ob_s ha
      have e := go_inj ha
      subst e
      obtain ⟨_, _, _, _, rfl⟩ := sI_inv hv
      exact df_mono (Df_A _ _ _)
    next => cases ha
  case lastore =>
    replace ha : (match st with | .long x :: .int j :: .ref a :: r => (sL h a j x).bind (fun h' => go (pc + 1) ls r h') | _ => none) = _ := ha
    split at ha
    next x j a r =>
      obtain ⟨h1, hv, ha⟩ := ob_s ha
      have e := go_inj ha
      subst e
      obtain ⟨_, _, _, _, rfl⟩ := sL_inv hv
      exact df_mono (Df_J _ _ _)
    next => cases ha
  case newarray ty =>
    cases ty
    case int =>
      replace ha : (match st with | .int n :: r => (nA h 100 n).bind (fun q => go (pc + 2) ls (.ref q.1 :: r) q.2) | _ => none) = _ := ha
      split at ha
      next n r =>
        obtain ⟨q, hv, ha⟩ := ob_s ha
        have e := go_inj ha
        subst e
        exact nA_mono hv
      next => cases ha
    case byte =>
      replace ha : (match st with | .int n :: r => (nA h 101 n).bind (fun q => go (pc + 2) ls (.ref q.1 :: r) q.2) | _ => none) = _ := ha
      split at ha
      next n r =>
        obtain ⟨q, hv, ha⟩ := ob_s ha
        have e := go_inj ha
        subst e
        exact nA_mono hv
      next => cases ha
    case long =>
      replace ha : (match st with | .int n :: r => (nA h 102 n).bind (fun q => go (pc + 2) ls (.ref q.1 :: r) q.2) | _ => none) = _ := ha
      split at ha
      next n r =>
        obtain ⟨q, hv, ha⟩ := ob_s ha
        have e := go_inj ha
        subst e
        exact nA_mono hv
      next => cases ha
    all_goals (replace ha : (match st with | .int n :: r => (none : Option Ac) | _ => none) = _ := ha; split at ha <;> cases ha)
  case new k =>
    replace ha := ob_s (show (lk (mi_nl m) k).bind _ = _ from ha)
    obtain ⟨ci, hq, ha⟩ := ha
    by_cases h60 : ci = 60
    · rw [if_pos h60] at ha
      split at ha
      · cases ha
      · cases ha
    · rw [if_neg h60] at ha
      obtain ⟨q, hv, ha⟩ := ob_s ha
      have e := go_inj ha
      subst e
      exact nO_mono hv
  case invokevirtual k =>
    replace ha := ob_s (show (lk (mi_ml m) k).bind _ = _ from ha)
    obtain ⟨q, hq, ha⟩ := ha
    obtain ⟨mq, hm, ha⟩ := ob_s ha
    split at ha
    · exact (cal_no ha).elim
    · cases ha
  case invokespecial k =>
    replace ha := ob_s (show (lk (mi_ml m) k).bind _ = _ from ha)
    obtain ⟨q, hq, ha⟩ := ha
    by_cases h1 : q.1 = 1000
    · rw [if_pos h1] at ha
      split at ha
      next a r =>
        split at ha
        next hcat =>
          have e := go_inj ha
          subst e
          exact ⟨Nat.le_refl _, Nat.le_refl _⟩
        next => cases ha
      next => cases ha
    · rw [if_neg h1] at ha
      obtain ⟨mq, hm, ha⟩ := ob_s ha
      split at ha
      · exact (cal_no ha).elim
      · cases ha
  case invokestatic k =>
    replace ha := ob_s (show (lk (mi_ml m) k).bind _ = _ from ha)
    obtain ⟨q, hq, ha⟩ := ha
    by_cases h1 : q.1 = 1001
    · rw [if_pos h1] at ha
      split at ha
      next n dp b sp a r =>
        split at ha
        next hcat =>
          obtain ⟨h2, hv, ha⟩ := ob_s ha
          have e := go_inj ha
          subst e
          obtain ⟨_, _, _, _, _, _, _, _, _, rfl⟩ := cpI_inv hv
          exact df_mono (Df_A _ _ _)
        next => cases ha
      next => cases ha
    · rw [if_neg h1] at ha
      split at ha
      · exact (cal_no ha).elim
      · cases ha
  case iinc k n =>
    replace ha : (match ls[k]? with | some (.int x) => go (pc + 3) (sto1 ls k (.int (x + Int32.ofInt n))) st h | _ => none) = _ := ha
    split at ha
    all_goals first | (cases ha; done) | (split at ha <;> first | (cases ha; done) | (have e := go_inj ha; subst e; exact ⟨Nat.le_refl _, Nat.le_refl _⟩)) | (have e := go_inj ha; subst e; exact ⟨Nat.le_refl _, Nat.le_refl _⟩) | (obtain ⟨_, _, ha⟩ := ob_s ha; first | (have e := go_inj ha; subst e; exact ⟨Nat.le_refl _, Nat.le_refl _⟩) | (obtain ⟨_, _, ha⟩ := ob_s ha; (have e := go_inj ha; subst e; exact ⟨Nat.le_refl _, Nat.le_refl _⟩))) | (split at ha <;> (obtain ⟨_, _, ha⟩ := ob_s ha; first | (have e := go_inj ha; subst e; exact ⟨Nat.le_refl _, Nat.le_refl _⟩) | (obtain ⟨_, _, ha⟩ := ob_s ha; (have e := go_inj ha; subst e; exact ⟨Nat.le_refl _, Nat.le_refl _⟩))))
  case idiv =>
    replace ha : (match st with | .int y :: .int x :: r => if y = 0 then none else go (pc + 1) ls (.int (x / y) :: r) h | _ => none) = _ := ha
    split at ha
    all_goals first | (cases ha; done) | (split at ha <;> first | (cases ha; done) | (have e := go_inj ha; subst e; exact ⟨Nat.le_refl _, Nat.le_refl _⟩)) | (have e := go_inj ha; subst e; exact ⟨Nat.le_refl _, Nat.le_refl _⟩) | (obtain ⟨_, _, ha⟩ := ob_s ha; first | (have e := go_inj ha; subst e; exact ⟨Nat.le_refl _, Nat.le_refl _⟩) | (obtain ⟨_, _, ha⟩ := ob_s ha; (have e := go_inj ha; subst e; exact ⟨Nat.le_refl _, Nat.le_refl _⟩))) | (split at ha <;> (obtain ⟨_, _, ha⟩ := ob_s ha; first | (have e := go_inj ha; subst e; exact ⟨Nat.le_refl _, Nat.le_refl _⟩) | (obtain ⟨_, _, ha⟩ := ob_s ha; (have e := go_inj ha; subst e; exact ⟨Nat.le_refl _, Nat.le_refl _⟩))))
  case irem =>
    replace ha : (match st with | .int y :: .int x :: r => if y = 0 then none else go (pc + 1) ls (.int (x - x / y * y) :: r) h | _ => none) = _ := ha
    split at ha
    all_goals first | (cases ha; done) | (split at ha <;> first | (cases ha; done) | (have e := go_inj ha; subst e; exact ⟨Nat.le_refl _, Nat.le_refl _⟩)) | (have e := go_inj ha; subst e; exact ⟨Nat.le_refl _, Nat.le_refl _⟩) | (obtain ⟨_, _, ha⟩ := ob_s ha; first | (have e := go_inj ha; subst e; exact ⟨Nat.le_refl _, Nat.le_refl _⟩) | (obtain ⟨_, _, ha⟩ := ob_s ha; (have e := go_inj ha; subst e; exact ⟨Nat.le_refl _, Nat.le_refl _⟩))) | (split at ha <;> (obtain ⟨_, _, ha⟩ := ob_s ha; first | (have e := go_inj ha; subst e; exact ⟨Nat.le_refl _, Nat.le_refl _⟩) | (obtain ⟨_, _, ha⟩ := ob_s ha; (have e := go_inj ha; subst e; exact ⟨Nat.le_refl _, Nat.le_refl _⟩))))
  case ldiv =>
    replace ha : (match st with | .long y :: .long x :: r => if y = 0 then none else go (pc + 1) ls (.long (x / y) :: r) h | _ => none) = _ := ha
    split at ha
    all_goals first | (cases ha; done) | (split at ha <;> first | (cases ha; done) | (have e := go_inj ha; subst e; exact ⟨Nat.le_refl _, Nat.le_refl _⟩)) | (have e := go_inj ha; subst e; exact ⟨Nat.le_refl _, Nat.le_refl _⟩) | (obtain ⟨_, _, ha⟩ := ob_s ha; first | (have e := go_inj ha; subst e; exact ⟨Nat.le_refl _, Nat.le_refl _⟩) | (obtain ⟨_, _, ha⟩ := ob_s ha; (have e := go_inj ha; subst e; exact ⟨Nat.le_refl _, Nat.le_refl _⟩))) | (split at ha <;> (obtain ⟨_, _, ha⟩ := ob_s ha; first | (have e := go_inj ha; subst e; exact ⟨Nat.le_refl _, Nat.le_refl _⟩) | (obtain ⟨_, _, ha⟩ := ob_s ha; (have e := go_inj ha; subst e; exact ⟨Nat.le_refl _, Nat.le_refl _⟩))))
  case lrem =>
    replace ha : (match st with | .long y :: .long x :: r => if y = 0 then none else go (pc + 1) ls (.long (x - x / y * y) :: r) h | _ => none) = _ := ha
    split at ha
    all_goals first | (cases ha; done) | (split at ha <;> first | (cases ha; done) | (have e := go_inj ha; subst e; exact ⟨Nat.le_refl _, Nat.le_refl _⟩)) | (have e := go_inj ha; subst e; exact ⟨Nat.le_refl _, Nat.le_refl _⟩) | (obtain ⟨_, _, ha⟩ := ob_s ha; first | (have e := go_inj ha; subst e; exact ⟨Nat.le_refl _, Nat.le_refl _⟩) | (obtain ⟨_, _, ha⟩ := ob_s ha; (have e := go_inj ha; subst e; exact ⟨Nat.le_refl _, Nat.le_refl _⟩))) | (split at ha <;> (obtain ⟨_, _, ha⟩ := ob_s ha; first | (have e := go_inj ha; subst e; exact ⟨Nat.le_refl _, Nat.le_refl _⟩) | (obtain ⟨_, _, ha⟩ := ob_s ha; (have e := go_inj ha; subst e; exact ⟨Nat.le_refl _, Nat.le_refl _⟩))))
  case ineg =>
    replace ha : (match st with | .int x :: r => go (pc + 1) ls (.int (-x) :: r) h | _ => none) = _ := ha
    split at ha
    all_goals first | (cases ha; done) | (split at ha <;> first | (cases ha; done) | (have e := go_inj ha; subst e; exact ⟨Nat.le_refl _, Nat.le_refl _⟩)) | (have e := go_inj ha; subst e; exact ⟨Nat.le_refl _, Nat.le_refl _⟩) | (obtain ⟨_, _, ha⟩ := ob_s ha; first | (have e := go_inj ha; subst e; exact ⟨Nat.le_refl _, Nat.le_refl _⟩) | (obtain ⟨_, _, ha⟩ := ob_s ha; (have e := go_inj ha; subst e; exact ⟨Nat.le_refl _, Nat.le_refl _⟩))) | (split at ha <;> (obtain ⟨_, _, ha⟩ := ob_s ha; first | (have e := go_inj ha; subst e; exact ⟨Nat.le_refl _, Nat.le_refl _⟩) | (obtain ⟨_, _, ha⟩ := ob_s ha; (have e := go_inj ha; subst e; exact ⟨Nat.le_refl _, Nat.le_refl _⟩))))
  case lcmp =>
    replace ha : (match st with | .long y :: .long x :: r => go (pc + 1) ls (.int (lg_cmp x y) :: r) h | _ => none) = _ := ha
    split at ha
    all_goals first | (cases ha; done) | (split at ha <;> first | (cases ha; done) | (have e := go_inj ha; subst e; exact ⟨Nat.le_refl _, Nat.le_refl _⟩)) | (have e := go_inj ha; subst e; exact ⟨Nat.le_refl _, Nat.le_refl _⟩) | (obtain ⟨_, _, ha⟩ := ob_s ha; first | (have e := go_inj ha; subst e; exact ⟨Nat.le_refl _, Nat.le_refl _⟩) | (obtain ⟨_, _, ha⟩ := ob_s ha; (have e := go_inj ha; subst e; exact ⟨Nat.le_refl _, Nat.le_refl _⟩))) | (split at ha <;> (obtain ⟨_, _, ha⟩ := ob_s ha; first | (have e := go_inj ha; subst e; exact ⟨Nat.le_refl _, Nat.le_refl _⟩) | (obtain ⟨_, _, ha⟩ := ob_s ha; (have e := go_inj ha; subst e; exact ⟨Nat.le_refl _, Nat.le_refl _⟩))))
  case i2l =>
    replace ha : (match st with | .int x :: r => go (pc + 1) ls (.long x.toInt64 :: r) h | _ => none) = _ := ha
    split at ha
    all_goals first | (cases ha; done) | (split at ha <;> first | (cases ha; done) | (have e := go_inj ha; subst e; exact ⟨Nat.le_refl _, Nat.le_refl _⟩)) | (have e := go_inj ha; subst e; exact ⟨Nat.le_refl _, Nat.le_refl _⟩) | (obtain ⟨_, _, ha⟩ := ob_s ha; first | (have e := go_inj ha; subst e; exact ⟨Nat.le_refl _, Nat.le_refl _⟩) | (obtain ⟨_, _, ha⟩ := ob_s ha; (have e := go_inj ha; subst e; exact ⟨Nat.le_refl _, Nat.le_refl _⟩))) | (split at ha <;> (obtain ⟨_, _, ha⟩ := ob_s ha; first | (have e := go_inj ha; subst e; exact ⟨Nat.le_refl _, Nat.le_refl _⟩) | (obtain ⟨_, _, ha⟩ := ob_s ha; (have e := go_inj ha; subst e; exact ⟨Nat.le_refl _, Nat.le_refl _⟩))))
  case l2i =>
    replace ha : (match st with | .long x :: r => go (pc + 1) ls (.int x.toInt32 :: r) h | _ => none) = _ := ha
    split at ha
    all_goals first | (cases ha; done) | (split at ha <;> first | (cases ha; done) | (have e := go_inj ha; subst e; exact ⟨Nat.le_refl _, Nat.le_refl _⟩)) | (have e := go_inj ha; subst e; exact ⟨Nat.le_refl _, Nat.le_refl _⟩) | (obtain ⟨_, _, ha⟩ := ob_s ha; first | (have e := go_inj ha; subst e; exact ⟨Nat.le_refl _, Nat.le_refl _⟩) | (obtain ⟨_, _, ha⟩ := ob_s ha; (have e := go_inj ha; subst e; exact ⟨Nat.le_refl _, Nat.le_refl _⟩))) | (split at ha <;> (obtain ⟨_, _, ha⟩ := ob_s ha; first | (have e := go_inj ha; subst e; exact ⟨Nat.le_refl _, Nat.le_refl _⟩) | (obtain ⟨_, _, ha⟩ := ob_s ha; (have e := go_inj ha; subst e; exact ⟨Nat.le_refl _, Nat.le_refl _⟩))))
  case i2b =>
    replace ha : (match st with | .int x :: r => go (pc + 1) ls (.int x.toInt8.toInt32 :: r) h | _ => none) = _ := ha
    split at ha
    all_goals first | (cases ha; done) | (split at ha <;> first | (cases ha; done) | (have e := go_inj ha; subst e; exact ⟨Nat.le_refl _, Nat.le_refl _⟩)) | (have e := go_inj ha; subst e; exact ⟨Nat.le_refl _, Nat.le_refl _⟩) | (obtain ⟨_, _, ha⟩ := ob_s ha; first | (have e := go_inj ha; subst e; exact ⟨Nat.le_refl _, Nat.le_refl _⟩) | (obtain ⟨_, _, ha⟩ := ob_s ha; (have e := go_inj ha; subst e; exact ⟨Nat.le_refl _, Nat.le_refl _⟩))) | (split at ha <;> (obtain ⟨_, _, ha⟩ := ob_s ha; first | (have e := go_inj ha; subst e; exact ⟨Nat.le_refl _, Nat.le_refl _⟩) | (obtain ⟨_, _, ha⟩ := ob_s ha; (have e := go_inj ha; subst e; exact ⟨Nat.le_refl _, Nat.le_refl _⟩))))
  case i2c =>
    replace ha : (match st with | .int x :: r => go (pc + 1) ls (.int (x.toUInt32 % 65536).toInt32 :: r) h | _ => none) = _ := ha
    split at ha
    all_goals first | (cases ha; done) | (split at ha <;> first | (cases ha; done) | (have e := go_inj ha; subst e; exact ⟨Nat.le_refl _, Nat.le_refl _⟩)) | (have e := go_inj ha; subst e; exact ⟨Nat.le_refl _, Nat.le_refl _⟩) | (obtain ⟨_, _, ha⟩ := ob_s ha; first | (have e := go_inj ha; subst e; exact ⟨Nat.le_refl _, Nat.le_refl _⟩) | (obtain ⟨_, _, ha⟩ := ob_s ha; (have e := go_inj ha; subst e; exact ⟨Nat.le_refl _, Nat.le_refl _⟩))) | (split at ha <;> (obtain ⟨_, _, ha⟩ := ob_s ha; first | (have e := go_inj ha; subst e; exact ⟨Nat.le_refl _, Nat.le_refl _⟩) | (obtain ⟨_, _, ha⟩ := ob_s ha; (have e := go_inj ha; subst e; exact ⟨Nat.le_refl _, Nat.le_refl _⟩))))
  case dup =>
    replace ha : (match st with | v :: r => if v.category = 1 then go (pc + 1) ls (v :: v :: r) h else none | _ => none) = _ := ha
    split at ha
    all_goals first | (cases ha; done) | (split at ha <;> first | (cases ha; done) | (have e := go_inj ha; subst e; exact ⟨Nat.le_refl _, Nat.le_refl _⟩)) | (have e := go_inj ha; subst e; exact ⟨Nat.le_refl _, Nat.le_refl _⟩) | (obtain ⟨_, _, ha⟩ := ob_s ha; first | (have e := go_inj ha; subst e; exact ⟨Nat.le_refl _, Nat.le_refl _⟩) | (obtain ⟨_, _, ha⟩ := ob_s ha; (have e := go_inj ha; subst e; exact ⟨Nat.le_refl _, Nat.le_refl _⟩))) | (split at ha <;> (obtain ⟨_, _, ha⟩ := ob_s ha; first | (have e := go_inj ha; subst e; exact ⟨Nat.le_refl _, Nat.le_refl _⟩) | (obtain ⟨_, _, ha⟩ := ob_s ha; (have e := go_inj ha; subst e; exact ⟨Nat.le_refl _, Nat.le_refl _⟩))))
  case pop =>
    replace ha : (match st with | v :: r => if v.category = 1 then go (pc + 1) ls (r) h else none | _ => none) = _ := ha
    split at ha
    all_goals first | (cases ha; done) | (split at ha <;> first | (cases ha; done) | (have e := go_inj ha; subst e; exact ⟨Nat.le_refl _, Nat.le_refl _⟩)) | (have e := go_inj ha; subst e; exact ⟨Nat.le_refl _, Nat.le_refl _⟩) | (obtain ⟨_, _, ha⟩ := ob_s ha; first | (have e := go_inj ha; subst e; exact ⟨Nat.le_refl _, Nat.le_refl _⟩) | (obtain ⟨_, _, ha⟩ := ob_s ha; (have e := go_inj ha; subst e; exact ⟨Nat.le_refl _, Nat.le_refl _⟩))) | (split at ha <;> (obtain ⟨_, _, ha⟩ := ob_s ha; first | (have e := go_inj ha; subst e; exact ⟨Nat.le_refl _, Nat.le_refl _⟩) | (obtain ⟨_, _, ha⟩ := ob_s ha; (have e := go_inj ha; subst e; exact ⟨Nat.le_refl _, Nat.le_refl _⟩))))
  case dup2 =>
    replace ha : (match st with | v :: w :: r => if v.category = 1 ∧ w.category = 1 then go (pc + 1) ls (v :: w :: v :: w :: r) h else none | _ => none) = _ := ha
    split at ha
    all_goals first | (cases ha; done) | (split at ha <;> first | (cases ha; done) | (have e := go_inj ha; subst e; exact ⟨Nat.le_refl _, Nat.le_refl _⟩)) | (have e := go_inj ha; subst e; exact ⟨Nat.le_refl _, Nat.le_refl _⟩) | (obtain ⟨_, _, ha⟩ := ob_s ha; first | (have e := go_inj ha; subst e; exact ⟨Nat.le_refl _, Nat.le_refl _⟩) | (obtain ⟨_, _, ha⟩ := ob_s ha; (have e := go_inj ha; subst e; exact ⟨Nat.le_refl _, Nat.le_refl _⟩))) | (split at ha <;> (obtain ⟨_, _, ha⟩ := ob_s ha; first | (have e := go_inj ha; subst e; exact ⟨Nat.le_refl _, Nat.le_refl _⟩) | (obtain ⟨_, _, ha⟩ := ob_s ha; (have e := go_inj ha; subst e; exact ⟨Nat.le_refl _, Nat.le_refl _⟩))))
  case ifnull off =>
    replace ha : (match st with | .null :: r => (tg pc off).bind (fun t => go t ls r h) | .ref _ :: r => go (pc + 3) ls r h | _ => none) = _ := ha
    split at ha
    all_goals first | (cases ha; done) | (split at ha <;> first | (cases ha; done) | (have e := go_inj ha; subst e; exact ⟨Nat.le_refl _, Nat.le_refl _⟩)) | (have e := go_inj ha; subst e; exact ⟨Nat.le_refl _, Nat.le_refl _⟩) | (obtain ⟨_, _, ha⟩ := ob_s ha; first | (have e := go_inj ha; subst e; exact ⟨Nat.le_refl _, Nat.le_refl _⟩) | (obtain ⟨_, _, ha⟩ := ob_s ha; (have e := go_inj ha; subst e; exact ⟨Nat.le_refl _, Nat.le_refl _⟩))) | (split at ha <;> (obtain ⟨_, _, ha⟩ := ob_s ha; first | (have e := go_inj ha; subst e; exact ⟨Nat.le_refl _, Nat.le_refl _⟩) | (obtain ⟨_, _, ha⟩ := ob_s ha; (have e := go_inj ha; subst e; exact ⟨Nat.le_refl _, Nat.le_refl _⟩))))
  case ifnonnull off =>
    replace ha : (match st with | .null :: r => go (pc + 3) ls r h | .ref _ :: r => (tg pc off).bind (fun t => go t ls r h) | _ => none) = _ := ha
    split at ha
    all_goals first | (cases ha; done) | (split at ha <;> first | (cases ha; done) | (have e := go_inj ha; subst e; exact ⟨Nat.le_refl _, Nat.le_refl _⟩)) | (have e := go_inj ha; subst e; exact ⟨Nat.le_refl _, Nat.le_refl _⟩) | (obtain ⟨_, _, ha⟩ := ob_s ha; first | (have e := go_inj ha; subst e; exact ⟨Nat.le_refl _, Nat.le_refl _⟩) | (obtain ⟨_, _, ha⟩ := ob_s ha; (have e := go_inj ha; subst e; exact ⟨Nat.le_refl _, Nat.le_refl _⟩))) | (split at ha <;> (obtain ⟨_, _, ha⟩ := ob_s ha; first | (have e := go_inj ha; subst e; exact ⟨Nat.le_refl _, Nat.le_refl _⟩) | (obtain ⟨_, _, ha⟩ := ob_s ha; (have e := go_inj ha; subst e; exact ⟨Nat.le_refl _, Nat.le_refl _⟩))))
  case tableswitch dflt lo hi0 offs =>
    replace ha : (match st with | .int x :: r => if x.toInt < lo ∨ hi0 < x.toInt then (tg pc dflt).bind (fun t => go t ls r h) else (offs[(x.toInt - lo).toNat]?).bind (fun off => (tg pc off).bind (fun t => go t ls r h)) | _ => none) = _ := ha
    split at ha
    all_goals first | (cases ha; done) | (split at ha <;> first | (cases ha; done) | (have e := go_inj ha; subst e; exact ⟨Nat.le_refl _, Nat.le_refl _⟩)) | (have e := go_inj ha; subst e; exact ⟨Nat.le_refl _, Nat.le_refl _⟩) | (obtain ⟨_, _, ha⟩ := ob_s ha; first | (have e := go_inj ha; subst e; exact ⟨Nat.le_refl _, Nat.le_refl _⟩) | (obtain ⟨_, _, ha⟩ := ob_s ha; (have e := go_inj ha; subst e; exact ⟨Nat.le_refl _, Nat.le_refl _⟩))) | (split at ha <;> (obtain ⟨_, _, ha⟩ := ob_s ha; first | (have e := go_inj ha; subst e; exact ⟨Nat.le_refl _, Nat.le_refl _⟩) | (obtain ⟨_, _, ha⟩ := ob_s ha; (have e := go_inj ha; subst e; exact ⟨Nat.le_refl _, Nat.le_refl _⟩))))
  case getfield k =>
    replace ha : (match st with | .ref a :: r => (lk (mi_fl m) k).bind (fun q => (gF h a q.1 q.2).bind (fun x => go (pc + 3) ls (x :: r) h)) | _ => none) = _ := ha
    split at ha
    all_goals first | (cases ha; done) | (split at ha <;> first | (cases ha; done) | (have e := go_inj ha; subst e; exact ⟨Nat.le_refl _, Nat.le_refl _⟩)) | (have e := go_inj ha; subst e; exact ⟨Nat.le_refl _, Nat.le_refl _⟩) | (obtain ⟨_, _, ha⟩ := ob_s ha; first | (have e := go_inj ha; subst e; exact ⟨Nat.le_refl _, Nat.le_refl _⟩) | (obtain ⟨_, _, ha⟩ := ob_s ha; (have e := go_inj ha; subst e; exact ⟨Nat.le_refl _, Nat.le_refl _⟩))) | (split at ha <;> (obtain ⟨_, _, ha⟩ := ob_s ha; first | (have e := go_inj ha; subst e; exact ⟨Nat.le_refl _, Nat.le_refl _⟩) | (obtain ⟨_, _, ha⟩ := ob_s ha; (have e := go_inj ha; subst e; exact ⟨Nat.le_refl _, Nat.le_refl _⟩))))
  case iaload =>
    replace ha : (match st with | .int j :: .ref a :: r => (aI h 100 a j).bind (fun x => go (pc + 1) ls (.int x :: r) h) | _ => none) = _ := ha
    split at ha
    all_goals first | (cases ha; done) | (split at ha <;> first | (cases ha; done) | (have e := go_inj ha; subst e; exact ⟨Nat.le_refl _, Nat.le_refl _⟩)) | (have e := go_inj ha; subst e; exact ⟨Nat.le_refl _, Nat.le_refl _⟩) | (obtain ⟨_, _, ha⟩ := ob_s ha; first | (have e := go_inj ha; subst e; exact ⟨Nat.le_refl _, Nat.le_refl _⟩) | (obtain ⟨_, _, ha⟩ := ob_s ha; (have e := go_inj ha; subst e; exact ⟨Nat.le_refl _, Nat.le_refl _⟩))) | (split at ha <;> (obtain ⟨_, _, ha⟩ := ob_s ha; first | (have e := go_inj ha; subst e; exact ⟨Nat.le_refl _, Nat.le_refl _⟩) | (obtain ⟨_, _, ha⟩ := ob_s ha; (have e := go_inj ha; subst e; exact ⟨Nat.le_refl _, Nat.le_refl _⟩))))
  case baload =>
    replace ha : (match st with | .int j :: .ref a :: r => (aI h 101 a j).bind (fun x => go (pc + 1) ls (.int x :: r) h) | _ => none) = _ := ha
    split at ha
    all_goals first | (cases ha; done) | (split at ha <;> first | (cases ha; done) | (have e := go_inj ha; subst e; exact ⟨Nat.le_refl _, Nat.le_refl _⟩)) | (have e := go_inj ha; subst e; exact ⟨Nat.le_refl _, Nat.le_refl _⟩) | (obtain ⟨_, _, ha⟩ := ob_s ha; first | (have e := go_inj ha; subst e; exact ⟨Nat.le_refl _, Nat.le_refl _⟩) | (obtain ⟨_, _, ha⟩ := ob_s ha; (have e := go_inj ha; subst e; exact ⟨Nat.le_refl _, Nat.le_refl _⟩))) | (split at ha <;> (obtain ⟨_, _, ha⟩ := ob_s ha; first | (have e := go_inj ha; subst e; exact ⟨Nat.le_refl _, Nat.le_refl _⟩) | (obtain ⟨_, _, ha⟩ := ob_s ha; (have e := go_inj ha; subst e; exact ⟨Nat.le_refl _, Nat.le_refl _⟩))))
  case laload =>
    replace ha : (match st with | .int j :: .ref a :: r => (aL h a j).bind (fun x => go (pc + 1) ls (.long x :: r) h) | _ => none) = _ := ha
    split at ha
    all_goals first | (cases ha; done) | (split at ha <;> first | (cases ha; done) | (have e := go_inj ha; subst e; exact ⟨Nat.le_refl _, Nat.le_refl _⟩)) | (have e := go_inj ha; subst e; exact ⟨Nat.le_refl _, Nat.le_refl _⟩) | (obtain ⟨_, _, ha⟩ := ob_s ha; first | (have e := go_inj ha; subst e; exact ⟨Nat.le_refl _, Nat.le_refl _⟩) | (obtain ⟨_, _, ha⟩ := ob_s ha; (have e := go_inj ha; subst e; exact ⟨Nat.le_refl _, Nat.le_refl _⟩))) | (split at ha <;> (obtain ⟨_, _, ha⟩ := ob_s ha; first | (have e := go_inj ha; subst e; exact ⟨Nat.le_refl _, Nat.le_refl _⟩) | (obtain ⟨_, _, ha⟩ := ob_s ha; (have e := go_inj ha; subst e; exact ⟨Nat.le_refl _, Nat.le_refl _⟩))))
  case arraylength =>
    replace ha : (match st with | .ref a :: r => (aN h a).bind (fun x => go (pc + 1) ls (.int x :: r) h) | _ => none) = _ := ha
    split at ha
    all_goals first | (cases ha; done) | (split at ha <;> first | (cases ha; done) | (have e := go_inj ha; subst e; exact ⟨Nat.le_refl _, Nat.le_refl _⟩)) | (have e := go_inj ha; subst e; exact ⟨Nat.le_refl _, Nat.le_refl _⟩) | (obtain ⟨_, _, ha⟩ := ob_s ha; first | (have e := go_inj ha; subst e; exact ⟨Nat.le_refl _, Nat.le_refl _⟩) | (obtain ⟨_, _, ha⟩ := ob_s ha; (have e := go_inj ha; subst e; exact ⟨Nat.le_refl _, Nat.le_refl _⟩))) | (split at ha <;> (obtain ⟨_, _, ha⟩ := ob_s ha; first | (have e := go_inj ha; subst e; exact ⟨Nat.le_refl _, Nat.le_refl _⟩) | (obtain ⟨_, _, ha⟩ := ob_s ha; (have e := go_inj ha; subst e; exact ⟨Nat.le_refl _, Nat.le_refl _⟩))))
  case goto off =>
    replace ha := ob_s (show (tg pc off).bind (fun t => go t ls st h) = _ from ha)
    obtain ⟨t, ht, ha⟩ := ha
    have e := go_inj ha
    subst e
    exact ⟨Nat.le_refl _, Nat.le_refl _⟩
  case ldc k =>
    replace ha := ob_s (show (lk (mi_kl m) k).bind (fun v => go (pc + 2) ls (v :: st) h) = _ from ha)
    obtain ⟨v, hv, ha⟩ := ha
    have e := go_inj ha
    subst e
    exact ⟨Nat.le_refl _, Nat.le_refl _⟩
  case ldc_w k =>
    replace ha := ob_s (show (lk (mi_kl m) k).bind (fun v => go (pc + 3) ls (v :: st) h) = _ from ha)
    obtain ⟨v, hv, ha⟩ := ha
    have e := go_inj ha
    subst e
    exact ⟨Nat.le_refl _, Nat.le_refl _⟩
  case ldc2_w k =>
    replace ha := ob_s (show (lk (mi_kl m) k).bind (fun v => go (pc + 3) ls (v :: st) h) = _ from ha)
    obtain ⟨v, hv, ha⟩ := ha
    have e := go_inj ha
    subst e
    exact ⟨Nat.le_refl _, Nat.le_refl _⟩
  case getstatic k =>
    replace ha := ob_s (show (lk (mi_kl m) k).bind (fun v => go (pc + 3) ls (v :: st) h) = _ from ha)
    obtain ⟨v, hv, ha⟩ := ha
    have e := go_inj ha
    subst e
    exact ⟨Nat.le_refl _, Nat.le_refl _⟩
  all_goals (exfalso; revert ha; first | (intro ha; cases ha; done) | (show (match st with | [.int v] => _ | _ => none) = _ → False; intro ha; split at ha <;> (try split at ha) <;> cases ha) | (show (match st with | [.long v] => _ | _ => none) = _ → False; intro ha; split at ha <;> (try split at ha) <;> cases ha) | (show (match st with | [.ref v] => _ | _ => none) = _ → False; intro ha; split at ha <;> (try split at ha) <;> cases ha) | (show (match st with | [] => _ | _ => none) = _ → False; intro ha; split at ha <;> (try split at ha) <;> cases ha))
