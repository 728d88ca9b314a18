/-! a step that is no call and no end -/
theorem cal_no {P : List MI} {k pc : Nat} {ls st : List Value} {x' : Sx} (h : cal P k pc ls st = some (.inr (.inl x'))) : False := by
  unfold cal at h
  split at h
  · split at h
    · cases h
    · cases h
  · cases h
def okQi (m : MI) (i : Instr) : Bool := match i with
  | .ldc2_w k => (match lk (mi_kl m) k with
    | some (.long _) => true
    | some _ => false
    | none => true)
  | .ldc k => (match lk (mi_kl m) k with
    | some (.long _) => false
    | _ => true)
  | .ldc_w k => (match lk (mi_kl m) k with
    | some (.long _) => false
    | _ => true)
  | _ => true
def okQ (m : MI) : Bool := (mi_ins m).all (fun e => okQi m e.2.1)
theorem P_okq0 : P.all okQ = true := by decide +kernel
theorem P_okq {M : Nat} {m : MI} (h : P[M]? = some m) {pc : Nat} {i : Instr} {len : Nat} {ks : List Nat} (hi : lk (mi_ins m) pc = some (i, len, ks)) : okQi m i = true := by
  have h1 := List.all_eq_true.mp P_okq0 m (List.mem_of_getElem? h)
  exact List.all_eq_true.mp h1 _ (lk_mem hi)
theorem aw_int : Cond.arrayClass .int ∈ tw := tw_in 241 (by decide +kernel) rfl
theorem aw_byte : Cond.arrayClass .byte ∈ tw := tw_in 190 (by decide +kernel) rfl
theorem aw_long : Cond.arrayClass .long ∈ tw := tw_in 385 (by decide +kernel) rfl
section STEP3
variable {G : Gx} {p : Program} {l : Launch} {e : Env} {R : Room} {s : State} {mid : MethodId} {args : Array Value} {below : List Frame} {meth : Method} {c : Code} {Q : State → Prop} {m : MI} {k0 w0 : Nat}
set_option maxHeartbeats 4000000 in
theorem sp_step (C : Cx G p s mid args meth c m) (hz0 : s.heap.size = gN G + k0) (hR : 1 ≤ R.frames ∧ 64 ≤ R.locals) {X : Xw} {i : Instr} {len pc : Nat} {ls st : List Value} {h : Hp} {x' : Sx} (hok : okL m X i = true) (hqi : okQi m i = true) (hd : decode (mi_cc m) pc = .ok (i, ilen i len)) (ha : act2 P m i pc ls st h = some (.inr (.inl x'))) (hcap : cn x'.2.2.2 ≤ k0 + R.cells ∧ wd x'.2.2.2 ≤ w0 + R.slots) (K : WW G p l e R s mid args below meth c Q m k0 w0 x') : WW G p l e R s mid args below meth c Q m k0 w0 (pc, ls, st, h) := by
  cases i
  case iconst n =>
    have e := go_inj (show go (pc + 1) ls (.int (Int32.ofInt n) :: st) h = _ from ha)
    subst e
    intro L H locs cells slots hl hH hO hS hc hw
    exact lv_iconst C.1 C.2.1 hd rfl (K L H locs cells slots hl hH hO hS hc hw)
  case bipush n =>
    have e := go_inj (show go (pc + 2) ls (.int (Int8.ofInt n).toInt32 :: st) h = _ from ha)
    subst e
    intro L H locs cells slots hl hH hO hS hc hw
    exact lv_bipush C.1 C.2.1 hd rfl (K L H locs cells slots hl hH hO hS hc hw)
  case sipush n =>
    have e := go_inj (show go (pc + 3) ls (.int (Int16.ofInt n).toInt32 :: st) h = _ from ha)
    subst e
    intro L H locs cells slots hl hH hO hS hc hw
    exact lv_sipush C.1 C.2.1 hd rfl (K L H locs cells slots hl hH hO hS hc hw)
  case lconst n =>
    have e := go_inj (show go (pc + 1) ls (.long (Int64.ofNat n.val) :: st) h = _ from ha)
    subst e
    intro L H locs cells slots hl hH hO hS hc hw
    exact lv_lconst C.1 C.2.1 hd rfl (K L H locs cells slots hl hH hO hS hc hw)
  case iload_n k =>
    obtain ⟨x, hx, rfl⟩ := ldI_inv (show ldI (pc + 1) ls st h k.val = _ from ha)
    intro L H locs cells slots hl hH hO hS hc hw
    exact lv_iload_n C.1 C.2.1 hd rfl (hl.2.2.2 k.val (.int x) hx (by intro z; cases z)) (K L H locs cells slots hl hH hO hS hc hw)
  case iload k =>
    obtain ⟨x, hx, rfl⟩ := ldI_inv (show ldI (pc + 2) ls st h k = _ from ha)
    intro L H locs cells slots hl hH hO hS hc hw
    exact lv_iload C.1 C.2.1 hd (hl.2.2.2 k (.int x) hx (by intro z; cases z)) (K L H locs cells slots hl hH hO hS hc hw)
  case lload_n k =>
    obtain ⟨x, hx, rfl⟩ := ldL_inv (show ldL (pc + 1) ls st h k.val = _ from ha)
    intro L H locs cells slots hl hH hO hS hc hw
    exact lv_lload_n C.1 C.2.1 hd rfl (hl.2.2.2 k.val (.long x) hx (by intro z; cases z)) (K L H locs cells slots hl hH hO hS hc hw)
  case lload k =>
    obtain ⟨x, hx, rfl⟩ := ldL_inv (show ldL (pc + 2) ls st h k = _ from ha)
    intro L H locs cells slots hl hH hO hS hc hw
    exact lv_lload C.1 C.2.1 hd (hl.2.2.2 k (.long x) hx (by intro z; cases z)) (K L H locs cells slots hl hH hO hS hc hw)
  case aload_n k =>
    obtain ⟨x, hx, rfl⟩ := ldA_inv (show ldA (pc + 1) ls st h k.val = _ from ha)
    intro L H locs cells slots hl hH hO hS hc hw
    exact lv_aload_n C.1 C.2.1 hd rfl (hl.2.2.2 k.val (.ref x) hx (by intro z; cases z)) (K L H locs cells slots hl hH hO hS hc hw)
  case aload k =>
    obtain ⟨x, hx, rfl⟩ := ldA_inv (show ldA (pc + 2) ls st h k = _ from ha)
    intro L H locs cells slots hl hH hO hS hc hw
    exact lv_aload C.1 C.2.1 hd (hl.2.2.2 k (.ref x) hx (by intro z; cases z)) (K L H locs cells slots hl hH hO hS hc hw)
  case istore_n k =>
    obtain ⟨x, r, rfl, hi, rfl⟩ := stI_inv (show stI (pc + 1) ls st h k.val = _ from ha)
    intro L H locs cells slots hl hH hO hS hc hw
    exact lv_istore_n C.1 C.2.1 hd rfl (lvr_has hl) (by rw [← hl.2.2.1]; exact hi) rfl (fun L1 hL1 => K L1 H locs cells slots (lvr_sto1 (cx_c C) hl hL1) hH hO hS hc hw)
  case istore k =>
    obtain ⟨x, r, rfl, hi, rfl⟩ := stI_inv (show stI (pc + 2) ls st h k = _ from ha)
    intro L H locs cells slots hl hH hO hS hc hw
    exact lv_istore C.1 C.2.1 hd (lvr_has hl) (by rw [← hl.2.2.1]; exact hi) rfl (fun L1 hL1 => K L1 H locs cells slots (lvr_sto1 (cx_c C) hl hL1) hH hO hS hc hw)
  case lstore_n k =>
    obtain ⟨x, r, rfl, hi, rfl⟩ := stL_inv (show stL (pc + 1) ls st h k.val = _ from ha)
    intro L H locs cells slots hl hH hO hS hc hw
    exact lv_lstore_n C.1 C.2.1 hd rfl (lvr_has hl) (by rw [← hl.2.2.1]; exact hi) rfl (fun L1 hL1 => K L1 H locs cells slots (lvr_sto2 (cx_c C) hl hL1) hH hO hS hc hw)
  case lstore k =>
    obtain ⟨x, r, rfl, hi, rfl⟩ := stL_inv (show stL (pc + 2) ls st h k = _ from ha)
    intro L H locs cells slots hl hH hO hS hc hw
    exact lv_lstore C.1 C.2.1 hd (lvr_has hl) (by rw [← hl.2.2.1]; exact hi) rfl (fun L1 hL1 => K L1 H locs cells slots (lvr_sto2 (cx_c C) hl hL1) hH hO hS hc hw)
  case astore_n k =>
    obtain ⟨x, r, rfl, hi, rfl⟩ := stA_inv (show stA (pc + 1) ls st h k.val = _ from ha)
    intro L H locs cells slots hl hH hO hS hc hw
    exact lv_astore_n C.1 C.2.1 hd rfl (lvr_has hl) (by rw [← hl.2.2.1]; exact hi) rfl (fun L1 hL1 => K L1 H locs cells slots (lvr_sto1 (cx_c C) hl hL1) hH hO hS hc hw)
  case astore k =>
    obtain ⟨x, r, rfl, hi, rfl⟩ := stA_inv (show stA (pc + 2) ls st h k = _ from ha)
    intro L H locs cells slots hl hH hO hS hc hw
    exact lv_astore C.1 C.2.1 hd (lvr_has hl) (by rw [← hl.2.2.1]; exact hi) rfl (fun L1 hL1 => K L1 H locs cells slots (lvr_sto1 (cx_c C) hl hL1) hH hO hS hc hw)
  case iinc k n =>
    replace ha : (match ls[k]? with | some (.int x) => go (pc + 3) (sto1 ls k (.int (x + Int32.ofInt n))) st h | _ => none) = _ := ha
    split at ha
    next x hx =>
      have e := go_inj ha
      subst e
      intro L H locs cells slots hl hH hO hS hc hw
      obtain ⟨z, hz⟩ := List.getElem?_of_mem (mem_kn (G := G) (ls := ls) (q := (k, .int x)) |>.mpr ⟨.int x, hx, (by intro z; cases z), rfl⟩)
      exact lv_iinc C.1 C.2.1 hd (lvr_has hl) hz rfl (by rw [← hl.2.2.1]; exact (List.getElem?_eq_some_iff.mp hx).1) rfl (fun L1 hL1 => K L1 H locs cells slots (lvr_sto1 (w := .int (x + Int32.ofInt n)) (cx_c C) hl hL1) hH hO hS hc hw)
    next => cases ha
  case iadd =>
    obtain ⟨x, y, r, rfl, rfl⟩ := bi2_inv (show bi2 pc ls st h (fun x y => x + y) = _ from ha)
    intro L H locs cells slots hl hH hO hS hc hw
    exact lv_iadd C.1 C.2.1 hd (K L H locs cells slots hl hH hO hS hc hw)
  case isub =>
    obtain ⟨x, y, r, rfl, rfl⟩ := bi2_inv (show bi2 pc ls st h (fun x y => x - y) = _ from ha)
    intro L H locs cells slots hl hH hO hS hc hw
    exact lv_isub C.1 C.2.1 hd (K L H locs cells slots hl hH hO hS hc hw)
  case imul =>
    obtain ⟨x, y, r, rfl, rfl⟩ := bi2_inv (show bi2 pc ls st h (fun x y => x * y) = _ from ha)
    intro L H locs cells slots hl hH hO hS hc hw
    exact lv_imul C.1 C.2.1 hd (K L H locs cells slots hl hH hO hS hc hw)
  case iand =>
    obtain ⟨x, y, r, rfl, rfl⟩ := bi2_inv (show bi2 pc ls st h (fun x y => x &&& y) = _ from ha)
    intro L H locs cells slots hl hH hO hS hc hw
    exact lv_iand C.1 C.2.1 hd (K L H locs cells slots hl hH hO hS hc hw)
  case ior =>
    obtain ⟨x, y, r, rfl, rfl⟩ := bi2_inv (show bi2 pc ls st h (fun x y => x ||| y) = _ from ha)
    intro L H locs cells slots hl hH hO hS hc hw
    exact lv_ior C.1 C.2.1 hd (K L H locs cells slots hl hH hO hS hc hw)
  case ixor =>
    obtain ⟨x, y, r, rfl, rfl⟩ := bi2_inv (show bi2 pc ls st h (fun x y => x ^^^ y) = _ from ha)
    intro L H locs cells slots hl hH hO hS hc hw
    exact lv_ixor C.1 C.2.1 hd (K L H locs cells slots hl hH hO hS hc hw)
  case ishl =>
    obtain ⟨x, y, r, rfl, rfl⟩ := bi2_inv (show bi2 pc ls st h (fun x y => x <<< (y &&& 31)) = _ from ha)
    intro L H locs cells slots hl hH hO hS hc hw
    exact lv_ishl C.1 C.2.1 hd (K L H locs cells slots hl hH hO hS hc hw)
  case ishr =>
    obtain ⟨x, y, r, rfl, rfl⟩ := bi2_inv (show bi2 pc ls st h (fun x y => x >>> (y &&& 31)) = _ from ha)
    intro L H locs cells slots hl hH hO hS hc hw
    exact lv_ishr C.1 C.2.1 hd (K L H locs cells slots hl hH hO hS hc hw)
  case iushr =>
    obtain ⟨x, y, r, rfl, rfl⟩ := bi2_inv (show bi2 pc ls st h (fun x y => (x.toUInt32 >>> (y.toUInt32 &&& Int32.toUInt32 31)).toInt32) = _ from ha)
    intro L H locs cells slots hl hH hO hS hc hw
    exact lv_iushr C.1 C.2.1 hd rfl (K L H locs cells slots hl hH hO hS hc hw)
  case ladd =>
    obtain ⟨x, y, r, rfl, rfl⟩ := bl2_inv (show bl2 pc ls st h (fun x y => x + y) = _ from ha)
    intro L H locs cells slots hl hH hO hS hc hw
    exact lv_ladd C.1 C.2.1 hd (K L H locs cells slots hl hH hO hS hc hw)
  case lmul =>
    obtain ⟨x, y, r, rfl, rfl⟩ := bl2_inv (show bl2 pc ls st h (fun x y => x * y) = _ from ha)
    intro L H locs cells slots hl hH hO hS hc hw
    exact lv_lmul C.1 C.2.1 hd (K L H locs cells slots hl hH hO hS hc hw)
  case idiv =>
    replace ha : (match st with | .int y :: .int x :: r => if y = 0 then none else go (pc + 1) ls (.int (x / y) :: r) h | _ => none) = _ := ha
    split at ha
    next y x r =>
      by_cases h0 : y = 0
      · rw [if_pos h0] at ha; cases ha
      · rw [if_neg h0] at ha
        have e := go_inj ha
        subst e
        intro L H locs cells slots hl hH hO hS hc hw
        exact lv_idiv C.1 C.2.1 hd h0 (K L H locs cells slots hl hH hO hS hc hw)
    next => cases ha
  case irem =>
    replace ha : (match st with | .int y :: .int x :: r => if y = 0 then none else go (pc + 1) ls (.int (x - x / y * y) :: r) h | _ => none) = _ := ha
    split at ha
    next y x r =>
      by_cases h0 : y = 0
      · rw [if_pos h0] at ha; cases ha
      · rw [if_neg h0] at ha
        have e := go_inj ha
        subst e
        intro L H locs cells slots hl hH hO hS hc hw
        exact lv_irem C.1 C.2.1 hd h0 (K L H locs cells slots hl hH hO hS hc hw)
    next => cases ha
  case ldiv =>
    replace ha : (match st with | .long y :: .long x :: r => if y = 0 then none else go (pc + 1) ls (.long (x / y) :: r) h | _ => none) = _ := ha
    split at ha
    next y x r =>
      by_cases h0 : y = 0
      · rw [if_pos h0] at ha; cases ha
      · rw [if_neg h0] at ha
        have e := go_inj ha
        subst e
        intro L H locs cells slots hl hH hO hS hc hw
        exact lv_ldiv C.1 C.2.1 hd h0 (K L H locs cells slots hl hH hO hS hc hw)
    next => cases ha
  case lrem =>
    replace ha : (match st with | .long y :: .long x :: r => if y = 0 then none else go (pc + 1) ls (.long (x - x / y * y) :: r) h | _ => none) = _ := ha
    split at ha
    next y x r =>
      by_cases h0 : y = 0
      · rw [if_pos h0] at ha; cases ha
      · rw [if_neg h0] at ha
        have e := go_inj ha
        subst e
        intro L H locs cells slots hl hH hO hS hc hw
        exact lv_lrem C.1 C.2.1 hd h0 (K L H locs cells slots hl hH hO hS hc hw)
    next => cases ha
  case ineg =>
    replace ha : (match st with | .int x :: r => go (pc + 1) ls (.int (-x) :: r) h | _ => none) = _ := ha
    split at ha
    next x r =>
      have e := go_inj ha
      subst e
      intro L H locs cells slots hl hH hO hS hc hw
      exact lv_ineg C.1 C.2.1 hd (K L H locs cells slots hl hH hO hS hc hw)
    next => cases ha
  case lcmp =>
    replace ha : (match st with | .long y :: .long x :: r => go (pc + 1) ls (.int (lg_cmp x y) :: r) h | _ => none) = _ := ha
    split at ha
    next y x r =>
      have e := go_inj ha
      subst e
      intro L H locs cells slots hl hH hO hS hc hw
      exact W.lcmp C.1 C.2.1 hd (K L H locs cells slots hl hH hO hS hc hw)
    next => cases ha
  case i2l =>
    replace ha : (match st with | .int x :: r => go (pc + 1) ls (.long x.toInt64 :: r) h | _ => none) = _ := ha
    split at ha
    next x r =>
      have e := go_inj ha
      subst e
      intro L H locs cells slots hl hH hO hS hc hw
      exact lv_i2l C.1 C.2.1 hd rfl (K L H locs cells slots hl hH hO hS hc hw)
    next => cases ha
  case l2i =>
    replace ha : (match st with | .long x :: r => go (pc + 1) ls (.int x.toInt32 :: r) h | _ => none) = _ := ha
    split at ha
    next x r =>
      have e := go_inj ha
      subst e
      intro L H locs cells slots hl hH hO hS hc hw
      exact lv_l2i C.1 C.2.1 hd rfl (K L H locs cells slots hl hH hO hS hc hw)
    next => cases ha
  case i2b =>
    replace ha : (match st with | .int x :: r => go (pc + 1) ls (.int x.toInt8.toInt32 :: r) h | _ => none) = _ := ha
    split at ha
    next x r =>
      have e := go_inj ha
      subst e
      intro L H locs cells slots hl hH hO hS hc hw
      exact lv_i2b C.1 C.2.1 hd rfl (K L H locs cells slots hl hH hO hS hc hw)
    next => cases ha
  case i2c =>
    replace ha : (match st with | .int x :: r => go (pc + 1) ls (.int (x.toUInt32 % 65536).toInt32 :: r) h | _ => none) = _ := ha
    split at ha
    next x r =>
      have e := go_inj ha
      subst e
      intro L H locs cells slots hl hH hO hS hc hw
      exact lv_i2c C.1 C.2.1 hd rfl (K L H locs cells slots hl hH hO hS hc hw)
    next => cases ha
  case dup =>
    replace ha : (match st with | v :: r => if v.category = 1 then go (pc + 1) ls (v :: v :: r) h else none | _ => none) = _ := ha
    split at ha
    next v r =>
      by_cases h0 : v.category = 1
      · rw [if_pos h0] at ha
        have e := go_inj ha
        subst e
        intro L H locs cells slots hl hH hO hS hc hw
        exact lv_dup C.1 C.2.1 hd (by rw [vz_cat (cx_c C)]; exact h0) (K L H locs cells slots hl hH hO hS hc hw)
      · rw [if_neg h0] at ha; cases ha
    next => cases ha
  case pop =>
    replace ha : (match st with | v :: r => if v.category = 1 then go (pc + 1) ls (r) h else none | _ => none) = _ := ha
    split at ha
    next v r =>
      by_cases h0 : v.category = 1
      · rw [if_pos h0] at ha
        have e := go_inj ha
        subst e
        intro L H locs cells slots hl hH hO hS hc hw
        exact lv_pop C.1 C.2.1 hd (by rw [vz_cat (cx_c C)]; exact h0) (K L H locs cells slots hl hH hO hS hc hw)
      · rw [if_neg h0] at ha; cases ha
    next => cases ha
  case dup2 =>
    replace ha : (match st with | v :: w :: r => if v.category = 1 ∧ w.category = 1 then go (pc + 1) ls (v :: w :: v :: w :: r) h else none | _ => none) = _ := ha
    split at ha
    next v w r =>
      by_cases h0 : v.category = 1 ∧ w.category = 1
      · rw [if_pos h0] at ha
        have e := go_inj ha
        subst e
        intro L H locs cells slots hl hH hO hS hc hw
        exact lv_dup2_11 C.1 C.2.1 hd (by rw [vz_cat (cx_c C)]; exact h0.1) (by rw [vz_cat (cx_c C)]; exact h0.2) (K L H locs cells slots hl hH hO hS hc hw)
      · rw [if_neg h0] at ha; cases ha
    next => cases ha
  case goto off =>
    replace ha := ob_s (show (tg pc off).bind (fun t => go t ls st h) = _ from ha)
    obtain ⟨t, ht, ha⟩ := ha
    have e := go_inj ha
    subst e
    intro L H locs cells slots hl hH hO hS hc hw
    exact lv_goto C.1 C.2.1 hd (tg_s ht) (K L H locs cells slots hl hH hO hS hc hw)
  case ifCond cd off =>
    cases cd
    case eq =>
      obtain ⟨x, r, t, rfl, ht, rfl⟩ := br1_inv (show br1 pc ls st h off (fun x => decide (x = 0)) = _ from ha)
      intro L H locs cells slots hl hH hO hS hc hw
      exact lv_if_eq C.1 C.2.1 hd ht (fun z => (br_K K).1 (decide_eq_true z) L H locs cells slots hl hH hO hS hc hw) (fun z => (br_K K).2 (decide_eq_false z) L H locs cells slots hl hH hO hS hc hw)
    case ne =>
      obtain ⟨x, r, t, rfl, ht, rfl⟩ := br1_inv (show br1 pc ls st h off (fun x => decide (¬ x = 0)) = _ from ha)
      intro L H locs cells slots hl hH hO hS hc hw
      exact lv_if_ne C.1 C.2.1 hd ht (fun z => (br_K K).1 (decide_eq_true z) L H locs cells slots hl hH hO hS hc hw) (fun z => (br_K K).2 (decide_eq_false (fun q => q z)) L H locs cells slots hl hH hO hS hc hw)
    case lt =>
      obtain ⟨x, r, t, rfl, ht, rfl⟩ := br1_inv (show br1 pc ls st h off (fun x => decide (x < 0)) = _ from ha)
      intro L H locs cells slots hl hH hO hS hc hw
      exact lv_if_lt C.1 C.2.1 hd ht (fun z => (br_K K).1 (decide_eq_true z) L H locs cells slots hl hH hO hS hc hw) (fun z => (br_K K).2 (decide_eq_false z) L H locs cells slots hl hH hO hS hc hw)
    case ge =>
      obtain ⟨x, r, t, rfl, ht, rfl⟩ := br1_inv (show br1 pc ls st h off (fun x => decide (0 ≤ x)) = _ from ha)
      intro L H locs cells slots hl hH hO hS hc hw
      exact lv_if_ge C.1 C.2.1 hd ht (fun z => (br_K K).1 (decide_eq_true z) L H locs cells slots hl hH hO hS hc hw) (fun z => (br_K K).2 (decide_eq_false z) L H locs cells slots hl hH hO hS hc hw)
    case gt =>
      obtain ⟨x, r, t, rfl, ht, rfl⟩ := br1_inv (show br1 pc ls st h off (fun x => decide (0 < x)) = _ from ha)
      intro L H locs cells slots hl hH hO hS hc hw
      exact lv_if_gt C.1 C.2.1 hd ht (fun z => (br_K K).1 (decide_eq_true z) L H locs cells slots hl hH hO hS hc hw) (fun z => (br_K K).2 (decide_eq_false z) L H locs cells slots hl hH hO hS hc hw)
    case le =>
      obtain ⟨x, r, t, rfl, ht, rfl⟩ := br1_inv (show br1 pc ls st h off (fun x => decide (x ≤ 0)) = _ from ha)
      intro L H locs cells slots hl hH hO hS hc hw
      exact lv_if_le C.1 C.2.1 hd ht (fun z => (br_K K).1 (decide_eq_true z) L H locs cells slots hl hH hO hS hc hw) (fun z => (br_K K).2 (decide_eq_false z) L H locs cells slots hl hH hO hS hc hw)
  case if_icmp cd off =>
    cases cd
    case eq =>
      obtain ⟨x, y, r, t, rfl, ht, rfl⟩ := br2_inv (show br2 pc ls st h off (fun x y => decide (x = y)) = _ from ha)
      intro L H locs cells slots hl hH hO hS hc hw
      exact lv_icmp_eq C.1 C.2.1 hd ht (fun z => (br_K K).1 (decide_eq_true z) L H locs cells slots hl hH hO hS hc hw) (fun z => (br_K K).2 (decide_eq_false z) L H locs cells slots hl hH hO hS hc hw)
    case ne =>
      obtain ⟨x, y, r, t, rfl, ht, rfl⟩ := br2_inv (show br2 pc ls st h off (fun x y => decide (¬ x = y)) = _ from ha)
      intro L H locs cells slots hl hH hO hS hc hw
      exact lv_icmp_ne C.1 C.2.1 hd ht (fun z => (br_K K).1 (decide_eq_true z) L H locs cells slots hl hH hO hS hc hw) (fun z => (br_K K).2 (decide_eq_false (fun q => q z)) L H locs cells slots hl hH hO hS hc hw)
    case lt =>
      obtain ⟨x, y, r, t, rfl, ht, rfl⟩ := br2_inv (show br2 pc ls st h off (fun x y => decide (x < y)) = _ from ha)
      intro L H locs cells slots hl hH hO hS hc hw
      exact lv_icmp_lt C.1 C.2.1 hd ht (fun z => (br_K K).1 (decide_eq_true z) L H locs cells slots hl hH hO hS hc hw) (fun z => (br_K K).2 (decide_eq_false z) L H locs cells slots hl hH hO hS hc hw)
    case ge =>
      obtain ⟨x, y, r, t, rfl, ht, rfl⟩ := br2_inv (show br2 pc ls st h off (fun x y => decide (y ≤ x)) = _ from ha)
      intro L H locs cells slots hl hH hO hS hc hw
      exact lv_icmp_ge C.1 C.2.1 hd ht (fun z => (br_K K).1 (decide_eq_true z) L H locs cells slots hl hH hO hS hc hw) (fun z => (br_K K).2 (decide_eq_false z) L H locs cells slots hl hH hO hS hc hw)
    case gt =>
      obtain ⟨x, y, r, t, rfl, ht, rfl⟩ := br2_inv (show br2 pc ls st h off (fun x y => decide (y < x)) = _ from ha)
      intro L H locs cells slots hl hH hO hS hc hw
      exact lv_icmp_gt C.1 C.2.1 hd ht (fun z => (br_K K).1 (decide_eq_true z) L H locs cells slots hl hH hO hS hc hw) (fun z => (br_K K).2 (decide_eq_false z) L H locs cells slots hl hH hO hS hc hw)
    case le =>
      obtain ⟨x, y, r, t, rfl, ht, rfl⟩ := br2_inv (show br2 pc ls st h off (fun x y => decide (x ≤ y)) = _ from ha)
      intro L H locs cells slots hl hH hO hS hc hw
      exact lv_icmp_le C.1 C.2.1 hd ht (fun z => (br_K K).1 (decide_eq_true z) L H locs cells slots hl hH hO hS hc hw) (fun z => (br_K K).2 (decide_eq_false z) L H locs cells slots hl hH hO hS hc hw)
  case ifnull off =>
    replace ha : (match st with | .null :: r => (tg pc off).bind (fun t => go t ls r h) | .ref _ :: r => go (pc + 3) ls r h | _ => none) = _ := ha
    split at ha
    next r =>
      obtain ⟨t, ht, ha⟩ := ob_s ha
      have e := go_inj ha
      subst e
      intro L H locs cells slots hl hH hO hS hc hw
      exact lv_ifnullN C.1 C.2.1 hd (tg_s ht) (K L H locs cells slots hl hH hO hS hc hw)
    next b r =>
      have e := go_inj ha
      subst e
      intro L H locs cells slots hl hH hO hS hc hw
      exact lv_ifnull C.1 C.2.1 hd (K L H locs cells slots hl hH hO hS hc hw)
    next => cases ha
  case ifnonnull off =>
    replace ha : (match st with | .null :: r => go (pc + 3) ls r h | .ref _ :: r => (tg pc off).bind (fun t => go t ls r h) | _ => none) = _ := ha
    split at ha
    next r =>
      have e := go_inj ha
      subst e
      intro L H locs cells slots hl hH hO hS hc hw
      exact lv_ifnonnullN C.1 C.2.1 hd (K L H locs cells slots hl hH hO hS hc hw)
    next b r =>
      obtain ⟨t, ht, ha⟩ := ob_s ha
      have e := go_inj ha
      subst e
      intro L H locs cells slots hl hH hO hS hc hw
      exact lv_ifnonnull C.1 C.2.1 hd (tg_s ht) (K L H locs cells slots hl hH hO hS hc hw)
    next => cases ha
  case tableswitch dflt lo hi0 offs =>
    replace ha : (match st with | .int x :: r => if x.toInt < lo ∨ hi0 < x.toInt then (tg pc dflt).bind (fun t => go t ls r h) else (offs[(x.toInt - lo).toNat]?).bind (fun off => (tg pc off).bind (fun t => go t ls r h)) | _ => none) = _ := ha
    split at ha
    next x r =>
      by_cases h0 : x.toInt < lo ∨ hi0 < x.toInt
      · rw [if_pos h0] at ha
        obtain ⟨t, ht, ha⟩ := ob_s ha
        have e := go_inj ha
        subst e
        intro L H locs cells slots hl hH hO hS hc hw
        exact lv_tableOut C.1 C.2.1 hd h0 (tg_s ht) (K L H locs cells slots hl hH hO hS hc hw)
      · rw [if_neg h0] at ha
        obtain ⟨off, ho, ha⟩ := ob_s ha
        obtain ⟨t, ht, ha⟩ := ob_s ha
        have e := go_inj ha
        subst e
        intro L H locs cells slots hl hH hO hS hc hw
        exact lv_tableIn C.1 C.2.1 hd (fun z => h0 (Or.inl z)) (fun z => h0 (Or.inr z)) ho (tg_s ht) (K L H locs cells slots hl hH hO hS hc hw)
    next => cases ha
  case ldc k =>
    replace ha := ob_s (show (lk (mi_kl m) k).bind (fun v => go (pc + 2) ls (v :: st) h) = _ from ha)
    obtain ⟨v, hv, ha⟩ := ha
    have e := go_inj ha
    subst e
    replace hok : (match lk (mi_kl m) k, lk X.2.2.2 k with | some v, some w => okK (mi_own m) k v w | none, _ => true | _, _ => false) = true := hok
    rw [hv] at hok
    cases hw : lk X.2.2.2 k with
    | none => rw [hw] at hok; cases hok
    | some w =>
      rw [hw] at hok
      replace hok : okK (mi_own m) k v w = true := hok
      cases v with
      | int x =>
        intro L H locs cells slots hl hH hO hS hc hw
        exact lv_ldc C.1 C.2.1 (cx_o C) (cx_t C _ (wat_s hok)) hd (K L H locs cells slots hl hH hO hS hc hw)
      | long x =>
        intro L H locs cells slots hl hH hO hS hc hw
        exact absurd (show okQi m (.ldc k) = true from hqi) (by simp [okQi, hv])
      | ref n =>
        unfold okK at hok
        obtain ⟨q, hq, hq2⟩ := List.any_eq_true.mp hok
        simp only [Bool.and_eq_true, decide_eq_true_eq] at hq2
        obtain ⟨⟨q1, q2⟩, q3⟩ := hq2
        have hz := (cx_F C).2.2.2.1 q hq
        rw [q1, q2, q3] at hz
        intro L H locs cells slots hl hH hO hS hc hw
        exact va_ldcS C.1 C.2.1 (cx_o C) hz hd (K L H locs cells slots hl hH hO hS hc hw)
      | _ => cases hok
  case ldc_w k =>
    replace ha := ob_s (show (lk (mi_kl m) k).bind (fun v => go (pc + 3) ls (v :: st) h) = _ from ha)
    obtain ⟨v, hv, ha⟩ := ha
    have e := go_inj ha
    subst e
    replace hok : (match lk (mi_kl m) k, lk X.2.2.2 k with | some v, some w => okK (mi_own m) k v w | none, _ => true | _, _ => false) = true := hok
    rw [hv] at hok
    cases hw : lk X.2.2.2 k with
    | none => rw [hw] at hok; cases hok
    | some w =>
      rw [hw] at hok
      replace hok : okK (mi_own m) k v w = true := hok
      cases v with
      | int x =>
        intro L H locs cells slots hl hH hO hS hc hw
        exact lv_ldcw C.1 C.2.1 (cx_o C) (cx_t C _ (wat_s hok)) hd (K L H locs cells slots hl hH hO hS hc hw)
      | long x =>
        intro L H locs cells slots hl hH hO hS hc hw
        exact absurd (show okQi m (.ldc_w k) = true from hqi) (by simp [okQi, hv])
      | ref n =>
        unfold okK at hok
        obtain ⟨q, hq, hq2⟩ := List.any_eq_true.mp hok
        simp only [Bool.and_eq_true, decide_eq_true_eq] at hq2
        obtain ⟨⟨q1, q2⟩, q3⟩ := hq2
        have hz := (cx_F C).2.2.2.1 q hq
        rw [q1, q2, q3] at hz
        intro L H locs cells slots hl hH hO hS hc hw
        exact ldcwS C hz hd (K L H locs cells slots hl hH hO hS hc hw)
      | _ => cases hok
  case ldc2_w k =>
    replace ha := ob_s (show (lk (mi_kl m) k).bind (fun v => go (pc + 3) ls (v :: st) h) = _ from ha)
    obtain ⟨v, hv, ha⟩ := ha
    have e := go_inj ha
    subst e
    replace hok : (match lk (mi_kl m) k, lk X.2.2.2 k with | some v, some w => okK (mi_own m) k v w | none, _ => true | _, _ => false) = true := hok
    rw [hv] at hok
    cases hw : lk X.2.2.2 k with
    | none => rw [hw] at hok; cases hok
    | some w =>
      rw [hw] at hok
      replace hok : okK (mi_own m) k v w = true := hok
      cases v with
      | int x =>
        intro L H locs cells slots hl hH hO hS hc hw
        exact absurd (show okQi m (.ldc2_w k) = true from hqi) (by simp [okQi, hv])
      | long x =>
        intro L H locs cells slots hl hH hO hS hc hw
        exact lv_ldc2 C.1 C.2.1 (cx_o C) (cx_t C _ (wat_s hok)) hd (K L H locs cells slots hl hH hO hS hc hw)
      | ref n =>
        unfold okK at hok
        obtain ⟨q, hq, hq2⟩ := List.any_eq_true.mp hok
        simp only [Bool.and_eq_true, decide_eq_true_eq] at hq2
        obtain ⟨⟨q1, q2⟩, q3⟩ := hq2
        have hz := (cx_F C).2.2.2.1 q hq
        rw [q1, q2, q3] at hz
        intro L H locs cells slots hl hH hO hS hc hw
        exact absurd (show okQi m (.ldc2_w k) = true from hqi) (by simp [okQi, hv])
      | _ => cases hok
  case getstatic k =>
    replace ha := ob_s (show (lk (mi_kl m) k).bind (fun v => go (pc + 3) ls (v :: st) h) = _ from ha)
    obtain ⟨v, hv, ha⟩ := ha
    have e := go_inj ha
    subst e
    replace hok : (match lk (mi_kl m) k, lk X.2.2.2 k with | some v, some w => okG (mi_own m) k v w | none, _ => true | _, _ => false) = true := hok
    rw [hv] at hok
    obtain ⟨s1, s2, s3, s4⟩ := (cx_F C).2.2.1
    cases hw : lk X.2.2.2 k with
    | none => rw [hw] at hok; cases hok
    | some w =>
      rw [hw] at hok
      replace hok : okG (mi_own m) k v w = true := hok
      cases v with
      | int x =>
        unfold okG at hok
        simp only [Bool.and_eq_true, decide_eq_true_eq] at hok
        obtain ⟨rfl, hok⟩ := hok
        intro L H locs cells slots hl hH hO hS hc hw
        exact va_gets C.1 C.2.1 s3 hS (cx_o C) (cx_t C _ (wat_s hok)) (fun _ z => z) hd (K L H locs cells slots hl hH hO hS hc hw)
      | ref n =>
        unfold okG at hok
        simp only [Bool.and_eq_true, Bool.or_eq_true, decide_eq_true_eq] at hok
        rcases hok with ⟨rfl, hok⟩ | ⟨rfl, hok⟩
        · intro L H locs cells slots hl hH hO hS hc hw
          exact va_gets C.1 C.2.1 s1 hS (cx_o C) (cx_t C _ (wat_s hok)) (fun _ z => z) hd (K L H locs cells slots hl hH hO hS hc hw)
        · intro L H locs cells slots hl hH hO hS hc hw
          exact va_gets C.1 C.2.1 s2 hS (cx_o C) (cx_t C _ (wat_s hok)) (fun _ z => z) hd (K L H locs cells slots hl hH hO hS hc hw)
      | retAddr n =>
        unfold okG at hok
        simp only [Bool.and_eq_true, decide_eq_true_eq] at hok
        obtain ⟨rfl, hok⟩ := hok
        intro L H locs cells slots hl hH hO hS hc hw
        exact va_gets C.1 C.2.1 s4 hS (cx_o C) (cx_t C _ (wat_s hok)) (fun _ z => z) hd (K L H locs cells slots hl hH hO hS hc hw)
      | _ => cases hok
  case getfield k =>
    replace ha : (match st with | .ref a :: r => (lk (mi_fl m) k).bind (fun q => (gF h a q.1 q.2).bind (fun x => go (pc + 3) ls (x :: r) h)) | _ => none) = _ := ha
    split at ha
    next a r =>
      obtain ⟨q, hq, ha⟩ := ob_s ha
      obtain ⟨v, hv, ha⟩ := ob_s ha
      have e := go_inj ha
      subst e
      replace hok : (match lk (mi_fl m) k, lk X.1 k with | some q, some w => okF (mi_own m) k q.1 q.2 w | none, _ => true | _, _ => false) = true := hok
      rw [hq] at hok
      cases hw : lk X.1 k with
      | none => rw [hw] at hok; cases hok
      | some w =>
        rw [hw] at hok
        exact st_getf C hok hv hd K
    next => cases ha
  case putfield k =>
    replace ha : (match st with | x :: .ref a :: r => (lk (mi_fl m) k).bind (fun q => (pF h a q.1 q.2 x).bind (fun h' => go (pc + 3) ls r h')) | _ => none) = _ := ha
    split at ha
    next v a r =>
      obtain ⟨q, hq, ha⟩ := ob_s ha
      obtain ⟨h1, hv, ha⟩ := ob_s ha
      have e := go_inj ha
      subst e
      replace hok : (match lk (mi_fl m) k, lk X.1 k with | some q, some w => okP (mi_own m) (mi_y m).name k q.1 q.2 w | none, _ => true | _, _ => false) = true := hok
      rw [hq] at hok
      cases hw : lk X.1 k with
      | none => rw [hw] at hok; cases hok
      | some w =>
        rw [hw] at hok
        exact st_putf C hz0 hok hv hd K
    next => cases ha
  case iaload =>
    replace ha : (match st with | .int j :: .ref a :: r => (aI h 100 a j).bind (fun x => go (pc + 1) ls (.int x :: r) h) | _ => none) = _ := ha
    split at ha
    next j a r =>
      obtain ⟨x, hv, ha⟩ := ob_s ha
      have e := go_inj ha
      subst e
      exact st_iald C hv hd K
    next => cases ha
  case baload =>
    replace ha : (match st with | .int j :: .ref a :: r => (aI h 101 a j).bind (fun x => go (pc + 1) ls (.int x :: r) h) | _ => none) = _ := ha
    split at ha
    next j a r =>
      obtain ⟨x, hv, ha⟩ := ob_s ha
      have e := go_inj ha
      subst e
      exact st_bald C hv hd K
    next => cases ha
  case laload =>
    replace ha : (match st with | .int j :: .ref a :: r => (aL h a j).bind (fun x => go (pc + 1) ls (.long x :: r) h) | _ => none) = _ := ha
    split at ha
    next j a r =>
      obtain ⟨x, hv, ha⟩ := ob_s ha
      have e := go_inj ha
      subst e
      exact st_lald C hv hd K
    next => cases ha
  case arraylength =>
    replace ha : (match st with | .ref a :: r => (aN h a).bind (fun x => go (pc + 1) ls (.int x :: r) h) | _ => none) = _ := ha
    split at ha
    next a r =>
      obtain ⟨x, hv, ha⟩ := ob_s ha
      have e := go_inj ha
      subst e
      exact st_alen C hv hd K
    next => cases ha
  case iastore =>
    replace ha : (match st with | .int x :: .int j :: .ref a :: r => (sI h 100 a j x).bind (fun h' => go (pc + 1) ls r h') | _ => none) = _ := ha
    split at ha
    next x j a r =>
      obtain ⟨h1, hv, ha⟩ := ob_s ha
      have e := go_inj ha
      subst e
      exact st_iast C hz0 hv hd K
    next => cases ha
  case bastore =>
    replace ha : (match st with | .int x :: .int j :: .ref a :: r => (sI h 101 a j x.toInt8.toInt32).bind (fun h' => go (pc + 1) ls r h') | _ => none) = _ := ha
    split at ha
    next x j a r =>
      obtain ⟨h1, hv, ha⟩ := ob_s ha
      have e := go_inj ha
      subst e
      exact st_bast C hz0 hv hd K
    next => cases ha
  case lastore =>
    replace ha : (match st with | .long x :: .int j :: .ref a :: r => (sL h a j x).bind (fun h' => go (pc + 1) ls r h') | _ => none) = _ := ha
    split at ha
    next x j a r =>
      obtain ⟨h1, hv, ha⟩ := ob_s ha
      have e := go_inj ha
      subst e
      exact st_last C hz0 hv hd K
    next => cases ha
  case newarray ty =>
    cases ty
    case int =>
      replace ha : (match st with | .int n :: r => (nA h 100 n).bind (fun q => go (pc + 2) ls (.ref q.1 :: r) q.2) | _ => none) = _ := ha
      split at ha
      next n r =>
        obtain ⟨q, hv, ha⟩ := ob_s ha
        have e := go_inj ha
        subst e
        refine st_newa (t0 := 0) (fty := .int) C rfl aw_int rfl (by decide) (by decide) (fun U hU => hU) (fun H1 e he hc1 => ?_) hv hd hcap K
        rw [ce_i (by rw [kd_mkA, if_pos rfl])] at he
        cases he
        show H1[gN G + cn h]? = some (vp_cell _ _)
        rw [hc1]
        have e9 : iA (mkA h 100 n.toNatClampNeg) (cn h) = List.replicate n.toNatClampNeg 0 := by show up1 (iA h) (cn h) _ (cn h) = _; unfold up1; rw [if_pos rfl]
        rw [e9, List.length_replicate]
        rw [vp_cell_i]
        congr 2
        funext j
        rw [List.getD_eq_getElem?_getD, List.getElem?_replicate]
        split <;> rfl
      next => cases ha
    case byte =>
      replace ha : (match st with | .int n :: r => (nA h 101 n).bind (fun q => go (pc + 2) ls (.ref q.1 :: r) q.2) | _ => none) = _ := ha
      split at ha
      next n r =>
        obtain ⟨q, hv, ha⟩ := ob_s ha
        have e := go_inj ha
        subst e
        refine st_newa (t0 := 1) (fty := .byte) C rfl aw_byte rfl (by decide) (by decide) (fun U hU => hU) (fun H1 e he hc1 => ?_) hv hd hcap K
        rw [ce_b (by rw [kd_mkA, if_pos rfl])] at he
        cases he
        show H1[gN G + cn h]? = some (vp_cell _ _)
        rw [hc1]
        have e9 : iA (mkA h 101 n.toNatClampNeg) (cn h) = List.replicate n.toNatClampNeg 0 := by show up1 (iA h) (cn h) _ (cn h) = _; unfold up1; rw [if_pos rfl]
        rw [e9, List.length_replicate]
        rw [vp_cell_i]
        congr 2
        funext j
        rw [List.getD_eq_getElem?_getD, List.getElem?_replicate]
        split <;> rfl
      next => cases ha
    case long =>
      replace ha : (match st with | .int n :: r => (nA h 102 n).bind (fun q => go (pc + 2) ls (.ref q.1 :: r) q.2) | _ => none) = _ := ha
      split at ha
      next n r =>
        obtain ⟨q, hv, ha⟩ := ob_s ha
        have e := go_inj ha
        subst e
        refine st_newa (t0 := 2) (fty := .long) C rfl aw_long rfl (by decide) (by decide) (fun U hU => hU) (fun H1 e he hc1 => ?_) hv hd hcap K
        rw [ce_j (by rw [kd_mkA, if_pos rfl])] at he
        cases he
        show H1[gN G + cn h]? = some (vp_cell _ _)
        rw [hc1]
        have e9 : lA (mkA h 102 n.toNatClampNeg) (cn h) = List.replicate n.toNatClampNeg 0 := by show up1 (lA h) (cn h) _ (cn h) = _; unfold up1; rw [if_pos rfl]
        rw [e9, List.length_replicate]
        rw [vp_cell_l]
        congr 2
        funext j
        rw [List.getD_eq_getElem?_getD, List.getElem?_replicate]
        split <;> rfl
      next => cases ha
    all_goals (replace ha : (match st with | .int n :: r => (none : Option Ac) | _ => none) = _ := ha; split at ha <;> cases ha)
  case new k =>
    replace ha := ob_s (show (lk (mi_nl m) k).bind _ = _ from ha)
    obtain ⟨ci, hq, ha⟩ := ha
    by_cases h60 : ci = 60
    · rw [if_pos h60] at ha
      split at ha
      · cases ha
      · cases ha
    · rw [if_neg h60] at ha
      obtain ⟨q, hv, ha⟩ := ob_s ha
      have e := go_inj ha
      subst e
      replace hok : (match lk (mi_nl m) k, lk X.2.2.1 k with | some q, some w => okNw (mi_own m) k q w | none, _ => true | _, _ => false) = true := hok
      rw [hq] at hok
      cases hw : lk X.2.2.1 k with
      | none => rw [hw] at hok; cases hok
      | some w =>
        rw [hw] at hok
        exact st_new C h60 hok hv hd hcap K
  case invokevirtual k =>
    replace ha := ob_s (show (lk (mi_ml m) k).bind _ = _ from ha)
    obtain ⟨q, hq, ha⟩ := ha
    obtain ⟨mq, hm, ha⟩ := ob_s ha
    split at ha
    · exact (cal_no ha).elim
    · cases ha
  case invokespecial k =>
    replace ha := ob_s (show (lk (mi_ml m) k).bind _ = _ from ha)
    obtain ⟨q, hq, ha⟩ := ha
    by_cases h1 : q.1 = 1000
    · rw [if_pos h1] at ha
      split at ha
      next a r =>
        split at ha
        next hcat =>
          have e := go_inj ha
          subst e
          replace hok : (match lk (mi_ml m) k, lk X.2.1 k with | some q, some w => okN (mi_own m) k q.1 q.2 w | none, _ => true | _, _ => false) = true := hok
          rw [hq] at hok
          cases hw : lk X.2.1 k with
          | none => rw [hw] at hok; cases hok
          | some w =>
            rw [hw] at hok
            replace hok : okN (mi_own m) k q.1 q.2 w = true := hok
            unfold okN at hok
            rw [if_pos h1] at hok
            match w, hok with
            | [i1, i2, i3], hok =>
              simp only [Bool.and_eq_true] at hok
              obtain ⟨⟨w1, w2⟩, w3⟩ := hok
              intro L H locs cells slots hl hH hO hS hc hw
              refine W.objInit C.1 C.2.1 (cx_o C) (cx_t C _ (wat_s w1)) (cx_t C _ (wat_s w2)) (cx_t C _ (wat_s w3)) (g := F0 mid pc L ((Value.ref a :: r).map (vz G))) rfl (by rw [C.2.2.2.1]; exact hl.1) rfl hd hR.1 ?_ (K L H locs cells slots hl hH hO hS hc hw)
              show 2 * 0 + _ + 12 ≤ _
              rw [map_cats (cx_c C)]
              omega
        next => cases ha
      next => cases ha
    · rw [if_neg h1] at ha
      obtain ⟨mq, hm, ha⟩ := ob_s ha
      split at ha
      · exact (cal_no ha).elim
      · cases ha
  case invokestatic k =>
    replace ha := ob_s (show (lk (mi_ml m) k).bind _ = _ from ha)
    obtain ⟨q, hq, ha⟩ := ha
    by_cases h1 : q.1 = 1001
    · rw [if_pos h1] at ha
      split at ha
      next n dp b sp a r =>
        split at ha
        next hcat =>
          obtain ⟨h2, hv, ha⟩ := ob_s ha
          have e := go_inj ha
          subst e
          replace hok : (match lk (mi_ml m) k, lk X.2.1 k with | some q, some w => okS (mi_own m) k q.1 w | none, _ => true | _, _ => false) = true := hok
          rw [hq] at hok
          cases hw : lk X.2.1 k with
          | none => rw [hw] at hok; cases hok
          | some w =>
            rw [hw] at hok
            replace hok : okS (mi_own m) k q.1 w = true := hok
            rw [h1] at hok
            exact st_copy C hz0 hR hok hcat hv hd K
        next => cases ha
      next => cases ha
    · rw [if_neg h1] at ha
      split at ha
      · exact (cal_no ha).elim
      · cases ha
  all_goals (exfalso; revert ha; first | (intro ha; cases ha; done) | (show (match st with | [.int v] => _ | _ => none) = _ → False; intro ha; split at ha <;> (try split at ha) <;> cases ha) | (show (match st with | [.long v] => _ | _ => none) = _ → False; intro ha; split at ha <;> (try split at ha) <;> cases ha) | (show (match st with | [.ref v] => _ | _ => none) = _ → False; intro ha; split at ha <;> (try split at ha) <;> cases ha) | (show (match st with | [] => _ | _ => none) = _ → False; intro ha; split at ha <;> (try split at ha) <;> cases ha))
end STEP3
