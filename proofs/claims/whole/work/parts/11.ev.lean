/-! big steps of the abstract machine: 'Ev P d M x r': method M at x comes to r, d calls deep at most -/
theorem run_more {P : List MI} (n : Nat) : ∀ (d M : Nat) (x : Sx) (r : Option Value × Hp), run P n d M x = some r → run P (n + 1) d M x = some r := by
  induction n with
  | zero => intro d M x r h; cases h
  | succ n ih =>
    intro d M x r h
    unfold run at h ⊢
    cases hm : P[M]? with
    | none => rw [hm] at h; cases h
    | some m =>
      rw [hm] at h
      simp only at h ⊢
      cases ha : act P m x with
      | none => rw [ha] at h; cases h
      | some a =>
        rw [ha] at h
        match a, h with
        | .inl r', h => exact h
        | .inr (.inl x'), h => exact ih _ _ _ _ h
        | .inr (.inr (k, as, pc, ls, rest)), h =>
          match d, h with
          | 0, h => cases h
          | d' + 1, h =>
            simp only at h ⊢
            cases hk : P[k]? with
            | none => rw [hk] at h; cases h
            | some mq =>
              rw [hk] at h
              simp only at h ⊢
              by_cases hl0 : (ini (mi_mx mq) as).length = mi_mx mq
              case neg => rw [if_pos hl0] at h; cases h
              rw [if_neg (fun z => z hl0)] at h ⊢
              cases hq : run P n d' k (0, ini (mi_mx mq) as, [], x.2.2.2) with
              | none => rw [hq] at h; cases h
              | some q =>
                rw [hq] at h
                simp only at h
                rw [ih _ _ _ _ hq]
                simp only
                by_cases hz : q.1 = some (.retAddr 1)
                · rw [if_pos hz] at h ⊢
                  by_cases hM : M = 0
                  · rw [if_pos hM] at h ⊢; exact ih _ _ _ _ h
                  · rw [if_neg hM] at h; cases h
                · rw [if_neg hz] at h ⊢; exact ih _ _ _ _ h
theorem run_le {P : List MI} {n n2 : Nat} (hn : n ≤ n2) {d M : Nat} {x : Sx} {r : Option Value × Hp} (h : run P n d M x = some r) : run P n2 d M x = some r := by
  induction hn with
  | refl => exact h
  | step _ ih => exact run_more _ _ _ _ _ ih
def Ev (P : List MI) (d M : Nat) (x : Sx) (r : Option Value × Hp) : Prop := ∃ n, run P n d M x = some r
def dv (x y : Int32) : Option Int32 := if y = 0 then none else some (x / y)
def rm32 (x y : Int32) : Option Int32 := if y = 0 then none else some (x - x / y * y)
def dv64 (x y : Int64) : Option Int64 := if y = 0 then none else some (x / y)
def rm64 (x y : Int64) : Option Int64 := if y = 0 then none else some (x - x / y * y)
section XE
variable {P : List MI} {d M : Nat} {m : MI} {pc : Nat} {ls : List Value} {st : List Value} {h : Hp} {r : Option Value × Hp} {ks : List Nat} {len : Nat} {i : Instr}
theorem ev_kls {ls' : List Value} (hM : P[M]? = some m) (hi : lk (mi_ins m) pc = some (i, len, ks)) (hk : kls ks ls = ls') (hk2 : kls ks ls' = ls') (K : Ev P d M (pc, ls', st, h) r) : Ev P d M (pc, ls, st, h) r := by
  obtain ⟨n, hn⟩ := K
  refine ⟨n, ?_⟩
  cases n with
  | zero => cases hn
  | succ n =>
    unfold run at hn ⊢
    have e : act P m (pc, ls, st, h) = act P m (pc, ls', st, h) := by
      unfold act
      simp only [hi, hk, hk2]
    rw [hM] at hn ⊢
    simp only at hn ⊢
    rw [e]
    exact hn
theorem ev_go {x' : Sx} (hM : P[M]? = some m) (hi : lk (mi_ins m) pc = some (i, len, ks)) (hk : kls ks ls = ls) (ha : act2 P m i pc ls st h = some (.inr (.inl x'))) (K : Ev P d M x' r) : Ev P d M (pc, ls, st, h) r := by
  obtain ⟨n, hn⟩ := K
  refine ⟨n + 1, ?_⟩
  have e : act P m (pc, ls, st, h) = some (.inr (.inl x')) := by
    unfold act
    simp only [hi, hk]
    exact ha
  unfold run
  rw [hM]
  simp only [e]
  exact hn
theorem ev_ret {r' : Option Value × Hp} (hM : P[M]? = some m) (hi : lk (mi_ins m) pc = some (i, len, ks)) (hk : kls ks ls = ls) (ha : act2 P m i pc ls st h = some (.inl r')) (hr : r' = r) : Ev P d M (pc, ls, st, h) r := by
  refine ⟨1, ?_⟩
  have e : act P m (pc, ls, st, h) = some (.inl r') := by
    unfold act
    simp only [hi, hk]
    exact ha
  unfold run
  rw [hM]
  simp only [e, hr]
theorem ev_cal {k : Nat} {as : List Value} {pc2 : Nat} {rest : List Value} {mq : MI} {q : Option Value × Hp} {ls2 : List Value} (hM : P[M]? = some m) (hi : lk (mi_ins m) pc = some (i, len, ks)) (hk : kls ks ls = ls) (ha : act2 P m i pc ls st h = some (.inr (.inr (k, as, pc2, ls2, rest)))) (hq : P[k]? = some mq) (hl0 : (ini (mi_mx mq) as).length = mi_mx mq) (hd : 0 < d) (C : Ev P (d - 1) k (0, ini (mi_mx mq) as, [], h) q) (hz : ¬ q.1 = some (.retAddr 1)) (K : Ev P d M (pc2, ls2, q.1.toList ++ rest, q.2) r) : Ev P d M (pc, ls, st, h) r := by
  obtain ⟨n, hn⟩ := C
  obtain ⟨n2, hn2⟩ := K
  obtain ⟨d', rfl⟩ : ∃ d', d = d' + 1 := ⟨d - 1, by omega⟩
  refine ⟨max n n2 + 1, ?_⟩
  have e : act P m (pc, ls, st, h) = some (.inr (.inr (k, as, pc2, ls2, rest))) := by
    unfold act
    simp only [hi, hk]
    exact ha
  have e1 : run P (max n n2) d' k (0, ini (mi_mx mq) as, [], h) = some q := run_le (Nat.le_max_left n n2) hn
  unfold run
  rw [hM]
  simp only [e, hq]
  rw [if_neg (fun z => z hl0), e1]
  simp only
  rw [if_neg hz]
  exact run_le (Nat.le_max_right n n2) hn2
/-- the catch of the law's own led -/
theorem ev_catch {k : Nat} {as : List Value} {pc2 : Nat} {rest : List Value} {mq : MI} {q : Option Value × Hp} {ls2 : List Value} (h0 : M = 0) (hM : P[M]? = some m) (hi : lk (mi_ins m) pc = some (i, len, ks)) (hk : kls ks ls = ls) (ha : act2 P m i pc ls st h = some (.inr (.inr (k, as, pc2, ls2, rest)))) (hq : P[k]? = some mq) (hl0 : (ini (mi_mx mq) as).length = mi_mx mq) (hd : 0 < d) (C : Ev P (d - 1) k (0, ini (mi_mx mq) as, [], h) q) (hz : q.1 = some (.retAddr 1)) (K : Ev P d M (13, ls2, [], q.2) r) : Ev P d M (pc, ls, st, h) r := by
  obtain ⟨n, hn⟩ := C
  obtain ⟨n2, hn2⟩ := K
  obtain ⟨d', rfl⟩ : ∃ d', d = d' + 1 := ⟨d - 1, by omega⟩
  refine ⟨max n n2 + 1, ?_⟩
  have e : act P m (pc, ls, st, h) = some (.inr (.inr (k, as, pc2, ls2, rest))) := by
    unfold act
    simp only [hi, hk]
    exact ha
  have e1 : run P (max n n2) d' k (0, ini (mi_mx mq) as, [], h) = some q := run_le (Nat.le_max_left n n2) hn
  unfold run
  rw [hM]
  simp only [e, hq]
  rw [if_neg (fun z => z hl0), e1]
  simp only
  rw [if_pos hz, if_pos h0]
  exact run_le (Nat.le_max_right n n2) hn2
-- a row an instruction
theorem ev_iconst {n : Int} {v : Int32} {pc' : Nat} (hM : P[M]? = some m) (hi : lk (mi_ins m) pc = some (.iconst n, len, ks)) (hk : kls ks ls = ls) (hv : Int32.ofInt n = v) (hp : pc + 1 = pc') (K : Ev P d M (pc', ls, .int v :: st, h) r) : Ev P d M (pc, ls, st, h) r := by
  subst hv; subst hp; exact ev_go hM hi hk rfl K
theorem ev_bipush {n : Int} {v : Int32} {pc' : Nat} (hM : P[M]? = some m) (hi : lk (mi_ins m) pc = some (.bipush n, len, ks)) (hk : kls ks ls = ls) (hv : (Int8.ofInt n).toInt32 = v) (hp : pc + 2 = pc') (K : Ev P d M (pc', ls, .int v :: st, h) r) : Ev P d M (pc, ls, st, h) r := by
  subst hv; subst hp; exact ev_go hM hi hk rfl K
theorem ev_sipush {n : Int} {v : Int32} {pc' : Nat} (hM : P[M]? = some m) (hi : lk (mi_ins m) pc = some (.sipush n, len, ks)) (hk : kls ks ls = ls) (hv : (Int16.ofInt n).toInt32 = v) (hp : pc + 3 = pc') (K : Ev P d M (pc', ls, .int v :: st, h) r) : Ev P d M (pc, ls, st, h) r := by
  subst hv; subst hp; exact ev_go hM hi hk rfl K
theorem ev_lconst {n : Fin 2} {v : Int64} {pc' : Nat} (hM : P[M]? = some m) (hi : lk (mi_ins m) pc = some (.lconst n, len, ks)) (hk : kls ks ls = ls) (hv : Int64.ofNat n.val = v) (hp : pc + 1 = pc') (K : Ev P d M (pc', ls, .long v :: st, h) r) : Ev P d M (pc, ls, st, h) r := by
  subst hv; subst hp; exact ev_go hM hi hk rfl K
theorem ev_iload_n {k : Fin 4} {x : Int32} {pc' : Nat} (hM : P[M]? = some m) (hi : lk (mi_ins m) pc = some (.iload_n k, len, ks)) (hk : kls ks ls = ls) (hl : ls[k.val]? = some (.int x)) (hp : pc + 1 = pc') (K : Ev P d M (pc', ls, .int x :: st, h) r) : Ev P d M (pc, ls, st, h) r := by
  subst hp; exact ev_go hM hi hk (by show ldI _ _ _ _ _ = _; unfold ldI; rw [hl]; rfl) K
theorem ev_iload {k : Nat} {x : Int32} {pc' : Nat} (hM : P[M]? = some m) (hi : lk (mi_ins m) pc = some (.iload k, len, ks)) (hk : kls ks ls = ls) (hl : ls[k]? = some (.int x)) (hp : pc + 2 = pc') (K : Ev P d M (pc', ls, .int x :: st, h) r) : Ev P d M (pc, ls, st, h) r := by
  subst hp; exact ev_go hM hi hk (by show ldI _ _ _ _ _ = _; unfold ldI; rw [hl]; rfl) K
theorem ev_lload_n {k : Fin 4} {x : Int64} {pc' : Nat} (hM : P[M]? = some m) (hi : lk (mi_ins m) pc = some (.lload_n k, len, ks)) (hk : kls ks ls = ls) (hl : ls[k.val]? = some (.long x)) (hp : pc + 1 = pc') (K : Ev P d M (pc', ls, .long x :: st, h) r) : Ev P d M (pc, ls, st, h) r := by
  subst hp; exact ev_go hM hi hk (by show ldL _ _ _ _ _ = _; unfold ldL; rw [hl]; rfl) K
theorem ev_lload {k : Nat} {x : Int64} {pc' : Nat} (hM : P[M]? = some m) (hi : lk (mi_ins m) pc = some (.lload k, len, ks)) (hk : kls ks ls = ls) (hl : ls[k]? = some (.long x)) (hp : pc + 2 = pc') (K : Ev P d M (pc', ls, .long x :: st, h) r) : Ev P d M (pc, ls, st, h) r := by
  subst hp; exact ev_go hM hi hk (by show ldL _ _ _ _ _ = _; unfold ldL; rw [hl]; rfl) K
theorem ev_aload_n {k : Fin 4} {x : Nat} {pc' : Nat} (hM : P[M]? = some m) (hi : lk (mi_ins m) pc = some (.aload_n k, len, ks)) (hk : kls ks ls = ls) (hl : ls[k.val]? = some (.ref x)) (hp : pc + 1 = pc') (K : Ev P d M (pc', ls, .ref x :: st, h) r) : Ev P d M (pc, ls, st, h) r := by
  subst hp; exact ev_go hM hi hk (by show ldA _ _ _ _ _ = _; unfold ldA; rw [hl]; rfl) K
theorem ev_aload {k : Nat} {x : Nat} {pc' : Nat} (hM : P[M]? = some m) (hi : lk (mi_ins m) pc = some (.aload k, len, ks)) (hk : kls ks ls = ls) (hl : ls[k]? = some (.ref x)) (hp : pc + 2 = pc') (K : Ev P d M (pc', ls, .ref x :: st, h) r) : Ev P d M (pc, ls, st, h) r := by
  subst hp; exact ev_go hM hi hk (by show ldA _ _ _ _ _ = _; unfold ldA; rw [hl]; rfl) K
theorem ev_istore_n {k : Fin 4} {x : Int32} {pc' : Nat} {ls' : List Value} (hM : P[M]? = some m) (hi : lk (mi_ins m) pc = some (.istore_n k, len, ks)) (hk : kls ks ls = ls) (hl : k.val < ls.length) (hs : sto1 ls k.val (.int x) = ls') (hp : pc + 1 = pc') (K : Ev P d M (pc', ls', st, h) r) : Ev P d M (pc, ls, .int x :: st, h) r := by
  subst hp; subst hs; exact ev_go hM hi hk (by show stI (pc + 1) ls (.int x :: st) h k.val = _; unfold stI; simp only; rw [if_pos hl]; rfl) K
theorem ev_istore {k : Nat} {x : Int32} {pc' : Nat} {ls' : List Value} (hM : P[M]? = some m) (hi : lk (mi_ins m) pc = some (.istore k, len, ks)) (hk : kls ks ls = ls) (hl : k < ls.length) (hs : sto1 ls k (.int x) = ls') (hp : pc + 2 = pc') (K : Ev P d M (pc', ls', st, h) r) : Ev P d M (pc, ls, .int x :: st, h) r := by
  subst hp; subst hs; exact ev_go hM hi hk (by show stI (pc + 2) ls (.int x :: st) h k = _; unfold stI; simp only; rw [if_pos hl]; rfl) K
theorem ev_lstore_n {k : Fin 4} {x : Int64} {pc' : Nat} {ls' : List Value} (hM : P[M]? = some m) (hi : lk (mi_ins m) pc = some (.lstore_n k, len, ks)) (hk : kls ks ls = ls) (hl : k.val + 1 < ls.length) (hs : sto2 ls k.val (.long x) = ls') (hp : pc + 1 = pc') (K : Ev P d M (pc', ls', st, h) r) : Ev P d M (pc, ls, .long x :: st, h) r := by
  subst hp; subst hs; exact ev_go hM hi hk (by show stL (pc + 1) ls (.long x :: st) h k.val = _; unfold stL; simp only; rw [if_pos hl]; rfl) K
theorem ev_lstore {k : Nat} {x : Int64} {pc' : Nat} {ls' : List Value} (hM : P[M]? = some m) (hi : lk (mi_ins m) pc = some (.lstore k, len, ks)) (hk : kls ks ls = ls) (hl : k + 1 < ls.length) (hs : sto2 ls k (.long x) = ls') (hp : pc + 2 = pc') (K : Ev P d M (pc', ls', st, h) r) : Ev P d M (pc, ls, .long x :: st, h) r := by
  subst hp; subst hs; exact ev_go hM hi hk (by show stL (pc + 2) ls (.long x :: st) h k = _; unfold stL; simp only; rw [if_pos hl]; rfl) K
theorem ev_astore_n {k : Fin 4} {x : Nat} {pc' : Nat} {ls' : List Value} (hM : P[M]? = some m) (hi : lk (mi_ins m) pc = some (.astore_n k, len, ks)) (hk : kls ks ls = ls) (hl : k.val < ls.length) (hs : sto1 ls k.val (.ref x) = ls') (hp : pc + 1 = pc') (K : Ev P d M (pc', ls', st, h) r) : Ev P d M (pc, ls, .ref x :: st, h) r := by
  subst hp; subst hs; exact ev_go hM hi hk (by show stA (pc + 1) ls (.ref x :: st) h k.val = _; unfold stA; simp only; rw [if_pos hl]; rfl) K
theorem ev_astore {k : Nat} {x : Nat} {pc' : Nat} {ls' : List Value} (hM : P[M]? = some m) (hi : lk (mi_ins m) pc = some (.astore k, len, ks)) (hk : kls ks ls = ls) (hl : k < ls.length) (hs : sto1 ls k (.ref x) = ls') (hp : pc + 2 = pc') (K : Ev P d M (pc', ls', st, h) r) : Ev P d M (pc, ls, .ref x :: st, h) r := by
  subst hp; subst hs; exact ev_go hM hi hk (by show stA (pc + 2) ls (.ref x :: st) h k = _; unfold stA; simp only; rw [if_pos hl]; rfl) K
theorem ev_iinc {k : Nat} {n : Int} {v x : Int32} {pc' : Nat} {ls' : List Value} (hM : P[M]? = some m) (hi : lk (mi_ins m) pc = some (.iinc k n, len, ks)) (hk : kls ks ls = ls) (hl : ls[k]? = some (.int x)) (hv : Int32.ofInt n = v) (hs : sto1 ls k (.int (x + v)) = ls') (hp : pc + 3 = pc') (K : Ev P d M (pc', ls', st, h) r) : Ev P d M (pc, ls, st, h) r := by
  subst hp; subst hs; subst hv
  refine ev_go hM hi hk ?_ K
  show (match ls[k]? with | some (.int x) => go (pc + 3) (sto1 ls k (.int (x + Int32.ofInt n))) st h | _ => none) = _
  rw [hl]; rfl
-- two ints, one int, two longs
theorem ev_b2 {f : Int32 → Int32 → Int32} {x y : Int32} {pc' : Nat} (hM : P[M]? = some m) (hi : lk (mi_ins m) pc = some (i, len, ks)) (hk : kls ks ls = ls) (ha : ∀ pc ls st h, act2 P m i pc ls st h = bi2 pc ls st h f) (hp : pc + 1 = pc') (K : Ev P d M (pc', ls, .int (f x y) :: st, h) r) : Ev P d M (pc, ls, .int y :: .int x :: st, h) r := by
  subst hp; exact ev_go hM hi hk (by rw [ha]; rfl) K
theorem ev_bl2 {f : Int64 → Int64 → Int64} {x y : Int64} {pc' : Nat} (hM : P[M]? = some m) (hi : lk (mi_ins m) pc = some (i, len, ks)) (hk : kls ks ls = ls) (ha : ∀ pc ls st h, act2 P m i pc ls st h = bl2 pc ls st h f) (hp : pc + 1 = pc') (K : Ev P d M (pc', ls, .long (f x y) :: st, h) r) : Ev P d M (pc, ls, .long y :: .long x :: st, h) r := by
  subst hp; exact ev_go hM hi hk (by rw [ha]; rfl) K
theorem ev_idiv {x y z : Int32} {pc' : Nat} (hM : P[M]? = some m) (hi : lk (mi_ins m) pc = some (.idiv, len, ks)) (hk : kls ks ls = ls) (hz : dv x y = some z) (hp : pc + 1 = pc') (K : Ev P d M (pc', ls, .int z :: st, h) r) : Ev P d M (pc, ls, .int y :: .int x :: st, h) r := by
  subst hp
  unfold dv at hz
  by_cases h0 : y = 0
  · rw [if_pos h0] at hz; cases hz
  · rw [if_neg h0] at hz
    cases hz
    exact ev_go hM hi hk (by show (if y = 0 then none else _) = _; rw [if_neg h0]; rfl) K
theorem ev_irem {x y z : Int32} {pc' : Nat} (hM : P[M]? = some m) (hi : lk (mi_ins m) pc = some (.irem, len, ks)) (hk : kls ks ls = ls) (hz : rm32 x y = some z) (hp : pc + 1 = pc') (K : Ev P d M (pc', ls, .int z :: st, h) r) : Ev P d M (pc, ls, .int y :: .int x :: st, h) r := by
  subst hp
  unfold rm32 at hz
  by_cases h0 : y = 0
  · rw [if_pos h0] at hz; cases hz
  · rw [if_neg h0] at hz
    cases hz
    exact ev_go hM hi hk (by show (if y = 0 then none else _) = _; rw [if_neg h0]; rfl) K
theorem ev_ldiv {x y z : Int64} {pc' : Nat} (hM : P[M]? = some m) (hi : lk (mi_ins m) pc = some (.ldiv, len, ks)) (hk : kls ks ls = ls) (hz : dv64 x y = some z) (hp : pc + 1 = pc') (K : Ev P d M (pc', ls, .long z :: st, h) r) : Ev P d M (pc, ls, .long y :: .long x :: st, h) r := by
  subst hp
  unfold dv64 at hz
  by_cases h0 : y = 0
  · rw [if_pos h0] at hz; cases hz
  · rw [if_neg h0] at hz
    cases hz
    exact ev_go hM hi hk (by show (if y = 0 then none else _) = _; rw [if_neg h0]; rfl) K
theorem ev_lrem {x y z : Int64} {pc' : Nat} (hM : P[M]? = some m) (hi : lk (mi_ins m) pc = some (.lrem, len, ks)) (hk : kls ks ls = ls) (hz : rm64 x y = some z) (hp : pc + 1 = pc') (K : Ev P d M (pc', ls, .long z :: st, h) r) : Ev P d M (pc, ls, .long y :: .long x :: st, h) r := by
  subst hp
  unfold rm64 at hz
  by_cases h0 : y = 0
  · rw [if_pos h0] at hz; cases hz
  · rw [if_neg h0] at hz
    cases hz
    exact ev_go hM hi hk (by show (if y = 0 then none else _) = _; rw [if_neg h0]; rfl) K
theorem ev_ineg {x : Int32} {pc' : Nat} (hM : P[M]? = some m) (hi : lk (mi_ins m) pc = some (.ineg, len, ks)) (hk : kls ks ls = ls) (hp : pc + 1 = pc') (K : Ev P d M (pc', ls, .int (-x) :: st, h) r) : Ev P d M (pc, ls, .int x :: st, h) r := by
  subst hp; exact ev_go hM hi hk rfl K
theorem ev_lcmp {x y : Int64} {pc' : Nat} (hM : P[M]? = some m) (hi : lk (mi_ins m) pc = some (.lcmp, len, ks)) (hk : kls ks ls = ls) (hp : pc + 1 = pc') (K : Ev P d M (pc', ls, .int (lg_cmp x y) :: st, h) r) : Ev P d M (pc, ls, .long y :: .long x :: st, h) r := by
  subst hp; exact ev_go hM hi hk rfl K
theorem ev_i2l {x : Int32} {pc' : Nat} (hM : P[M]? = some m) (hi : lk (mi_ins m) pc = some (.i2l, len, ks)) (hk : kls ks ls = ls) (hp : pc + 1 = pc') (K : Ev P d M (pc', ls, .long x.toInt64 :: st, h) r) : Ev P d M (pc, ls, .int x :: st, h) r := by
  subst hp; exact ev_go hM hi hk rfl K
theorem ev_l2i {x : Int64} {pc' : Nat} (hM : P[M]? = some m) (hi : lk (mi_ins m) pc = some (.l2i, len, ks)) (hk : kls ks ls = ls) (hp : pc + 1 = pc') (K : Ev P d M (pc', ls, .int x.toInt32 :: st, h) r) : Ev P d M (pc, ls, .long x :: st, h) r := by
  subst hp; exact ev_go hM hi hk rfl K
theorem ev_i2b {x : Int32} {pc' : Nat} (hM : P[M]? = some m) (hi : lk (mi_ins m) pc = some (.i2b, len, ks)) (hk : kls ks ls = ls) (hp : pc + 1 = pc') (K : Ev P d M (pc', ls, .int x.toInt8.toInt32 :: st, h) r) : Ev P d M (pc, ls, .int x :: st, h) r := by
  subst hp; exact ev_go hM hi hk rfl K
theorem ev_i2c {x : Int32} {pc' : Nat} (hM : P[M]? = some m) (hi : lk (mi_ins m) pc = some (.i2c, len, ks)) (hk : kls ks ls = ls) (hp : pc + 1 = pc') (K : Ev P d M (pc', ls, .int (x.toUInt32 % 65536).toInt32 :: st, h) r) : Ev P d M (pc, ls, .int x :: st, h) r := by
  subst hp; exact ev_go hM hi hk rfl K
theorem ev_dup {v : Value} {pc' : Nat} (hM : P[M]? = some m) (hi : lk (mi_ins m) pc = some (.dup, len, ks)) (hk : kls ks ls = ls) (hc : v.category = 1) (hp : pc + 1 = pc') (K : Ev P d M (pc', ls, v :: v :: st, h) r) : Ev P d M (pc, ls, v :: st, h) r := by
  subst hp; exact ev_go hM hi hk (by show (if v.category = 1 then _ else none) = _; rw [if_pos hc]; rfl) K
theorem ev_pop {v : Value} {pc' : Nat} (hM : P[M]? = some m) (hi : lk (mi_ins m) pc = some (.pop, len, ks)) (hk : kls ks ls = ls) (hc : v.category = 1) (hp : pc + 1 = pc') (K : Ev P d M (pc', ls, st, h) r) : Ev P d M (pc, ls, v :: st, h) r := by
  subst hp; exact ev_go hM hi hk (by show (if v.category = 1 then _ else none) = _; rw [if_pos hc]; rfl) K
theorem ev_dup2 {v w : Value} {pc' : Nat} (hM : P[M]? = some m) (hi : lk (mi_ins m) pc = some (.dup2, len, ks)) (hk : kls ks ls = ls) (hc : v.category = 1 ∧ w.category = 1) (hp : pc + 1 = pc') (K : Ev P d M (pc', ls, v :: w :: v :: w :: st, h) r) : Ev P d M (pc, ls, v :: w :: st, h) r := by
  subst hp; exact ev_go hM hi hk (by show (if v.category = 1 ∧ w.category = 1 then _ else none) = _; rw [if_pos hc]; rfl) K
theorem ev_goto {off : Int} {t : Nat} (hM : P[M]? = some m) (hi : lk (mi_ins m) pc = some (.goto off, len, ks)) (hk : kls ks ls = ls) (ht : tg pc off = some t) (K : Ev P d M (t, ls, st, h) r) : Ev P d M (pc, ls, st, h) r :=
  ev_go hM hi hk (by show (tg pc off).bind _ = _; rw [ht]; rfl) K
theorem ev_br1 {f : Int32 → Bool} {x : Int32} {off : Int} {t pc' : Nat} (hM : P[M]? = some m) (hi : lk (mi_ins m) pc = some (i, len, ks)) (hk : kls ks ls = ls) (ha : ∀ pc ls st h, act2 P m i pc ls st h = br1 pc ls st h off f) (ht : tg pc off = some t) (hp : cond (f x) t (pc + 3) = pc') (K : Ev P d M (pc', ls, st, h) r) : Ev P d M (pc, ls, .int x :: st, h) r := by
  subst hp
  refine ev_go hM hi hk ?_ K
  rw [ha]
  show (tg pc off).bind _ = _
  rw [ht]; rfl
theorem ev_br2 {f : Int32 → Int32 → Bool} {x y : Int32} {off : Int} {t pc' : Nat} (hM : P[M]? = some m) (hi : lk (mi_ins m) pc = some (i, len, ks)) (hk : kls ks ls = ls) (ha : ∀ pc ls st h, act2 P m i pc ls st h = br2 pc ls st h off f) (ht : tg pc off = some t) (hp : cond (f x y) t (pc + 3) = pc') (K : Ev P d M (pc', ls, st, h) r) : Ev P d M (pc, ls, .int y :: .int x :: st, h) r := by
  subst hp
  refine ev_go hM hi hk ?_ K
  rw [ha]
  show (tg pc off).bind _ = _
  rw [ht]; rfl
theorem i32_nlt {x y : Int32} : ¬ x < y ↔ y ≤ x := Int32.not_lt
theorem ev_icmp_eq_t {x y : Int32} {off : Int} {t pc' : Nat} (hM : P[M]? = some m) (hi : lk (mi_ins m) pc = some (.if_icmp .eq off, len, ks)) (hk : kls ks ls = ls) (hc : x = y) (ht : tg pc off = some t) (hp : pc + 3 = pc') (K : Ev P d M (t, ls, st, h) r) : Ev P d M (pc, ls, .int y :: .int x :: st, h) r := by
  subst hp; exact ev_br2 (f := fun x y => decide (x = y)) hM hi hk (fun _ _ _ _ => rfl) ht (by rw [decide_eq_true hc]; rfl) K
theorem ev_icmp_eq_f {x y : Int32} {off : Int} {t pc' : Nat} (hM : P[M]? = some m) (hi : lk (mi_ins m) pc = some (.if_icmp .eq off, len, ks)) (hk : kls ks ls = ls) (hc : ¬ x = y) (ht : tg pc off = some t) (hp : pc + 3 = pc') (K : Ev P d M (pc', ls, st, h) r) : Ev P d M (pc, ls, .int y :: .int x :: st, h) r := by
  subst hp; exact ev_br2 (f := fun x y => decide (x = y)) hM hi hk (fun _ _ _ _ => rfl) ht (by rw [decide_eq_false hc]; rfl) K
theorem ev_icmp_ne_t {x y : Int32} {off : Int} {t pc' : Nat} (hM : P[M]? = some m) (hi : lk (mi_ins m) pc = some (.if_icmp .ne off, len, ks)) (hk : kls ks ls = ls) (hc : x = y) (ht : tg pc off = some t) (hp : pc + 3 = pc') (K : Ev P d M (pc', ls, st, h) r) : Ev P d M (pc, ls, .int y :: .int x :: st, h) r := by
  subst hp; exact ev_br2 (f := fun x y => decide (¬ x = y)) hM hi hk (fun _ _ _ _ => rfl) ht (by rw [decide_eq_false (fun q => q hc)]; rfl) K
theorem ev_icmp_ne_f {x y : Int32} {off : Int} {t pc' : Nat} (hM : P[M]? = some m) (hi : lk (mi_ins m) pc = some (.if_icmp .ne off, len, ks)) (hk : kls ks ls = ls) (hc : ¬ x = y) (ht : tg pc off = some t) (hp : pc + 3 = pc') (K : Ev P d M (t, ls, st, h) r) : Ev P d M (pc, ls, .int y :: .int x :: st, h) r := by
  subst hp; exact ev_br2 (f := fun x y => decide (¬ x = y)) hM hi hk (fun _ _ _ _ => rfl) ht (by rw [decide_eq_true hc]; rfl) K
theorem ev_icmp_lt_t {x y : Int32} {off : Int} {t pc' : Nat} (hM : P[M]? = some m) (hi : lk (mi_ins m) pc = some (.if_icmp .lt off, len, ks)) (hk : kls ks ls = ls) (hc : x < y) (ht : tg pc off = some t) (hp : pc + 3 = pc') (K : Ev P d M (t, ls, st, h) r) : Ev P d M (pc, ls, .int y :: .int x :: st, h) r := by
  subst hp; exact ev_br2 (f := fun x y => decide (x < y)) hM hi hk (fun _ _ _ _ => rfl) ht (by rw [decide_eq_true hc]; rfl) K
theorem ev_icmp_lt_f {x y : Int32} {off : Int} {t pc' : Nat} (hM : P[M]? = some m) (hi : lk (mi_ins m) pc = some (.if_icmp .lt off, len, ks)) (hk : kls ks ls = ls) (hc : ¬ x < y) (ht : tg pc off = some t) (hp : pc + 3 = pc') (K : Ev P d M (pc', ls, st, h) r) : Ev P d M (pc, ls, .int y :: .int x :: st, h) r := by
  subst hp; exact ev_br2 (f := fun x y => decide (x < y)) hM hi hk (fun _ _ _ _ => rfl) ht (by rw [decide_eq_false hc]; rfl) K
theorem ev_icmp_ge_t {x y : Int32} {off : Int} {t pc' : Nat} (hM : P[M]? = some m) (hi : lk (mi_ins m) pc = some (.if_icmp .ge off, len, ks)) (hk : kls ks ls = ls) (hc : x < y) (ht : tg pc off = some t) (hp : pc + 3 = pc') (K : Ev P d M (pc', ls, st, h) r) : Ev P d M (pc, ls, .int y :: .int x :: st, h) r := by
  subst hp; exact ev_br2 (f := fun x y => decide (y ≤ x)) hM hi hk (fun _ _ _ _ => rfl) ht (by rw [decide_eq_false (fun q => absurd hc (Int32.not_lt.mpr q))]; rfl) K
theorem ev_icmp_ge_f {x y : Int32} {off : Int} {t pc' : Nat} (hM : P[M]? = some m) (hi : lk (mi_ins m) pc = some (.if_icmp .ge off, len, ks)) (hk : kls ks ls = ls) (hc : ¬ x < y) (ht : tg pc off = some t) (hp : pc + 3 = pc') (K : Ev P d M (t, ls, st, h) r) : Ev P d M (pc, ls, .int y :: .int x :: st, h) r := by
  subst hp; exact ev_br2 (f := fun x y => decide (y ≤ x)) hM hi hk (fun _ _ _ _ => rfl) ht (by rw [decide_eq_true (Int32.not_lt.mp hc)]; rfl) K
theorem ev_icmp_gt_t {x y : Int32} {off : Int} {t pc' : Nat} (hM : P[M]? = some m) (hi : lk (mi_ins m) pc = some (.if_icmp .gt off, len, ks)) (hk : kls ks ls = ls) (hc : y < x) (ht : tg pc off = some t) (hp : pc + 3 = pc') (K : Ev P d M (t, ls, st, h) r) : Ev P d M (pc, ls, .int y :: .int x :: st, h) r := by
  subst hp; exact ev_br2 (f := fun x y => decide (y < x)) hM hi hk (fun _ _ _ _ => rfl) ht (by rw [decide_eq_true hc]; rfl) K
theorem ev_icmp_gt_f {x y : Int32} {off : Int} {t pc' : Nat} (hM : P[M]? = some m) (hi : lk (mi_ins m) pc = some (.if_icmp .gt off, len, ks)) (hk : kls ks ls = ls) (hc : ¬ y < x) (ht : tg pc off = some t) (hp : pc + 3 = pc') (K : Ev P d M (pc', ls, st, h) r) : Ev P d M (pc, ls, .int y :: .int x :: st, h) r := by
  subst hp; exact ev_br2 (f := fun x y => decide (y < x)) hM hi hk (fun _ _ _ _ => rfl) ht (by rw [decide_eq_false hc]; rfl) K
theorem ev_icmp_le_t {x y : Int32} {off : Int} {t pc' : Nat} (hM : P[M]? = some m) (hi : lk (mi_ins m) pc = some (.if_icmp .le off, len, ks)) (hk : kls ks ls = ls) (hc : y < x) (ht : tg pc off = some t) (hp : pc + 3 = pc') (K : Ev P d M (pc', ls, st, h) r) : Ev P d M (pc, ls, .int y :: .int x :: st, h) r := by
  subst hp; exact ev_br2 (f := fun x y => decide (x ≤ y)) hM hi hk (fun _ _ _ _ => rfl) ht (by rw [decide_eq_false (fun q => absurd hc (Int32.not_lt.mpr q))]; rfl) K
theorem ev_icmp_le_f {x y : Int32} {off : Int} {t pc' : Nat} (hM : P[M]? = some m) (hi : lk (mi_ins m) pc = some (.if_icmp .le off, len, ks)) (hk : kls ks ls = ls) (hc : ¬ y < x) (ht : tg pc off = some t) (hp : pc + 3 = pc') (K : Ev P d M (t, ls, st, h) r) : Ev P d M (pc, ls, .int y :: .int x :: st, h) r := by
  subst hp; exact ev_br2 (f := fun x y => decide (x ≤ y)) hM hi hk (fun _ _ _ _ => rfl) ht (by rw [decide_eq_true (Int32.not_lt.mp hc)]; rfl) K
theorem ev_if_eq_t {x : Int32} {off : Int} {t pc' : Nat} (hM : P[M]? = some m) (hi : lk (mi_ins m) pc = some (.ifCond .eq off, len, ks)) (hk : kls ks ls = ls) (hc : x = 0) (ht : tg pc off = some t) (hp : pc + 3 = pc') (K : Ev P d M (t, ls, st, h) r) : Ev P d M (pc, ls, .int x :: st, h) r := by
  subst hp; exact ev_br1 (f := fun x => decide (x = 0)) hM hi hk (fun _ _ _ _ => rfl) ht (by rw [decide_eq_true hc]; rfl) K
theorem ev_if_eq_f {x : Int32} {off : Int} {t pc' : Nat} (hM : P[M]? = some m) (hi : lk (mi_ins m) pc = some (.ifCond .eq off, len, ks)) (hk : kls ks ls = ls) (hc : ¬ x = 0) (ht : tg pc off = some t) (hp : pc + 3 = pc') (K : Ev P d M (pc', ls, st, h) r) : Ev P d M (pc, ls, .int x :: st, h) r := by
  subst hp; exact ev_br1 (f := fun x => decide (x = 0)) hM hi hk (fun _ _ _ _ => rfl) ht (by rw [decide_eq_false hc]; rfl) K
theorem ev_if_ne_t {x : Int32} {off : Int} {t pc' : Nat} (hM : P[M]? = some m) (hi : lk (mi_ins m) pc = some (.ifCond .ne off, len, ks)) (hk : kls ks ls = ls) (hc : x = 0) (ht : tg pc off = some t) (hp : pc + 3 = pc') (K : Ev P d M (pc', ls, st, h) r) : Ev P d M (pc, ls, .int x :: st, h) r := by
  subst hp; exact ev_br1 (f := fun x => decide (¬ x = 0)) hM hi hk (fun _ _ _ _ => rfl) ht (by rw [decide_eq_false (fun q => q hc)]; rfl) K
theorem ev_if_ne_f {x : Int32} {off : Int} {t pc' : Nat} (hM : P[M]? = some m) (hi : lk (mi_ins m) pc = some (.ifCond .ne off, len, ks)) (hk : kls ks ls = ls) (hc : ¬ x = 0) (ht : tg pc off = some t) (hp : pc + 3 = pc') (K : Ev P d M (t, ls, st, h) r) : Ev P d M (pc, ls, .int x :: st, h) r := by
  subst hp; exact ev_br1 (f := fun x => decide (¬ x = 0)) hM hi hk (fun _ _ _ _ => rfl) ht (by rw [decide_eq_true hc]; rfl) K
theorem ev_if_lt_t {x : Int32} {off : Int} {t pc' : Nat} (hM : P[M]? = some m) (hi : lk (mi_ins m) pc = some (.ifCond .lt off, len, ks)) (hk : kls ks ls = ls) (hc : x < 0) (ht : tg pc off = some t) (hp : pc + 3 = pc') (K : Ev P d M (t, ls, st, h) r) : Ev P d M (pc, ls, .int x :: st, h) r := by
  subst hp; exact ev_br1 (f := fun x => decide (x < 0)) hM hi hk (fun _ _ _ _ => rfl) ht (by rw [decide_eq_true hc]; rfl) K
theorem ev_if_lt_f {x : Int32} {off : Int} {t pc' : Nat} (hM : P[M]? = some m) (hi : lk (mi_ins m) pc = some (.ifCond .lt off, len, ks)) (hk : kls ks ls = ls) (hc : ¬ x < 0) (ht : tg pc off = some t) (hp : pc + 3 = pc') (K : Ev P d M (pc', ls, st, h) r) : Ev P d M (pc, ls, .int x :: st, h) r := by
  subst hp; exact ev_br1 (f := fun x => decide (x < 0)) hM hi hk (fun _ _ _ _ => rfl) ht (by rw [decide_eq_false hc]; rfl) K
theorem ev_if_ge_t {x : Int32} {off : Int} {t pc' : Nat} (hM : P[M]? = some m) (hi : lk (mi_ins m) pc = some (.ifCond .ge off, len, ks)) (hk : kls ks ls = ls) (hc : x < 0) (ht : tg pc off = some t) (hp : pc + 3 = pc') (K : Ev P d M (pc', ls, st, h) r) : Ev P d M (pc, ls, .int x :: st, h) r := by
  subst hp; exact ev_br1 (f := fun x => decide (0 ≤ x)) hM hi hk (fun _ _ _ _ => rfl) ht (by rw [decide_eq_false (fun q => absurd hc (Int32.not_lt.mpr q))]; rfl) K
theorem ev_if_ge_f {x : Int32} {off : Int} {t pc' : Nat} (hM : P[M]? = some m) (hi : lk (mi_ins m) pc = some (.ifCond .ge off, len, ks)) (hk : kls ks ls = ls) (hc : ¬ x < 0) (ht : tg pc off = some t) (hp : pc + 3 = pc') (K : Ev P d M (t, ls, st, h) r) : Ev P d M (pc, ls, .int x :: st, h) r := by
  subst hp; exact ev_br1 (f := fun x => decide (0 ≤ x)) hM hi hk (fun _ _ _ _ => rfl) ht (by rw [decide_eq_true (Int32.not_lt.mp hc)]; rfl) K
theorem ev_if_gt_t {x : Int32} {off : Int} {t pc' : Nat} (hM : P[M]? = some m) (hi : lk (mi_ins m) pc = some (.ifCond .gt off, len, ks)) (hk : kls ks ls = ls) (hc : 0 < x) (ht : tg pc off = some t) (hp : pc + 3 = pc') (K : Ev P d M (t, ls, st, h) r) : Ev P d M (pc, ls, .int x :: st, h) r := by
  subst hp; exact ev_br1 (f := fun x => decide (0 < x)) hM hi hk (fun _ _ _ _ => rfl) ht (by rw [decide_eq_true hc]; rfl) K
theorem ev_if_gt_f {x : Int32} {off : Int} {t pc' : Nat} (hM : P[M]? = some m) (hi : lk (mi_ins m) pc = some (.ifCond .gt off, len, ks)) (hk : kls ks ls = ls) (hc : ¬ 0 < x) (ht : tg pc off = some t) (hp : pc + 3 = pc') (K : Ev P d M (pc', ls, st, h) r) : Ev P d M (pc, ls, .int x :: st, h) r := by
  subst hp; exact ev_br1 (f := fun x => decide (0 < x)) hM hi hk (fun _ _ _ _ => rfl) ht (by rw [decide_eq_false hc]; rfl) K
theorem ev_if_le_t {x : Int32} {off : Int} {t pc' : Nat} (hM : P[M]? = some m) (hi : lk (mi_ins m) pc = some (.ifCond .le off, len, ks)) (hk : kls ks ls = ls) (hc : 0 < x) (ht : tg pc off = some t) (hp : pc + 3 = pc') (K : Ev P d M (pc', ls, st, h) r) : Ev P d M (pc, ls, .int x :: st, h) r := by
  subst hp; exact ev_br1 (f := fun x => decide (x ≤ 0)) hM hi hk (fun _ _ _ _ => rfl) ht (by rw [decide_eq_false (fun q => absurd hc (Int32.not_lt.mpr q))]; rfl) K
theorem ev_if_le_f {x : Int32} {off : Int} {t pc' : Nat} (hM : P[M]? = some m) (hi : lk (mi_ins m) pc = some (.ifCond .le off, len, ks)) (hk : kls ks ls = ls) (hc : ¬ 0 < x) (ht : tg pc off = some t) (hp : pc + 3 = pc') (K : Ev P d M (t, ls, st, h) r) : Ev P d M (pc, ls, .int x :: st, h) r := by
  subst hp; exact ev_br1 (f := fun x => decide (x ≤ 0)) hM hi hk (fun _ _ _ _ => rfl) ht (by rw [decide_eq_true (Int32.not_lt.mp hc)]; rfl) K
theorem ev_nullT {off : Int} {t : Nat} (hM : P[M]? = some m) (hi : lk (mi_ins m) pc = some (.ifnull off, len, ks)) (hk : kls ks ls = ls) (ht : tg pc off = some t) (K : Ev P d M (t, ls, st, h) r) : Ev P d M (pc, ls, .null :: st, h) r :=
  ev_go hM hi hk (by show (tg pc off).bind _ = _; rw [ht]; rfl) K
theorem ev_nullF {off : Int} {b pc' : Nat} (hM : P[M]? = some m) (hi : lk (mi_ins m) pc = some (.ifnull off, len, ks)) (hk : kls ks ls = ls) (hp : pc + 3 = pc') (K : Ev P d M (pc', ls, st, h) r) : Ev P d M (pc, ls, .ref b :: st, h) r := by
  subst hp; exact ev_go hM hi hk rfl K
theorem ev_nonnullT {off : Int} {b t : Nat} (hM : P[M]? = some m) (hi : lk (mi_ins m) pc = some (.ifnonnull off, len, ks)) (hk : kls ks ls = ls) (ht : tg pc off = some t) (K : Ev P d M (t, ls, st, h) r) : Ev P d M (pc, ls, .ref b :: st, h) r :=
  ev_go hM hi hk (by show (tg pc off).bind _ = _; rw [ht]; rfl) K
theorem ev_nonnullF {off : Int} {pc' : Nat} (hM : P[M]? = some m) (hi : lk (mi_ins m) pc = some (.ifnonnull off, len, ks)) (hk : kls ks ls = ls) (hp : pc + 3 = pc') (K : Ev P d M (pc', ls, st, h) r) : Ev P d M (pc, ls, .null :: st, h) r := by
  subst hp; exact ev_go hM hi hk rfl K
theorem ev_tabI {dflt lo hi0 : Int} {offs : Array Int} {x : Int32} {off : Int} {t : Nat} (hM : P[M]? = some m) (hi : lk (mi_ins m) pc = some (.tableswitch dflt lo hi0 offs, len, ks)) (hk : kls ks ls = ls) (c : Int32) (hx : x = c) (h1 : ¬ (c.toInt < lo ∨ hi0 < c.toInt)) (ho : offs[(c.toInt - lo).toNat]? = some off) (ht : tg pc off = some t) (K : Ev P d M (t, ls, st, h) r) : Ev P d M (pc, ls, .int x :: st, h) r := by
  subst hx
  refine ev_go hM hi hk ?_ K
  show (if x.toInt < lo ∨ hi0 < x.toInt then _ else (offs[(x.toInt - lo).toNat]?).bind _) = _
  rw [if_neg h1, ho]
  show (tg pc off).bind _ = _
  rw [ht]; rfl
theorem ev_tabO {dflt lo hi0 : Int} {offs : Array Int} {x : Int32} {t : Nat} (hM : P[M]? = some m) (hi : lk (mi_ins m) pc = some (.tableswitch dflt lo hi0 offs, len, ks)) (hk : kls ks ls = ls) (h1 : x.toInt < lo ∨ hi0 < x.toInt) (ht : tg pc dflt = some t) (K : Ev P d M (t, ls, st, h) r) : Ev P d M (pc, ls, .int x :: st, h) r := by
  refine ev_go hM hi hk ?_ K
  show (if x.toInt < lo ∨ hi0 < x.toInt then (tg pc dflt).bind _ else _) = _
  rw [if_pos h1, ht]; rfl
theorem ev_ldc {k : Nat} {v : Value} {pc' : Nat} (hM : P[M]? = some m) (hi : lk (mi_ins m) pc = some (.ldc k, len, ks)) (hk : kls ks ls = ls) (hl : lk (mi_kl m) k = some v) (hp : pc + 2 = pc') (K : Ev P d M (pc', ls, v :: st, h) r) : Ev P d M (pc, ls, st, h) r := by
  subst hp; exact ev_go hM hi hk (by show (lk (mi_kl m) k).bind _ = _; rw [hl]; rfl) K
theorem ev_ldc_w {k : Nat} {v : Value} {pc' : Nat} (hM : P[M]? = some m) (hi : lk (mi_ins m) pc = some (.ldc_w k, len, ks)) (hk : kls ks ls = ls) (hl : lk (mi_kl m) k = some v) (hp : pc + 3 = pc') (K : Ev P d M (pc', ls, v :: st, h) r) : Ev P d M (pc, ls, st, h) r := by
  subst hp; exact ev_go hM hi hk (by show (lk (mi_kl m) k).bind _ = _; rw [hl]; rfl) K
theorem ev_ldc2_w {k : Nat} {v : Value} {pc' : Nat} (hM : P[M]? = some m) (hi : lk (mi_ins m) pc = some (.ldc2_w k, len, ks)) (hk : kls ks ls = ls) (hl : lk (mi_kl m) k = some v) (hp : pc + 3 = pc') (K : Ev P d M (pc', ls, v :: st, h) r) : Ev P d M (pc, ls, st, h) r := by
  subst hp; exact ev_go hM hi hk (by show (lk (mi_kl m) k).bind _ = _; rw [hl]; rfl) K
theorem ev_getstatic {k : Nat} {v : Value} {pc' : Nat} (hM : P[M]? = some m) (hi : lk (mi_ins m) pc = some (.getstatic k, len, ks)) (hk : kls ks ls = ls) (hl : lk (mi_kl m) k = some v) (hp : pc + 3 = pc') (K : Ev P d M (pc', ls, v :: st, h) r) : Ev P d M (pc, ls, st, h) r := by
  subst hp; exact ev_go hM hi hk (by show (lk (mi_kl m) k).bind _ = _; rw [hl]; rfl) K
theorem ev_getf {k a ci j : Nat} {v : Value} {pc' : Nat} (hM : P[M]? = some m) (hi : lk (mi_ins m) pc = some (.getfield k, len, ks)) (hk : kls ks ls = ls) (hl : lk (mi_fl m) k = some (ci, j)) (hg : gF h a ci j = some v) (hp : pc + 3 = pc') (K : Ev P d M (pc', ls, v :: st, h) r) : Ev P d M (pc, ls, .ref a :: st, h) r := by
  subst hp
  refine ev_go hM hi hk ?_ K
  show (lk (mi_fl m) k).bind _ = _
  rw [hl]
  show (gF h a ci j).bind _ = _
  rw [hg]; rfl
theorem ev_getI {k a ci j : Nat} {x : Int32} {pc' : Nat} (hM : P[M]? = some m) (hi : lk (mi_ins m) pc = some (.getfield k, len, ks)) (hk : kls ks ls = ls) (hl : lk (mi_fl m) k = some (ci, j)) (ht : ftk ci j = 1 ∨ ftk ci j = 4 ∨ ftk ci j = 5) (hg : gI h a ci j = some x) (hp : pc + 3 = pc') (K : Ev P d M (pc', ls, .int x :: st, h) r) : Ev P d M (pc, ls, .ref a :: st, h) r :=
  ev_getf hM hi hk hl (by unfold gF; rcases ht with e | e | e <;> rw [e] <;> simp only [hg] <;> rfl) hp K
theorem ev_getL {k a ci j : Nat} {x : Int64} {pc' : Nat} (hM : P[M]? = some m) (hi : lk (mi_ins m) pc = some (.getfield k, len, ks)) (hk : kls ks ls = ls) (hl : lk (mi_fl m) k = some (ci, j)) (ht : ftk ci j = 2) (hg : gL h a ci j = some x) (hp : pc + 3 = pc') (K : Ev P d M (pc', ls, .long x :: st, h) r) : Ev P d M (pc, ls, .ref a :: st, h) r :=
  ev_getf hM hi hk hl (by unfold gF; rw [ht]; simp only [hg]; rfl) hp K
theorem ev_getQ {k a ci j : Nat} {o : Option Nat} {pc' : Nat} (hM : P[M]? = some m) (hi : lk (mi_ins m) pc = some (.getfield k, len, ks)) (hk : kls ks ls = ls) (hl : lk (mi_fl m) k = some (ci, j)) (ht : ftk ci j = 3) (hg : gQ h a ci j = some o) (hp : pc + 3 = pc') (K : Ev P d M (pc', ls, rf o :: st, h) r) : Ev P d M (pc, ls, .ref a :: st, h) r :=
  ev_getf hM hi hk hl (by unfold gF; rw [ht]; simp only [hg]; rfl) hp K
theorem ev_getR {k a ci j b : Nat} {pc' : Nat} (hM : P[M]? = some m) (hi : lk (mi_ins m) pc = some (.getfield k, len, ks)) (hk : kls ks ls = ls) (hl : lk (mi_fl m) k = some (ci, j)) (ht : ftk ci j = 3) (hg : gR h a ci j = some b) (hp : pc + 3 = pc') (K : Ev P d M (pc', ls, .ref b :: st, h) r) : Ev P d M (pc, ls, .ref a :: st, h) r := by
  refine ev_getQ (o := some b) hM hi hk hl ht ?_ hp K
  unfold gR at hg
  unfold gQ
  by_cases hc : kd h a = ci
  · rw [if_pos hc] at hg ⊢; rw [hg]
  · rw [if_neg hc] at hg; cases hg
theorem ev_putf {k a ci j : Nat} {v : Value} {h' : Hp} {pc' : Nat} (hM : P[M]? = some m) (hi : lk (mi_ins m) pc = some (.putfield k, len, ks)) (hk : kls ks ls = ls) (hl : lk (mi_fl m) k = some (ci, j)) (hg : pF h a ci j v = some h') (hp : pc + 3 = pc') (K : Ev P d M (pc', ls, st, h') r) : Ev P d M (pc, ls, v :: .ref a :: st, h) r := by
  subst hp
  refine ev_go hM hi hk ?_ K
  show (lk (mi_fl m) k).bind _ = _
  rw [hl]
  show (pF h a ci j v).bind _ = _
  rw [hg]; rfl
theorem ev_putI {k a ci j : Nat} {x : Int32} {h' : Hp} {pc' : Nat} (hM : P[M]? = some m) (hi : lk (mi_ins m) pc = some (.putfield k, len, ks)) (hk : kls ks ls = ls) (hl : lk (mi_fl m) k = some (ci, j)) (ht : ftk ci j = 1) (hg : pI h a ci j x = some h') (hp : pc + 3 = pc') (K : Ev P d M (pc', ls, st, h') r) : Ev P d M (pc, ls, .int x :: .ref a :: st, h) r :=
  ev_putf hM hi hk hl (by unfold pF; rw [ht]; exact hg) hp K
theorem ev_putZ {k a ci j : Nat} {x : Int32} {h' : Hp} {pc' : Nat} (hM : P[M]? = some m) (hi : lk (mi_ins m) pc = some (.putfield k, len, ks)) (hk : kls ks ls = ls) (hl : lk (mi_fl m) k = some (ci, j)) (ht : ftk ci j = 4) (hg : pZ h a ci j x = some h') (hp : pc + 3 = pc') (K : Ev P d M (pc', ls, st, h') r) : Ev P d M (pc, ls, .int x :: .ref a :: st, h) r :=
  ev_putf hM hi hk hl (by unfold pF; rw [ht]; exact hg) hp K
theorem ev_putL {k a ci j : Nat} {x : Int64} {h' : Hp} {pc' : Nat} (hM : P[M]? = some m) (hi : lk (mi_ins m) pc = some (.putfield k, len, ks)) (hk : kls ks ls = ls) (hl : lk (mi_fl m) k = some (ci, j)) (ht : ftk ci j = 2) (hg : pL h a ci j x = some h') (hp : pc + 3 = pc') (K : Ev P d M (pc', ls, st, h') r) : Ev P d M (pc, ls, .long x :: .ref a :: st, h) r :=
  ev_putf hM hi hk hl (by unfold pF; rw [ht]; exact hg) hp K
theorem ev_putR {k a ci j b : Nat} {h' : Hp} {pc' : Nat} (hM : P[M]? = some m) (hi : lk (mi_ins m) pc = some (.putfield k, len, ks)) (hk : kls ks ls = ls) (hl : lk (mi_fl m) k = some (ci, j)) (ht : ftk ci j = 3) (hg : pR h a ci j (some b) = some h') (hp : pc + 3 = pc') (K : Ev P d M (pc', ls, st, h') r) : Ev P d M (pc, ls, .ref b :: .ref a :: st, h) r :=
  ev_putf hM hi hk hl (by unfold pF; rw [ht]; exact hg) hp K
theorem ev_iald {a : Nat} {j x : Int32} {pc' : Nat} (hM : P[M]? = some m) (hi : lk (mi_ins m) pc = some (.iaload, len, ks)) (hk : kls ks ls = ls) (hg : aI h 100 a j = some x) (hp : pc + 1 = pc') (K : Ev P d M (pc', ls, .int x :: st, h) r) : Ev P d M (pc, ls, .int j :: .ref a :: st, h) r := by
  subst hp; exact ev_go hM hi hk (by show (aI h 100 a j).bind _ = _; rw [hg]; rfl) K
theorem ev_bald {a : Nat} {j x : Int32} {pc' : Nat} (hM : P[M]? = some m) (hi : lk (mi_ins m) pc = some (.baload, len, ks)) (hk : kls ks ls = ls) (hg : aI h 101 a j = some x) (hp : pc + 1 = pc') (K : Ev P d M (pc', ls, .int x :: st, h) r) : Ev P d M (pc, ls, .int j :: .ref a :: st, h) r := by
  subst hp; exact ev_go hM hi hk (by show (aI h 101 a j).bind _ = _; rw [hg]; rfl) K
theorem ev_lald {a : Nat} {j : Int32} {x : Int64} {pc' : Nat} (hM : P[M]? = some m) (hi : lk (mi_ins m) pc = some (.laload, len, ks)) (hk : kls ks ls = ls) (hg : aL h a j = some x) (hp : pc + 1 = pc') (K : Ev P d M (pc', ls, .long x :: st, h) r) : Ev P d M (pc, ls, .int j :: .ref a :: st, h) r := by
  subst hp; exact ev_go hM hi hk (by show (aL h a j).bind _ = _; rw [hg]; rfl) K
theorem ev_iast {a : Nat} {j x : Int32} {h' : Hp} {pc' : Nat} (hM : P[M]? = some m) (hi : lk (mi_ins m) pc = some (.iastore, len, ks)) (hk : kls ks ls = ls) (hg : sI h 100 a j x = some h') (hp : pc + 1 = pc') (K : Ev P d M (pc', ls, st, h') r) : Ev P d M (pc, ls, .int x :: .int j :: .ref a :: st, h) r := by
  subst hp; exact ev_go hM hi hk (by show (sI h 100 a j x).bind _ = _; rw [hg]; rfl) K
theorem ev_bast {a : Nat} {j x : Int32} {h' : Hp} {pc' : Nat} (hM : P[M]? = some m) (hi : lk (mi_ins m) pc = some (.bastore, len, ks)) (hk : kls ks ls = ls) (hg : sI h 101 a j x.toInt8.toInt32 = some h') (hp : pc + 1 = pc') (K : Ev P d M (pc', ls, st, h') r) : Ev P d M (pc, ls, .int x :: .int j :: .ref a :: st, h) r := by
  subst hp; exact ev_go hM hi hk (by show (sI h 101 a j x.toInt8.toInt32).bind _ = _; rw [hg]; rfl) K
theorem ev_last {a : Nat} {j : Int32} {x : Int64} {h' : Hp} {pc' : Nat} (hM : P[M]? = some m) (hi : lk (mi_ins m) pc = some (.lastore, len, ks)) (hk : kls ks ls = ls) (hg : sL h a j x = some h') (hp : pc + 1 = pc') (K : Ev P d M (pc', ls, st, h') r) : Ev P d M (pc, ls, .long x :: .int j :: .ref a :: st, h) r := by
  subst hp; exact ev_go hM hi hk (by show (sL h a j x).bind _ = _; rw [hg]; rfl) K
theorem ev_alen {a : Nat} {x : Int32} {pc' : Nat} (hM : P[M]? = some m) (hi : lk (mi_ins m) pc = some (.arraylength, len, ks)) (hk : kls ks ls = ls) (hg : aN h a = some x) (hp : pc + 1 = pc') (K : Ev P d M (pc', ls, .int x :: st, h) r) : Ev P d M (pc, ls, .ref a :: st, h) r := by
  subst hp; exact ev_go hM hi hk (by show (aN h a).bind _ = _; rw [hg]; rfl) K
theorem ev_newI {a : Nat} {n : Int32} {h' : Hp} {pc' : Nat} (hM : P[M]? = some m) (hi : lk (mi_ins m) pc = some (.newarray .int, len, ks)) (hk : kls ks ls = ls) (hg : nA h 100 n = some (a, h')) (hp : pc + 2 = pc') (K : Ev P d M (pc', ls, .ref a :: st, h') r) : Ev P d M (pc, ls, .int n :: st, h) r := by
  subst hp; exact ev_go hM hi hk (by show (nA h 100 n).bind _ = _; rw [hg]; rfl) K
theorem ev_newB {a : Nat} {n : Int32} {h' : Hp} {pc' : Nat} (hM : P[M]? = some m) (hi : lk (mi_ins m) pc = some (.newarray .byte, len, ks)) (hk : kls ks ls = ls) (hg : nA h 101 n = some (a, h')) (hp : pc + 2 = pc') (K : Ev P d M (pc', ls, .ref a :: st, h') r) : Ev P d M (pc, ls, .int n :: st, h) r := by
  subst hp; exact ev_go hM hi hk (by show (nA h 101 n).bind _ = _; rw [hg]; rfl) K
theorem ev_newJ {a : Nat} {n : Int32} {h' : Hp} {pc' : Nat} (hM : P[M]? = some m) (hi : lk (mi_ins m) pc = some (.newarray .long, len, ks)) (hk : kls ks ls = ls) (hg : nA h 102 n = some (a, h')) (hp : pc + 2 = pc') (K : Ev P d M (pc', ls, .ref a :: st, h') r) : Ev P d M (pc, ls, .int n :: st, h) r := by
  subst hp; exact ev_go hM hi hk (by show (nA h 102 n).bind _ = _; rw [hg]; rfl) K
theorem ev_new {k ci a : Nat} {h' : Hp} {pc' : Nat} (hM : P[M]? = some m) (hi : lk (mi_ins m) pc = some (.new k, len, ks)) (hk : kls ks ls = ls) (hl : lk (mi_nl m) k = some ci) (h60 : ¬ ci = 60) (hg : nO h ci = some (a, h')) (hp : pc + 3 = pc') (K : Ev P d M (pc', ls, .ref a :: st, h') r) : Ev P d M (pc, ls, st, h) r := by
  subst hp
  refine ev_go hM hi hk ?_ K
  show (lk (mi_nl m) k).bind _ = _
  rw [hl]
  show (if ci = 60 then _ else (nO h ci).bind _) = _
  rw [if_neg h60, hg]; rfl
theorem ev_throw {k : Nat} (hM : P[M]? = some m) (hi : lk (mi_ins m) pc = some (.new k, len, ks)) (hk : kls ks ls = ls) (hl : lk (mi_nl m) k = some 60) (hs : st = []) (hc : cn h < 900000) (hr : (some (.retAddr 1), mkX h 6) = r) : Ev P d M (pc, ls, st, h) r := by
  refine ev_ret hM hi hk ?_ hr
  show (lk (mi_nl m) k).bind _ = _
  rw [hl]
  show (if st = [] ∧ cn h < 900000 then _ else none) = _
  rw [if_pos ⟨hs, hc⟩]
theorem ev_ireturn {v : Int32} (hM : P[M]? = some m) (hi : lk (mi_ins m) pc = some (.ireturn, len, ks)) (hk : kls ks ls = ls) (hv : (mi_rt m).any (fun t => retV t v) = true) (hr : (some (.int v), h) = r) : Ev P d M (pc, ls, [.int v], h) r := by
  refine ev_ret hM hi hk ?_ hr
  show (if (mi_rt m).any (fun t => retV t v) = true then _ else none) = _
  rw [if_pos hv]
theorem ev_lreturn {v : Int64} (hM : P[M]? = some m) (hi : lk (mi_ins m) pc = some (.lreturn, len, ks)) (hk : kls ks ls = ls) (hv : mi_rt m = some .long) (hr : (some (.long v), h) = r) : Ev P d M (pc, ls, [.long v], h) r := by
  refine ev_ret hM hi hk ?_ hr
  show (if mi_rt m = some .long then _ else none) = _
  rw [if_pos hv]
theorem ev_areturn {v : Nat} (hM : P[M]? = some m) (hi : lk (mi_ins m) pc = some (.areturn, len, ks)) (hk : kls ks ls = ls) (hv : (mi_rt m).any (fun t => tk t == 3) = true) (hr : (some (.ref v), h) = r) : Ev P d M (pc, ls, [.ref v], h) r := by
  refine ev_ret hM hi hk ?_ hr
  show (if (mi_rt m).any (fun t => tk t == 3) = true then _ else none) = _
  rw [if_pos hv]
theorem ev_return (hM : P[M]? = some m) (hi : lk (mi_ins m) pc = some (.return_, len, ks)) (hk : kls ks ls = ls) (hv : mi_rt m = none) (hr : (none, h) = r) : Ev P d M (pc, ls, [], h) r := by
  refine ev_ret hM hi hk ?_ hr
  show (if mi_rt m = none then _ else none) = _
  rw [if_pos hv]
theorem ev_objinit {k z : Nat} {a pc' : Nat} (hM : P[M]? = some m) (hi : lk (mi_ins m) pc = some (.invokespecial k, len, ks)) (hk : kls ks ls = ls) (hl : lk (mi_ml m) k = some (1000, z)) (hc : cats st ≤ 8) (hp : pc + 3 = pc') (K : Ev P d M (pc', ls, st, h) r) : Ev P d M (pc, ls, .ref a :: st, h) r := by
  subst hp
  refine ev_go hM hi hk ?_ K
  show (lk (mi_ml m) k).bind _ = _
  rw [hl]
  show (if cats st ≤ 8 then _ else none) = _
  rw [if_pos hc]; rfl
theorem ev_copy {k z a b : Nat} {sp dp n : Int32} {h' : Hp} {pc' : Nat} (hM : P[M]? = some m) (hi : lk (mi_ins m) pc = some (.invokestatic k, len, ks)) (hk : kls ks ls = ls) (hl : lk (mi_ml m) k = some (1001, z)) (hc : cats st ≤ 8) (hg : cpI h a sp b dp n = some h') (hp : pc + 3 = pc') (K : Ev P d M (pc', ls, st, h') r) : Ev P d M (pc, ls, .int n :: .int dp :: .ref b :: .int sp :: .ref a :: st, h) r := by
  subst hp
  refine ev_go hM hi hk ?_ K
  show (lk (mi_ml m) k).bind _ = _
  rw [hl]
  show (if cats st ≤ 8 then (cpI h a sp b dp n).bind _ else none) = _
  rw [if_pos hc, hg]; rfl
theorem cal_eq {k pc : Nat} {ls st sa rest : List Value} {mq : MI} (hP : P[k]? = some mq) (hst : st = sa ++ rest) (hl : sa.length = mi_np mq) (hc : cats rest ≤ 8) : cal P k pc ls st = some (.inr (.inr (k, sa.reverse, pc + 3, ls, rest))) := by
  unfold cal
  rw [hP]
  simp only
  subst hst
  rw [← hl, List.drop_left, List.take_left, if_pos ⟨by simp, hc⟩]
theorem ev_callV {k ci b callee : Nat} {mq : MI} {sa rest st' ls0 : List Value} {pc' : Nat} {rv : Option Value} {h' : Hp} (hM : P[M]? = some m) (hi : lk (mi_ins m) pc = some (.invokevirtual k, len, ks)) (hk : kls ks ls = ls) (hl : lk (mi_ml m) k = some (callee, ci)) (hP : P[callee]? = some mq) (hci : ci < 100) (hkd : kd h b = ci) (hst : st = sa ++ .ref b :: rest) (hn : sa.length + 1 = mi_np mq) (hc : cats rest ≤ 8) (hd : 0 < d) (hini : ini (mi_mx mq) (.ref b :: sa.reverse) = ls0) (C : Ev P (d - 1) callee (0, ls0, [], h) (rv, h')) (hz : ¬ rv = some (.retAddr 1)) (hp : pc + 3 = pc') (hs2 : rv.toList ++ rest = st') (K : Ev P d M (pc', ls, st', h') r) (hl0 : ls0.length = mi_mx mq := by rfl) : Ev P d M (pc, ls, st, h) r := by
  subst hp; subst hs2; subst hini
  have hst2 : st = (sa ++ [.ref b]) ++ rest := by rw [hst]; simp
  have hat : st[mi_np mq - 1]? = some (.ref b) := by rw [hst, ← hn]; simp
  refine ev_cal (k := callee) (as := .ref b :: sa.reverse) (ls2 := ls) (rest := rest) hM hi hk ?_ hP hl0 hd C hz K
  show (lk (mi_ml m) k).bind _ = _
  rw [hl]
  show (P[callee]?).bind _ = _
  rw [hP]
  show (if isC h (st[mi_np mq - 1]?) ci = true ∧ 0 < mi_np mq ∧ ci < 100 then cal P callee pc ls st else none) = _
  rw [if_pos ⟨by rw [hat]; show Nat.beq (kd h b) ci = true; rw [hkd]; exact Nat.beq_refl ci, by omega, hci⟩]
  rw [cal_eq hP hst2 (by simp; omega) hc]
  simp
theorem ev_callI {k b callee w : Nat} {mq : MI} {sa rest st' ls0 : List Value} {pc' : Nat} {rv : Option Value} {h' : Hp} (hM : P[M]? = some m) (hi : lk (mi_ins m) pc = some (.invokespecial k, len, ks)) (hk : kls ks ls = ls) (hl : lk (mi_ml m) k = some (callee, w)) (hw : w = 201 ∨ w = 202) (hP : P[callee]? = some mq) (h1 : ¬ callee = 1000) (hst : st = sa ++ .ref b :: rest) (hn : sa.length + 1 = mi_np mq) (hc : cats rest ≤ 8) (hd : 0 < d) (hini : ini (mi_mx mq) (.ref b :: sa.reverse) = ls0) (C : Ev P (d - 1) callee (0, ls0, [], h) (rv, h')) (hz : ¬ rv = some (.retAddr 1)) (hp : pc + 3 = pc') (hs2 : rv.toList ++ rest = st') (K : Ev P d M (pc', ls, st', h') r) (hl0 : ls0.length = mi_mx mq := by rfl) : Ev P d M (pc, ls, st, h) r := by
  subst hp; subst hs2; subst hini
  have hst2 : st = (sa ++ [.ref b]) ++ rest := by rw [hst]; simp
  have hat : st[mi_np mq - 1]? = some (.ref b) := by rw [hst, ← hn]; simp
  refine ev_cal (k := callee) (as := .ref b :: sa.reverse) (ls2 := ls) (rest := rest) hM hi hk ?_ hP hl0 hd C hz K
  show (lk (mi_ml m) k).bind _ = _
  rw [hl]
  show (if callee = 1000 then _ else (P[callee]?).bind _) = _
  rw [if_neg h1, hP]
  show (if isR (st[mi_np mq - 1]?) = true ∧ 0 < mi_np mq ∧ (w = 201 ∨ w = 202) then cal P callee pc ls st else none) = _
  rw [if_pos ⟨by rw [hat]; rfl, by omega, hw⟩]
  rw [cal_eq hP hst2 (by simp; omega) hc]
  simp
theorem ev_callS {k callee : Nat} {mq : MI} {sa rest st' ls0 : List Value} {pc' : Nat} {rv : Option Value} {h' : Hp} (hM : P[M]? = some m) (hi : lk (mi_ins m) pc = some (.invokestatic k, len, ks)) (hk : kls ks ls = ls) (hl : lk (mi_ml m) k = some (callee, 200)) (hP : P[callee]? = some mq) (h1 : ¬ callee = 1001) (hst : st = sa ++ rest) (hn : sa.length = mi_np mq) (hc : cats rest ≤ 8) (hd : 0 < d) (hini : ini (mi_mx mq) sa.reverse = ls0) (C : Ev P (d - 1) callee (0, ls0, [], h) (rv, h')) (hz : ¬ rv = some (.retAddr 1)) (hp : pc + 3 = pc') (hs2 : rv.toList ++ rest = st') (K : Ev P d M (pc', ls, st', h') r) (hl0 : ls0.length = mi_mx mq := by rfl) : Ev P d M (pc, ls, st, h) r := by
  subst hp; subst hs2; subst hini
  refine ev_cal (k := callee) (as := sa.reverse) (ls2 := ls) (rest := rest) hM hi hk ?_ hP hl0 hd C hz K
  show (lk (mi_ml m) k).bind _ = _
  rw [hl]
  show (if callee = 1001 then _ else if (200 : Nat) = 200 then cal P callee pc ls st else none) = _
  rw [if_neg h1, if_pos rfl, cal_eq hP hst hn hc]
theorem ev_callX {k ci b callee : Nat} {mq : MI} {sa rest ls0 : List Value} {h' : Hp} (h0 : M = 0) (hM : P[M]? = some m) (hi : lk (mi_ins m) pc = some (.invokevirtual k, len, ks)) (hk : kls ks ls = ls) (hl : lk (mi_ml m) k = some (callee, ci)) (hP : P[callee]? = some mq) (hci : ci < 100) (hkd : kd h b = ci) (hst : st = sa ++ .ref b :: rest) (hn : sa.length + 1 = mi_np mq) (hc : cats rest ≤ 8) (hd : 0 < d) (hini : ini (mi_mx mq) (.ref b :: sa.reverse) = ls0) (C : Ev P (d - 1) callee (0, ls0, [], h) (some (.retAddr 1), h')) (K : Ev P d M (13, ls, [], h') r) (hl0 : ls0.length = mi_mx mq := by rfl) : Ev P d M (pc, ls, st, h) r := by
  subst hini
  have hst2 : st = (sa ++ [.ref b]) ++ rest := by rw [hst]; simp
  have hat : st[mi_np mq - 1]? = some (.ref b) := by rw [hst, ← hn]; simp
  refine ev_catch (k := callee) (as := .ref b :: sa.reverse) (pc2 := pc + 3) (ls2 := ls) (rest := rest) h0 hM hi hk ?_ hP hl0 hd C rfl K
  show (lk (mi_ml m) k).bind _ = _
  rw [hl]
  show (P[callee]?).bind _ = _
  rw [hP]
  show (if isC h (st[mi_np mq - 1]?) ci = true ∧ 0 < mi_np mq ∧ ci < 100 then cal P callee pc ls st else none) = _
  rw [if_pos ⟨by rw [hat]; show Nat.beq (kd h b) ci = true; rw [hkd]; exact Nat.beq_refl ci, by omega, hci⟩]
  rw [cal_eq hP hst2 (by simp; omega) hc]
  simp
end XE
/-! the words of the small programs that are printed from the methods -/
def bd {α β : Type} (o : Option (α × Hp)) (f : α → Hp → Option β) : Option β := match o with
  | some (x, h) => f x h
  | none => none
theorem bd_s {α β : Type} {o : Option (α × Hp)} {f : α → Hp → Option β} {r : β} (h : bd o f = some r) : ∃ x h', o = some (x, h') ∧ f x h' = some r := by
  unfold bd at h
  match o, h with
  | some (x, h'), h => exact ⟨x, h', rfl, h⟩
def bn {α β : Type} (o : Option α) (f : α → Option β) : Option β := match o with
  | some x => f x
  | none => none
theorem bn_s {α β : Type} {o : Option α} {f : α → Option β} {r : β} (h : bn o f = some r) : ∃ x, o = some x ∧ f x = some r := by
  unfold bn at h
  match o, h with
  | some x, h => exact ⟨x, rfl, h⟩
def ck {β : Type} (h : Hp) (a ci : Nat) (o : Option β) : Option β := if kd h a = ci then o else none
theorem ck_s {β : Type} {h : Hp} {a ci : Nat} {o : Option β} {r : β} (hh : ck h a ci o = some r) : kd h a = ci ∧ o = some r := by
  unfold ck at hh
  by_cases hc : kd h a = ci
  · rw [if_pos hc] at hh; exact ⟨hc, hh⟩
  · rw [if_neg hc] at hh; cases hh
/-- a loop: at most n rounds -/
def lp {σ ρ : Type} (b : σ → Hp → Option ((σ ⊕ ρ) × Hp)) : Nat → σ → Hp → Option (ρ × Hp)
  | 0, _, _ => none
  | n + 1, s, h => match b s h with
    | none => none
    | some (.inl s', h') => lp b n s' h'
    | some (.inr x, h') => some (x, h')
def FU : Nat := 20000
def ei {α β γ : Type} (x : α ⊕ β) (f : α → γ) (g : β → γ) : γ := match x with
  | .inl a => f a
  | .inr b => g b
theorem ei_l {α β γ : Type} {a : α} {f : α → γ} {g : β → γ} {r : γ} (h : ei (.inl a) f g = r) : f a = r := h
theorem ei_r {α β γ : Type} {b : β} {f : α → γ} {g : β → γ} {r : γ} (h : ei (.inr b) f g = r) : g b = r := h
theorem ej_z {α β : Type} {x : α ⊕ β} {f : α → Option β} {r : Option β} (h : ei x f (fun z => some z) = r) : ∀ z, x = Sum.inr z → some z = r := by
  intro z hz; subst hz; exact h
def eo {α γ : Type} (o : Option α) (f : α → γ) (g : γ) : γ := match o with
  | some a => f a
  | none => g
/-- a loop that doesn't write -/
def lq {σ ρ : Type} (b : σ → Option (σ ⊕ ρ)) : Nat → σ → Option ρ
  | 0, _ => none
  | n + 1, s => match b s with
    | none => none
    | some (.inl s') => lq b n s'
    | some (.inr x) => some x
theorem lp_ev {σ ρ ω : Type} {b : σ → Hp → Option ((σ ⊕ ρ) × Hp)} {G0 : σ → Hp → ω → Prop} {X : ρ → Hp → ω → Prop} (hb : ∀ s h y h', b s h = some (y, h') → ∀ r, ei y (fun s' => G0 s' h' r) (fun x => X x h' r) → G0 s h r) : ∀ (n : Nat) (s : σ) (h : Hp) (x : ρ) (hx : Hp), lp b n s h = some (x, hx) → ∀ r, X x hx r → G0 s h r := by
  intro n
  induction n with
  | zero => intro s h x hx e; cases e
  | succ n ih =>
    intro s h x hx e r hr
    unfold lp at e
    cases hq : b s h with
    | none => rw [hq] at e; cases e
    | some q =>
      obtain ⟨y, h'⟩ := q
      rw [hq] at e
      have hbq := hb s h y h' hq r
      match y, e, hbq with
      | .inl s', e, hbq => exact hbq (ih s' h' x hx e r hr)
      | .inr x', e, hbq =>
        cases e
        exact hbq hr
theorem lq_ev {σ ρ ω : Type} {b : σ → Option (σ ⊕ ρ)} {G0 : σ → ω → Prop} {X : ρ → ω → Prop} (hb : ∀ s y, b s = some y → ∀ r, ei y (fun s' => G0 s' r) (fun x => X x r) → G0 s r) : ∀ (n : Nat) (s : σ) (x : ρ), lq b n s = some x → ∀ r, X x r → G0 s r := by
  intro n
  induction n with
  | zero => intro s x e; cases e
  | succ n ih =>
    intro s x e r hr
    unfold lq at e
    cases hq : b s with
    | none => rw [hq] at e; cases e
    | some y =>
      rw [hq] at e
      have hbq := hb s y hq r
      match y, e, hbq with
      | .inl s', e, hbq => exact hbq (ih s' x e r hr)
      | .inr x', e, hbq =>
        cases e
        exact hbq hr
