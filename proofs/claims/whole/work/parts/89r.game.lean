/-! king and village: the pure game -/
def dryO (L : Lk) (o : Int → Int) (c : Nat) : Int := L 1 0 - (pc5 (und (hgo L o c) (hn L)) : Nat)
def cjc (c j : Nat) : Nat := if j = 0 then c else c ||| 2 ^ (j - 1)
def gmk (L : Lk) (g : Nat → Int) : Int := g (lw (fun j => g j.toNat) (rn L + 1))
def gmv (L : Lk) (g : Nat → Int) : Int := g (lw (fun j => - g j.toNat) (hn L))
def gm (L : Lk) : Nat → Bool → (Int → Int) → Nat → Int
  | 0, _, o, c => dryO L o c
  | m + 1, true, o, c => gmk L (fun j => gm L m false o (cjc c j))
  | m + 1, false, o, c => gmv L (fun z => gm L m true (upo o z (-2)) c)
theorem dryO_b {L : Lk} (HL : LW L) (o : Int → Int) (c : Nat) : 0 ≤ dryO L o c ∧ dryO L o c ≤ 5 := by
  have b1 := LW_h HL
  have hne := hn_e HL
  have := pc_le (hn L) (by omega) (und (hgo L o c) (hn L)) (und_32 _ (by omega)) (und_lt _ _)
  unfold dryO
  omega
theorem gm_b {L : Lk} (HL : LW L) : ∀ (m : Nat) (t : Bool) (o : Int → Int) (c : Nat), 0 ≤ gm L m t o c ∧ gm L m t o c ≤ 5 := by
  intro m
  induction m with
  | zero => intro t o c; exact dryO_b HL o c
  | succ m ih =>
    intro t o c
    cases t with
    | true => exact ih false o _
    | false => exact ih true _ c
theorem dryO_e {L : Lk} {o p : Int → Int} (c : Nat) (h : ∀ i : Nat, i < hn L → o i = p i) : dryO L o c = dryO L p c := by
  unfold dryO
  rw [und_e (fun i _ => hgo_e c i h)]
theorem gm_e {L : Lk} : ∀ (m : Nat) (t : Bool) (o p : Int → Int) (c : Nat), (∀ i : Nat, i < hn L → o i = p i) → gm L m t o c = gm L m t p c := by
  intro m
  induction m with
  | zero => intro t o p c h; exact dryO_e c h
  | succ m ih =>
    intro t o p c h
    cases t with
    | true =>
      have e : (fun j => gm L m false o (cjc c j)) = fun j => gm L m false p (cjc c j) := by funext j; exact ih false o p _ h
      show gmk L _ = gmk L _
      rw [e]
    | false =>
      have e : (fun z : Nat => gm L m true (upo o z (-2)) c) = fun z : Nat => gm L m true (upo p z (-2)) c := by
        funext z
        refine ih true _ _ c (fun i hi => ?_)
        unfold upo
        rw [h i hi]
      show gmv L _ = gmv L _
      rw [e]
/-- lw is the first of the least -/
theorem lw_min {f : Int → Int} : ∀ n : Nat, ∀ i : Nat, i < n + 1 → f (lw f (n + 1) : Nat) ≤ f i ∧ (i < lw f (n + 1) → f (lw f (n + 1) : Nat) < f i) := by
  intro n
  induction n with
  | zero =>
    intro i hi
    have e : lw f (0 + 1) = 0 := by have := lw_lt f 0; omega
    have e' : i = 0 := by omega
    rw [e, e']
    exact ⟨Int.le_refl _, fun h => by omega⟩
  | succ n ih =>
    intro i hi
    have e6 : lw f (n + 1 + 1) = if f ((n + 1 : Nat) : Int) < f (lw f (n + 1) : Nat) then n + 1 else lw f (n + 1) := rfl
    have ll := lw_lt f n
    rw [e6]
    by_cases c : f ((n + 1 : Nat) : Int) < f (lw f (n + 1) : Nat)
    · rw [if_pos c]
      by_cases d : i = n + 1
      · rw [d]; exact ⟨Int.le_refl _, fun h => by omega⟩
      · have := ih i (by omega)
        exact ⟨by omega, fun _ => by omega⟩
    · rw [if_neg c]
      by_cases d : i = n + 1
      · rw [d]; exact ⟨by omega, fun h => by omega⟩
      · exact ih i (by omega)
theorem gmk_le {L : Lk} (g : Nat → Int) : ∀ i : Nat, i < rn L + 1 → gmk L g ≤ g i := by
  intro i hi
  have := (lw_min (f := fun j => g j.toNat) (rn L) i hi).1
  exact this
theorem gmv_ge {L : Lk} (h1 : 1 ≤ hn L) (g : Nat → Int) : ∀ i : Nat, i < hn L → g i ≤ gmv L g := by
  intro i hi
  have e0 : hn L - 1 + 1 = hn L := by omega
  have := (lw_min (f := fun j => - g j.toNat) (hn L - 1) i (by omega)).1
  rw [e0] at this
  replace this : - g (lw (fun j => - g j.toNat) (hn L)) ≤ - g i := this
  unfold gmv
  omega
/-! one cork more: those of one raft come up -/
theorem pc_or : ∀ x, x < 32 → ∀ y, y < 32 → x &&& y = 0 → pc5 (x ||| y) = pc5 x + pc5 y := by decide +kernel
theorem neg_div {a : Int} {d : Nat} (hd : 1 ≤ d) : (a / (d : Int) < 0) = (a < 0) := by
  apply propext
  constructor
  · intro h
    by_cases c : a < 0
    · exact c
    · have := Int.ediv_nonneg (show 0 ≤ a by omega) (show (0 : Int) ≤ (d : Int) by omega)
      omega
  · intro h
    exact Int.ediv_neg_of_neg_of_pos h (by omega)
theorem dry_up {L : Lk} (HL : LW L) (o : Int → Int) (c : Nat) {z : Nat} (hz : z < L 1 0) : dryO L (upo o z (-2)) c = dryO L o c + (if hgo L o c z < 0 ∧ 0 ≤ tot o (hn L) (raft L c z) + 2 then (pc5 (raft L c z) : Int) else 0) := by
  have b1 := LW_h HL
  have hne := hn_e HL
  have pz := raft_p HL c (h := z) (by omega) hz
  have hu : ∀ q : Nat, q < hn L → hgo L (upo o z (-2)) c q = if (raft L c z).testBit q = true then (tot o (hn L) (raft L c z) - (-2)) / (pc5 (raft L c z) : Int) else hgo L o c q := fun q hq => hgo_upo HL o c (-2) hz (by omega)
  have hs : ∀ q : Nat, q < hn L → (raft L c z).testBit q = true → hgo L o c q = tot o (hn L) (raft L c z) / (pc5 (raft L c z) : Int) := fun q hq hb => by
    have es := raft_s HL c (h := z) (g := q) (by omega) hz (by omega) (by omega) (by rw [Int.toNat_natCast]; exact hb)
    unfold hgo
    rw [es]
  have hz0 : hgo L o c z = tot o (hn L) (raft L c z) / (pc5 (raft L c z) : Int) := rfl
  unfold dryO
  by_cases g : hgo L o c z < 0 ∧ 0 ≤ tot o (hn L) (raft L c z) + 2
  · rw [if_pos g]
    have u1 := und_32 (hgo L o c) (n := hn L) (by omega)
    have u2 := und_32 (hgo L (upo o z (-2)) c) (n := hn L) (by omega)
    -- under is what is under then, and the raft
    have eo : und (hgo L o c) (hn L) = und (hgo L (upo o z (-2)) c) (hn L) ||| raft L c z := by
      apply Nat.eq_of_testBit_eq
      intro i
      rw [Nat.testBit_or, und_bit, und_bit]
      by_cases ci : i < hn L
      · rw [decide_eq_true ci, Bool.true_and, Bool.true_and]
        by_cases cb : (raft L c z).testBit i = true
        · rw [cb, Bool.or_true, hs i ci cb, ← hz0]
          exact decide_eq_true g.1
        · have cb' : (raft L c z).testBit i = false := by cases hh : (raft L c z).testBit i with | true => exact absurd hh cb | false => rfl
          rw [cb', Bool.or_false, hu i ci, if_neg cb]
      · rw [decide_eq_false ci, Bool.false_and, Bool.false_and, Bool.false_or]
        have : ¬ (raft L c z).testBit i = true := fun hh => ci (lt_of_bit pz.1 hh)
        cases hh : (raft L c z).testBit i with
        | true => exact absurd hh this
        | false => rfl
    have ea : und (hgo L (upo o z (-2)) c) (hn L) &&& raft L c z = 0 := by
      apply Nat.eq_of_testBit_eq
      intro i
      rw [Nat.testBit_and, und_bit, Nat.zero_testBit]
      by_cases cb : (raft L c z).testBit i = true
      · have ci : i < hn L := lt_of_bit pz.1 cb
        have : ¬ hgo L (upo o z (-2)) c i < 0 := by
          rw [hu i ci, if_pos cb, neg_div pz.2.2.2.1]
          omega
        rw [decide_eq_false this, Bool.and_false, Bool.false_and]
      · have cb' : (raft L c z).testBit i = false := by cases hh : (raft L c z).testBit i with | true => exact absurd hh cb | false => rfl
        rw [cb', Bool.and_false]
    have := pc_or _ u2 _ pz.2.1 ea
    rw [← eo] at this
    omega
  · rw [if_neg g]
    have e : und (hgo L (upo o z (-2)) c) (hn L) = und (hgo L o c) (hn L) := by
      apply Nat.eq_of_testBit_eq
      intro i
      rw [und_bit, und_bit]
      by_cases ci : i < hn L
      · congr 1
        by_cases cb : (raft L c z).testBit i = true
        · have x1 := hu i ci
          rw [if_pos cb] at x1
          rw [x1, hs i ci cb]
          rw [hz0] at g
          have n1 := neg_div (a := tot o (hn L) (raft L c z)) pz.2.2.2.1
          have n2 := neg_div (a := tot o (hn L) (raft L c z) - (-2)) pz.2.2.2.1
          rw [n1] at g
          simp only [n1, n2]
          by_cases neg : tot o (hn L) (raft L c z) < 0
          · rw [decide_eq_true neg, decide_eq_true (by omega)]
          · rw [decide_eq_false neg, decide_eq_false (by omega)]
        · rw [hu i ci, if_neg cb]
      · rw [decide_eq_false ci, Bool.false_and, Bool.false_and]
    rw [e]
    omega
/-- how many the last cork can bring up -/
def mrs (L : Lk) (o : Int → Int) (c : Nat) : Nat → Int
  | 0 => 0
  | h + 1 => if hgo L o c h < 0 ∧ 0 ≤ tot o (hn L) (raft L c h) + 2 then max (mrs L o c h) (pc5 (raft L c h) : Int) else mrs L o c h
theorem mrs_p {L : Lk} (HL : LW L) (o : Int → Int) (c : Nat) : ∀ n : Nat, n ≤ hn L → 0 ≤ mrs L o c n ∧ mrs L o c n ≤ 5 ∧ (∀ i : Nat, i < n → dryO L (upo o i (-2)) c ≤ dryO L o c + mrs L o c n) ∧ (mrs L o c n = 0 ∨ ∃ i : Nat, i < n ∧ dryO L (upo o i (-2)) c = dryO L o c + mrs L o c n) := by
  have hne := hn_e HL
  have b1 := LW_h HL
  intro n
  induction n with
  | zero => intro _; exact ⟨Int.le_refl _, by show (0 : Int) ≤ 5; omega, fun i hi => by omega, Or.inl rfl⟩
  | succ n ih =>
    intro hn'
    obtain ⟨i1, i2, i3, i4⟩ := ih (by omega)
    have du := dry_up HL o c (z := n) (by omega)
    have pz := raft_p HL c (h := n) (by omega) (by omega)
    have e6 : mrs L o c (n + 1) = if hgo L o c n < 0 ∧ 0 ≤ tot o (hn L) (raft L c n) + 2 then max (mrs L o c n) (pc5 (raft L c n) : Int) else mrs L o c n := rfl
    by_cases g : hgo L o c n < 0 ∧ 0 ≤ tot o (hn L) (raft L c n) + 2
    · rw [if_pos g] at e6 du
      rw [e6]
      refine ⟨by omega, by omega, fun i hi => ?_, ?_⟩
      · by_cases d : i = n
        · rw [d]; omega
        · have := i3 i (by omega); omega
      · by_cases d : mrs L o c n ≤ (pc5 (raft L c n) : Int)
        · exact Or.inr ⟨n, by omega, by omega⟩
        · cases i4 with
          | inl h => omega
          | inr h =>
            obtain ⟨i, h1, h2⟩ := h
            exact Or.inr ⟨i, by omega, by omega⟩
    · rw [if_neg g] at e6 du
      rw [e6]
      refine ⟨i1, i2, fun i hi => ?_, ?_⟩
      · by_cases d : i = n
        · rw [d]; omega
        · exact i3 i (by omega)
      · cases i4 with
        | inl h => exact Or.inl h
        | inr h =>
          obtain ⟨i, h1, h2⟩ := h
          exact Or.inr ⟨i, by omega, h2⟩
theorem gm_1 {L : Lk} (HL : LW L) (H1 : 1 ≤ L 1 0) (o : Int → Int) (c : Nat) : gm L 1 false o c = dryO L o c + mrs L o c (hn L) := by
  have hne := hn_e HL
  obtain ⟨p1, p2, p3, p4⟩ := mrs_p HL o c (hn L) (Nat.le_refl _)
  have ge := gmv_ge (L := L) (by omega) (fun z => dryO L (upo o z (-2)) c)
  have lt := lwl (fun j => - (fun z : Nat => dryO L (upo o z (-2)) c) j.toNat) (n := hn L) (by omega)
  have le := p3 _ lt
  replace le : gmv L (fun z => dryO L (upo o z (-2)) c) ≤ dryO L o c + mrs L o c (hn L) := le
  show gmv L (fun z => dryO L (upo o z (-2)) c) = _
  cases p4 with
  | inl h =>
    have g0 := ge 0 (by omega)
    have d0 := dry_up HL o c (z := 0) (by omega)
    have := raft_p HL c (h := ((0 : Nat) : Int)) (by omega) (by omega)
    by_cases g : hgo L o c ((0 : Nat) : Int) < 0 ∧ 0 ≤ tot o (hn L) (raft L c ((0 : Nat) : Int)) + 2
    · rw [if_pos g] at d0
      replace g0 : dryO L (upo o ((0 : Nat) : Int) (-2)) c ≤ gmv L (fun z => dryO L (upo o z (-2)) c) := g0
      omega
    · rw [if_neg g] at d0
      replace g0 : dryO L (upo o ((0 : Nat) : Int) (-2)) c ≤ gmv L (fun z => dryO L (upo o z (-2)) c) := g0
      omega
  | inr h =>
    obtain ⟨i, h1, h2⟩ := h
    have gi := ge i h1
    replace gi : dryO L (upo o (i : Int) (-2)) c ≤ gmv L (fun z => dryO L (upo o z (-2)) c) := gi
    omega
