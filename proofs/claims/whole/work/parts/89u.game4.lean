/-! the reference's game: leaves by code, folded -/
def ch (L : Lk) (k : Nat) : Nat := if k % 2 = 0 then rn L + 1 else hn L
def al (L : Lk) : Nat → Nat
  | 0 => 1
  | k + 1 => al L k * ch L k
def stp (T : Sk) (k j : Nat) : Sk := if k % 2 = 1 then upS T (5 * (j : Int) + 3) (T (5 * (j : Int) + 3) + 1) else if j = 0 then T else upS T 28 (((T 28).toNat ||| 2 ^ (j - 1) : Nat) : Int)
def St (L : Lk) (S : Sk) : Nat → Nat → Sk
  | 0, _ => S
  | k + 1, code => stp (St L S k (code / ch L k)) k (code % ch L k)
def tn (k : Nat) : Bool := decide (k % 2 = 0)
def vlv (L : Lk) (S : Sk) (m k code : Nat) : Int := gm L m (tn k) (net L (St L S k code)) (St L S k code 28).toNat
theorem ch_b {L : Lk} (HL : LW L) (H1 : 1 ≤ L 1 0) (k : Nat) : 1 ≤ ch L k ∧ ch L k ≤ 6 ∧ (k % 2 = 1 → ch L k ≤ 5) := by
  have b1 := LW_h HL
  have b2 := LW_r HL
  have hne := hn_e HL
  have rne := rn_e HL
  unfold ch
  by_cases c : k % 2 = 0
  · rw [if_pos c]; omega
  · rw [if_neg c]; omega
theorem al_b {L : Lk} (HL : LW L) (H1 : 1 ≤ L 1 0) {k : Nat} (hk : k ≤ 4) : 1 ≤ al L k ∧ al L k ≤ 900 := by
  have c0 := ch_b HL H1 0
  have c1 := ch_b HL H1 1
  have c2 := ch_b HL H1 2
  have c3 := ch_b HL H1 3
  have a1 : 1 ≤ al L 1 ∧ al L 1 ≤ 6 := by show 1 ≤ 1 * ch L 0 ∧ 1 * ch L 0 ≤ 6; omega
  have a2 : 1 ≤ al L 2 ∧ al L 2 ≤ 30 := ⟨Nat.mul_le_mul a1.1 c1.1, Nat.mul_le_mul a1.2 (c1.2.2 rfl)⟩
  have a3 : 1 ≤ al L 3 ∧ al L 3 ≤ 180 := ⟨Nat.mul_le_mul a2.1 c2.1, Nat.mul_le_mul a2.2 c2.2.1⟩
  have a4 : 1 ≤ al L 4 ∧ al L 4 ≤ 900 := ⟨Nat.mul_le_mul a3.1 c3.1, Nat.mul_le_mul a3.2 (c3.2.2 rfl)⟩
  have a0 : al L 0 = 1 := rfl
  have : k = 0 ∨ k = 1 ∨ k = 2 ∨ k = 3 ∨ k = 4 := by omega
  rcases this with e | e | e | e | e
  all_goals (rw [e]; omega)
/-- a state of the game -/
def sk (L : Lk) (m : Nat) (T : Sk) : Prop := CW (999 + m) T ∧ gok L T ∧ 0 ≤ T 28 ∧ (T 28).toNat < 2 ^ rn L
theorem sk_stk {L : Lk} {m : Nat} {T : Sk} (hm : m ≤ 5) (H : sk L m T) : stk L T := ⟨H.2.1, H.2.2.1, H.2.2.2, fun i i0 i1 => by have := H.1 i i0 i1; omega⟩
theorem sk_stp {L : Lk} (HL : LW L) {m k j : Nat} {T : Sk} (H : sk L m T) (hj : j < ch L k) : sk L (m + 1) (stp T k j) := by
  have b1 := LW_h HL
  have b2 := LW_r HL
  have b3 := LW_g HL
  have hne := hn_e HL
  have rne := rn_e HL
  obtain ⟨w1, w2, w3, w4⟩ := H
  unfold ch at hj
  unfold stp
  by_cases c : k % 2 = 1
  · rw [if_neg (by omega)] at hj
    rw [if_pos c]
    refine ⟨fun i i0 i1 => ?_, fun g g0 g1 => ?_, ?_, ?_⟩
    · unfold upS
      by_cases e : i = 5 * (j : Int) + 3
      · rw [if_pos e]
        have := w1 (5 * (j : Int) + 3) (by omega) (by omega)
        omega
      · rw [if_neg e]
        have := w1 i i0 i1
        omega
    · rw [upS_ne (by omega)]; exact w2 g g0 g1
    · rw [upS_ne (by omega)]; exact w3
    · rw [upS_ne (by omega)]; exact w4
  · rw [if_pos (by omega)] at hj
    rw [if_neg c]
    have w1' : CW (999 + ((m + 1 : Nat) : Int)) T := fun i i0 i1 => by have := w1 i i0 i1; omega
    by_cases j0 : j = 0
    · rw [if_pos j0]; exact ⟨w1', w2, w3, w4⟩
    · rw [if_neg j0]
      have hl := or_lt (rn L) (by omega) (T 28).toNat w4 (j - 1) (by omega)
      have e : upS T 28 (((T 28).toNat ||| 2 ^ (j - 1) : Nat) : Int) 28 = (((T 28).toNat ||| 2 ^ (j - 1) : Nat) : Int) := if_pos rfl
      refine ⟨fun i i0 i1 => ?_, fun g g0 g1 => ?_, ?_, ?_⟩
      · rw [upS_ne (by omega)]; exact w1' i i0 i1
      · rw [upS_ne (by omega)]; exact w2 g g0 g1
      · rw [e]; omega
      · rw [e, Int.toNat_natCast]; exact hl
theorem sk_St {L : Lk} (HL : LW L) (H1 : 1 ≤ L 1 0) {S : Sk} (H : sk L 0 S) : ∀ (k code : Nat), sk L k (St L S k code) := by
  intro k
  induction k with
  | zero => intro _; exact H
  | succ k ih =>
    intro code
    exact sk_stp HL (ih _) (Nat.mod_lt _ (by have := ch_b HL H1 k; omega))
theorem net_white {L : Lk} (HL : LW L) (T : Sk) {j : Nat} (hj : j < hn L) : ∀ i : Nat, i < hn L → net L (upS T (5 * (j : Int) + 3) (T (5 * (j : Int) + 3) + 1)) i = upo (net L T) j (-2) i := by
  intro i hi
  have b1 := LW_h HL
  have hne := hn_e HL
  have b3 := LW_g HL
  have ew : wgt L (upS T (5 * (j : Int) + 3) (T (5 * (j : Int) + 3) + 1)) i = wgt L T i := by
    unfold wgt gsm
    congr 1
    refine sm_e (fun g hg => ?_)
    rw [upS_ne (by omega)]
  unfold upo
  show lft _ i - wgt L _ i = if (i : Int) = j then (lft T i - wgt L T i) - -2 else lft T i - wgt L T i
  rw [ew]
  unfold lft
  by_cases e : i = j
  · subst e
    have e3 : upS T (5 * (i : Int) + 3) (T (5 * (i : Int) + 3) + 1) (5 * (i : Int) + 3) = T (5 * (i : Int) + 3) + 1 := if_pos rfl
    rw [if_pos rfl, e3, upS_ne (by omega), upS_ne (by omega), upS_ne (by omega), upS_ne (by omega)]
    omega
  · rw [if_neg (by omega), upS_ne (by omega), upS_ne (by omega), upS_ne (by omega), upS_ne (by omega), upS_ne (by omega)]
theorem gmv_e {L : Lk} (h1 : 1 ≤ hn L) {g g' : Nat → Int} (h : ∀ z, z < hn L → g z = g' z) : gmv L g = gmv L g' := by
  unfold gmv
  have e : lw (fun j => - g j.toNat) (hn L) = lw (fun j => - g' j.toNat) (hn L) := lw_e (fun i hi => by show - g ((i : Int).toNat) = - g' ((i : Int).toNat); rw [Int.toNat_natCast, h i hi])
  rw [e]
  exact h _ (lwl _ h1)
/-- a level folded -/
def opt (L : Lk) (k : Nat) (g : Nat → Int) : Int := if k % 2 = 0 then gmk L g else gmv L g
theorem vlv_s {L : Lk} (HL : LW L) (H1 : 1 ≤ L 1 0) (S : Sk) (m k code : Nat) : vlv L S (m + 1) k code = opt L k (fun j => vlv L S m (k + 1) (code * ch L k + j)) := by
  have cb := ch_b HL H1 k
  have hne := hn_e HL
  have rne := rn_e HL
  have b2 := LW_r HL
  have st : ∀ j, j < ch L k → St L S (k + 1) (code * ch L k + j) = stp (St L S k code) k j := by
    intro j hj
    show stp (St L S k ((code * ch L k + j) / ch L k)) k ((code * ch L k + j) % ch L k) = _
    rw [Nat.mul_add_mod_of_lt hj, Nat.mul_comm code, Nat.mul_add_div (by omega), Nat.div_eq_of_lt hj, Nat.add_zero]
  unfold opt
  by_cases c : k % 2 = 0
  · have t1 : tn k = true := decide_eq_true c
    have t2 : tn (k + 1) = false := decide_eq_false (by omega)
    have ce : ch L k = rn L + 1 := if_pos c
    rw [if_pos c]
    show gm L (m + 1) (tn k) _ _ = _
    rw [t1]
    show gmk L (fun j => gm L m false (net L (St L S k code)) (cjc (St L S k code 28).toNat j)) = _
    unfold gmk
    have ev : ∀ j : Nat, j < rn L + 1 → gm L m false (net L (St L S k code)) (cjc (St L S k code 28).toNat j) = vlv L S m (k + 1) (code * ch L k + j) := by
      intro j hj
      unfold vlv
      rw [st j (by omega), t2]
      unfold stp
      rw [if_neg (by omega)]
      unfold cjc
      by_cases j0 : j = 0
      · rw [if_pos j0, if_pos j0]
      · rw [if_neg j0, if_neg j0]
        have e : (upS (St L S k code) 28 (((St L S k code 28).toNat ||| 2 ^ (j - 1) : Nat) : Int) 28).toNat = (St L S k code 28).toNat ||| 2 ^ (j - 1) := by
          show (if (28 : Int) = 28 then _ else _ : Int).toNat = _
          rw [if_pos rfl, Int.toNat_natCast]
        rw [e]
        exact gm_e m false _ _ _ (fun i hi => (net_28 HL _ _ i hi).symm)
    have el := lw_e (n := rn L + 1) (f := fun j : Int => gm L m false (net L (St L S k code)) (cjc (St L S k code 28).toNat j.toNat)) (g := fun j : Int => vlv L S m (k + 1) (code * ch L k + j.toNat)) (fun i hi => by
      show gm L m false _ (cjc _ ((i : Int).toNat)) = vlv L S m (k + 1) (code * ch L k + (i : Int).toNat)
      rw [Int.toNat_natCast]
      exact ev i hi)
    rw [el]
    exact ev _ (lwl _ (by omega))
  · have t1 : tn k = false := decide_eq_false c
    have t2 : tn (k + 1) = true := decide_eq_true (by omega)
    have ce : ch L k = hn L := if_neg c
    rw [if_neg c]
    show gm L (m + 1) (tn k) _ _ = _
    rw [t1]
    show gmv L (fun z => gm L m true (upo (net L (St L S k code)) z (-2)) (St L S k code 28).toNat) = _
    refine gmv_e (by omega) (fun j hj => ?_)
    unfold vlv
    rw [st j (by omega), t2]
    unfold stp
    have b1 := LW_h HL
    rw [if_pos (by omega), upS_ne (show (28 : Int) ≠ 5 * (j : Int) + 3 by omega)]
    exact gm_e m true _ _ _ (fun i hi => (net_white HL _ hj i hi).symm)
