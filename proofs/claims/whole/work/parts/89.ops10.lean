/-! bestStay, bestMove: where she should stay -/
theorem totB {o : Int → Int} {n : Nat} {lo hi : Int} (hl : lo ≤ 0) (hh : 0 ≤ hi) (x : Nat) (ho : ∀ i : Nat, i < n → lo ≤ o i ∧ o i ≤ hi) : n * lo ≤ tot o n x ∧ tot o n x ≤ n * hi := by
  unfold tot
  refine sm_b (fun i hi' => ?_)
  have := ho i hi'
  show lo ≤ (if x.testBit i = true then o i else 0) ∧ (if x.testBit i = true then o i else 0) ≤ hi
  by_cases hc : x.testBit i = true
  · rw [if_pos hc]; exact this
  · rw [if_neg hc]; omega
theorem divB {a lo hi : Int} {d : Nat} (hd : 1 ≤ d ∧ d ≤ 5) (hl : lo ≤ 0) (hh : 0 ≤ hi) (ha : lo ≤ a ∧ a ≤ hi) : lo ≤ a / (d : Int) ∧ a / (d : Int) ≤ hi := by
  have : d = 1 ∨ d = 2 ∨ d = 3 ∨ d = 4 ∨ d = 5 := by omega
  rcases this with e | e | e | e | e
  all_goals (rw [e]; omega)
theorem tot_e {o p : Int → Int} {n : Nat} (x : Nat) (h : ∀ i : Nat, i < n → o i = p i) : tot o n x = tot p n x := by
  unfold tot
  refine sm_e (fun i hi => ?_)
  rw [h i hi]
theorem hgo_e {L : Lk} {o p : Int → Int} (c : Nat) (z : Int) (h : ∀ i : Nat, i < hn L → o i = p i) : hgo L o c z = hgo L p c z := by
  unfold hgo
  rw [tot_e _ h]
theorem tot_upo (o : Int → Int) (z : Nat) (w : Int) (x : Nat) : ∀ n, tot (upo o z w) n x = tot o n x - (if z < n ∧ x.testBit z = true then w else 0) := by
  intro n
  induction n with
  | zero => rw [if_neg (by omega)]; rfl
  | succ n ih =>
    show tot (upo o z w) n x + (if x.testBit n = true then upo o z w n else 0) = tot o n x + (if x.testBit n = true then o n else 0) - _
    rw [ih]
    unfold upo
    by_cases e : z = n
    · subst e
      rw [if_neg (by omega)]
      by_cases b : x.testBit z = true
      · rw [if_pos b, if_pos b, if_pos rfl, if_pos ⟨by omega, b⟩]; omega
      · rw [if_neg b, if_neg b, if_neg (fun y => b y.2)]; omega
    · rw [if_neg (show ¬ (n : Int) = (z : Int) by omega)]
      have i1 : (z < n + 1) = (z < n) := propext ⟨fun x => by omega, fun x => by omega⟩
      simp only [i1]
      generalize (if z < n ∧ x.testBit z = true then w else 0) = u
      generalize (if x.testBit n = true then o n else 0) = u'
      omega
theorem hgo_upo {L : Lk} (HL : LW L) (o : Int → Int) (c : Nat) (w : Int) {z q : Nat} (hz : z < L 1 0) (hq : q < L 1 0) : hgo L (upo o z w) c q = if (raft L c z).testBit q = true then (tot o (hn L) (raft L c z) - w) / (pc5 (raft L c z) : Int) else hgo L o c q := by
  have hne := hn_e HL
  have pz := raft_p HL c (h := z) (by omega) hz
  have pq := raft_p HL c (h := q) (by omega) hq
  have e1 : ((z : Int)).toNat = z := by omega
  have e2 : ((q : Int)).toNat = q := by omega
  rw [e1] at pz
  rw [e2] at pq
  unfold hgo
  rw [tot_upo]
  by_cases b : (raft L c z).testBit q = true
  · rw [if_pos b]
    have es := raft_s HL c (h := z) (g := q) (by omega) hz (by omega) hq (by rw [e2]; exact b)
    rw [es, if_pos ⟨by omega, pz.2.2.1⟩]
  · rw [if_neg b, if_neg]
    · rw [Int.sub_zero]
    · rintro ⟨_, y⟩
      have es := raft_s HL c (h := q) (g := z) (by omega) hq (by omega) hz (by rw [e1]; exact y)
      rw [es] at b
      exact b pq.2.2.1
/-- the least of g, by a start that is more -/
def mnf (M : Int) (g : Int → Int) : Nat → Int
  | 0 => M
  | n + 1 => if g n < mnf M g n then g n else mnf M g n
theorem mnf_lw {M : Int} {g : Int → Int} : ∀ n : Nat, (∀ i : Nat, i < n + 1 → g i < M) → mnf M g (n + 1) = g (lw g (n + 1) : Nat) := by
  intro n
  induction n with
  | zero =>
    intro h
    have h0 := h 0 (by omega)
    show (if g (0 : Nat) < M then g (0 : Nat) else M) = _
    rw [if_pos h0]
    have e : lw g (0 + 1) = 0 := by have := lw_lt g 0; omega
    rw [e]
  | succ n ih =>
    intro h
    have ih' := ih (fun i hi => h i (by omega))
    show (if g (n + 1 : Nat) < mnf M g (n + 1) then g (n + 1 : Nat) else mnf M g (n + 1)) = g ((if g (n + 1 : Nat) < g (lw g (n + 1) : Nat) then n + 1 else lw g (n + 1) : Nat) : Int)
    rw [ih']
    by_cases c : g (n + 1 : Nat) < g (lw g (n + 1) : Nat)
    · rw [if_pos c, if_pos c]
    · rw [if_neg c, if_neg c]
theorem lwl (g : Int → Int) {n : Nat} (h : 1 ≤ n) : lw g n < n := by
  have := lw_lt g (n - 1)
  have e0 : n - 1 + 1 = n := by omega
  rw [e0] at this
  omega
theorem hgo_B {L : Lk} (HL : LW L) {o : Int → Int} {lo hi : Int} (hl : lo ≤ 0) (hh : 0 ≤ hi) (ho : ∀ i, 0 ≤ i → i < L 1 0 → lo ≤ o i ∧ o i ≤ hi) (c : Nat) {z : Int} (h0 : 0 ≤ z) (h1 : z < L 1 0) : 5 * lo ≤ hgo L o c z ∧ hgo L o c z ≤ 5 * hi := by
  have b1 := LW_h HL
  have hne := hn_e HL
  have hp := raft_p HL c h0 h1
  have tb := totB (n := hn L) hl hh (raft L c z) (fun i hi' => ho i (by omega) (by omega))
  have : (hn L : Int) * lo ≥ 5 * lo := by
    have : hn L = 0 ∨ hn L = 1 ∨ hn L = 2 ∨ hn L = 3 ∨ hn L = 4 ∨ hn L = 5 := by omega
    rcases this with e | e | e | e | e | e
    all_goals (rw [e]; omega)
  have : (hn L : Int) * hi ≤ 5 * hi := by
    have : hn L = 0 ∨ hn L = 1 ∨ hn L = 2 ∨ hn L = 3 ∨ hn L = 4 ∨ hn L = 5 := by omega
    rcases this with e | e | e | e | e | e
    all_goals (rw [e]; omega)
  unfold hgo
  exact divB ⟨hp.2.2.2.1, hp.2.2.2.2⟩ (by omega) (by omega) (by omega)
theorem D_stays {L : Lk} {b : Nat} {h : Hp} {S : Sk} {w : Int} (HL : LW L) (H1 : 1 ≤ L 1 0) (C : RC L b h) (X : XR S h) (hs : stk L S) (hb : CW 999 S) (hw : 0 ≤ w ∧ w ≤ 99) : F_md_stays 88 (J w) h = some (J (am (lov L (net L S) (S 28).toNat w) (hn L) : Nat)) := by
  have b1 := LW_h HL
  have hne := hn_e HL
  obtain ⟨o, ho⟩ : ∃ o, o = net L S := ⟨_, rfl⟩
  obtain ⟨c, hc⟩ : ∃ c, c = (S 28).toNat := ⟨_, rfl⟩
  have ob : ∀ i, 0 ≤ i → i < L 1 0 → -249 ≤ o i ∧ o i ≤ 11988 := fun i i0 i1 => by
    have := net_b HL hb i0 i1
    rw [ho]; omega
  have ub : ∀ z : Int, ∀ i, 0 ≤ i → i < L 1 0 → -348 ≤ upo o z w i ∧ upo o z w i ≤ 11988 := fun z i i0 i1 => by
    have := ob i i0 i1
    unfold upo
    by_cases e : i = z
    · rw [if_pos e]; omega
    · rw [if_neg e]; omega
  have gb : ∀ z : Int, ∀ q : Nat, q < L 1 0 → -1740 ≤ hgo L (upo o z w) c q ∧ hgo L (upo o z w) c q ≤ 59940 := fun z q hq => by
    have := hgo_B HL (by omega) (by omega) (ub z) c (z := q) (by omega) hq
    omega
  have lb : ∀ z : Int, -1740 ≤ lov L o c w z ∧ lov L o c w z ≤ 59940 := fun z => by
    unfold lov
    exact gb z _ (by have := lwl (hgo L (upo o z w) c) (n := hn L) (by omega); omega)
  rw [← ho, ← hc]
  have inn : ∀ (z : Nat) (x y : Int32), z < L 1 0 → lq (B_md_stays_37 88 (J w) x y (J z) (J (raft L c z : Nat)) h) FU (J 99999, J 0) = some (J (lov L o c w z)) := fun z x y hz => by
    have pz := raft_p HL c (h := z) (by omega) hz
    have en : F_md_netOfAll 88 (J (raft L c z : Nat)) h = some (J (tot o (hn L) (raft L c z))) := by rw [ho]; exact D_netOfAll HL C X hs.1 pz.2.1
    have eb := bits_e _ pz.2.1
    have tb := totB (n := hn L) (lo := -249) (hi := 11988) (by omega) (by omega) (raft L c z) (fun i hi' => ob i (by omega) (by omega))
    have ml : mnf 99999 (hgo L (upo o z w) c) (hn L) = lov L o c w z := by
      have := mnf_lw (M := 99999) (g := hgo L (upo o z w) c) (hn L - 1) (fun i hi => by have := gb z i (by omega); omega)
      have e0 : hn L - 1 + 1 = hn L := by omega
      rw [e0] at this
      exact this
    rw [← ml]
    refine lq_for (fun i => (J (mnf 99999 (hgo L (upo o z w) c) i), J i)) (hn L) (by unfold FU; omega) rfl (fun i hi => ?_) ?_
    · have hi' : (i : Int) < L 1 0 := by omega
      have e6 : mnf 99999 (hgo L (upo o z w) c) (i + 1) = if hgo L (upo o z w) c i < mnf 99999 (hgo L (upo o z w) c) i then hgo L (upo o z w) c i else mnf 99999 (hgo L (upo o z w) c) i := rfl
      have gi := gb z i hi'
      have mb : ∀ n : Nat, n ≤ L 1 0 → -1740 ≤ mnf 99999 (hgo L (upo o z w) c) n ∧ mnf 99999 (hgo L (upo o z w) c) n ≤ 99999 := by
        intro n
        induction n with
        | zero => intro _; exact ⟨by show (-1740 : Int) ≤ 99999; omega, Int.le_refl _⟩
        | succ n ih =>
          intro hn'
          have ih' := ih (by omega)
          have := gb z n (by omega)
          show -1740 ≤ (if hgo L (upo o z w) c n < mnf 99999 (hgo L (upo o z w) c) n then hgo L (upo o z w) c n else mnf 99999 (hgo L (upo o z w) c) n) ∧ (if hgo L (upo o z w) c n < mnf 99999 (hgo L (upo o z w) c) n then hgo L (upo o z w) c n else mnf 99999 (hgo L (upo o z w) c) n) ≤ 99999
          by_cases e : hgo L (upo o z w) c n < mnf 99999 (hgo L (upo o z w) c) n
          · rw [if_pos e]; omega
          · rw [if_neg e]; omega
      have mi := mb i (by omega)
      have bt := bit_e (n := raft L c z) (z := i) pz.2.1 (by omega) (by omega)
      rw [Int.toNat_natCast] at bt
      have hu := hgo_upo HL o c w hz hi'
      unfold B_md_stays_37
      generalize hgo L (upo o z w) c = g at e6 gi mi hu ⊢
      by_cases tbit : (raft L c z).testBit i = true
      · rw [if_pos tbit] at hu bt
        have ed := down_e (a := tot o (hn L) (raft L c z) - w) (b := (pc5 (raft L c z) : Nat)) (by omega) (by omega) (by omega) (by omega)
        rw [← hu] at ed
        by_cases e : g i < mnf 99999 g i
        · rw [if_pos e] at e6
          simp (disch := first | with_reducible assumption | omega | trivial) only [bn_s1, bd_s1, ei_l1, ei_r1, J_add, J_sub, J_mul, J_neg, J_lt, J_le, J_eq, dv_J, rm_J, if_pos, if_neg, ↓reduceIte, bitJ, shlJ, orJ, j_0, j_1, j_2, j_3, j_4, j_5, j_6, j_7, j_8, j_9, j_10, j_11, j_12, j_13, j_14, j_15, j_16, j_17, j_18, j_19, j_20, j_21, j_22, j_23, j_24, j_25, j_26, j_27, j_28, j_29, j_30, j_31, j_32, j_33, j_34, j_35, j_36, j_37, j_38, j_39, j_40, j_41, j_42, j_43, j_44, j_45, j_46, j_47, j_48, j_49, j_50, j_51, j_52, j_57, j_59, j_63, j_74, j_75, j_93, j_97, j_99, j_100, j_122, j_200, j_255, j_300, j_465, j_496, j_900, j_999, j_1000, j_65536, j_65537, j_99999, j_252645135, j_858993459, j_1431655765, k_0, k_1, k_27, k_32, k_74, k_75, k_100, k_1000, k_65537, cl_r C, cl_q C, ci_0 C, ci_1 C, ci_2 C, ci_3 C, ci_4 C, ci_5 C, ci_6 C, ci_7 C, cr_9 C, cr_10 C, cr_11 C, cr_13 C, cr_14 C, cr_15 C, cr_16 C, cr_17 C, cr_18 C, cr_19 C, cr_20 C, cr_21 C, cr_22 C, cr_23 C, cr_24 C, cr_25 C, cr_26 C, ca_9 HL C, ca_10 HL C, ca_11 HL C, ca_13 HL C, ca_14 HL C, ca_15 HL C, ca_16 HL C, ca_17 HL C, ca_18 HL C, ca_19 HL C, ca_20 HL C, ca_21 HL C, ca_22 HL C, ca_23 HL C, ca_24 HL C, ca_25 HL C, ca_26 HL C, m_i C.1, m_p C.1, m_l C.1, m_pl C.1, mr_15 C.1, mr_16 C.1, mr_17 C.1, mr_18 C.1, mr_21 C.1, mr_22 C.1, mr_23 C.1, mr_24 C.1, mr_25 C.1, mr_30 C.1, mr_31 C.1, bt, en, eb, ed, e6]
          rfl
        · rw [if_neg e] at e6
          simp (disch := first | with_reducible assumption | omega | trivial) only [bn_s1, bd_s1, ei_l1, ei_r1, J_add, J_sub, J_mul, J_neg, J_lt, J_le, J_eq, dv_J, rm_J, if_pos, if_neg, ↓reduceIte, bitJ, shlJ, orJ, j_0, j_1, j_2, j_3, j_4, j_5, j_6, j_7, j_8, j_9, j_10, j_11, j_12, j_13, j_14, j_15, j_16, j_17, j_18, j_19, j_20, j_21, j_22, j_23, j_24, j_25, j_26, j_27, j_28, j_29, j_30, j_31, j_32, j_33, j_34, j_35, j_36, j_37, j_38, j_39, j_40, j_41, j_42, j_43, j_44, j_45, j_46, j_47, j_48, j_49, j_50, j_51, j_52, j_57, j_59, j_63, j_74, j_75, j_93, j_97, j_99, j_100, j_122, j_200, j_255, j_300, j_465, j_496, j_900, j_999, j_1000, j_65536, j_65537, j_99999, j_252645135, j_858993459, j_1431655765, k_0, k_1, k_27, k_32, k_74, k_75, k_100, k_1000, k_65537, cl_r C, cl_q C, ci_0 C, ci_1 C, ci_2 C, ci_3 C, ci_4 C, ci_5 C, ci_6 C, ci_7 C, cr_9 C, cr_10 C, cr_11 C, cr_13 C, cr_14 C, cr_15 C, cr_16 C, cr_17 C, cr_18 C, cr_19 C, cr_20 C, cr_21 C, cr_22 C, cr_23 C, cr_24 C, cr_25 C, cr_26 C, ca_9 HL C, ca_10 HL C, ca_11 HL C, ca_13 HL C, ca_14 HL C, ca_15 HL C, ca_16 HL C, ca_17 HL C, ca_18 HL C, ca_19 HL C, ca_20 HL C, ca_21 HL C, ca_22 HL C, ca_23 HL C, ca_24 HL C, ca_25 HL C, ca_26 HL C, m_i C.1, m_p C.1, m_l C.1, m_pl C.1, mr_15 C.1, mr_16 C.1, mr_17 C.1, mr_18 C.1, mr_21 C.1, mr_22 C.1, mr_23 C.1, mr_24 C.1, mr_25 C.1, mr_30 C.1, mr_31 C.1, bt, en, eb, ed, e6]
          rfl
      · rw [if_neg tbit] at hu bt
        have eh := D_heightOf HL C X hs hi'
        have eh' : F_md_heightOf 88 (J i) h = some (J (g i)) := by rw [eh, hu, ho, hc]; rfl
        by_cases e : g i < mnf 99999 g i
        · rw [if_pos e] at e6
          simp (disch := first | with_reducible assumption | omega | trivial) only [bn_s1, bd_s1, ei_l1, ei_r1, J_add, J_sub, J_mul, J_neg, J_lt, J_le, J_eq, dv_J, rm_J, if_pos, if_neg, ↓reduceIte, bitJ, shlJ, orJ, j_0, j_1, j_2, j_3, j_4, j_5, j_6, j_7, j_8, j_9, j_10, j_11, j_12, j_13, j_14, j_15, j_16, j_17, j_18, j_19, j_20, j_21, j_22, j_23, j_24, j_25, j_26, j_27, j_28, j_29, j_30, j_31, j_32, j_33, j_34, j_35, j_36, j_37, j_38, j_39, j_40, j_41, j_42, j_43, j_44, j_45, j_46, j_47, j_48, j_49, j_50, j_51, j_52, j_57, j_59, j_63, j_74, j_75, j_93, j_97, j_99, j_100, j_122, j_200, j_255, j_300, j_465, j_496, j_900, j_999, j_1000, j_65536, j_65537, j_99999, j_252645135, j_858993459, j_1431655765, k_0, k_1, k_27, k_32, k_74, k_75, k_100, k_1000, k_65537, cl_r C, cl_q C, ci_0 C, ci_1 C, ci_2 C, ci_3 C, ci_4 C, ci_5 C, ci_6 C, ci_7 C, cr_9 C, cr_10 C, cr_11 C, cr_13 C, cr_14 C, cr_15 C, cr_16 C, cr_17 C, cr_18 C, cr_19 C, cr_20 C, cr_21 C, cr_22 C, cr_23 C, cr_24 C, cr_25 C, cr_26 C, ca_9 HL C, ca_10 HL C, ca_11 HL C, ca_13 HL C, ca_14 HL C, ca_15 HL C, ca_16 HL C, ca_17 HL C, ca_18 HL C, ca_19 HL C, ca_20 HL C, ca_21 HL C, ca_22 HL C, ca_23 HL C, ca_24 HL C, ca_25 HL C, ca_26 HL C, m_i C.1, m_p C.1, m_l C.1, m_pl C.1, mr_15 C.1, mr_16 C.1, mr_17 C.1, mr_18 C.1, mr_21 C.1, mr_22 C.1, mr_23 C.1, mr_24 C.1, mr_25 C.1, mr_30 C.1, mr_31 C.1, bt, eh', e6]
          rfl
        · rw [if_neg e] at e6
          simp (disch := first | with_reducible assumption | omega | trivial) only [bn_s1, bd_s1, ei_l1, ei_r1, J_add, J_sub, J_mul, J_neg, J_lt, J_le, J_eq, dv_J, rm_J, if_pos, if_neg, ↓reduceIte, bitJ, shlJ, orJ, j_0, j_1, j_2, j_3, j_4, j_5, j_6, j_7, j_8, j_9, j_10, j_11, j_12, j_13, j_14, j_15, j_16, j_17, j_18, j_19, j_20, j_21, j_22, j_23, j_24, j_25, j_26, j_27, j_28, j_29, j_30, j_31, j_32, j_33, j_34, j_35, j_36, j_37, j_38, j_39, j_40, j_41, j_42, j_43, j_44, j_45, j_46, j_47, j_48, j_49, j_50, j_51, j_52, j_57, j_59, j_63, j_74, j_75, j_93, j_97, j_99, j_100, j_122, j_200, j_255, j_300, j_465, j_496, j_900, j_999, j_1000, j_65536, j_65537, j_99999, j_252645135, j_858993459, j_1431655765, k_0, k_1, k_27, k_32, k_74, k_75, k_100, k_1000, k_65537, cl_r C, cl_q C, ci_0 C, ci_1 C, ci_2 C, ci_3 C, ci_4 C, ci_5 C, ci_6 C, ci_7 C, cr_9 C, cr_10 C, cr_11 C, cr_13 C, cr_14 C, cr_15 C, cr_16 C, cr_17 C, cr_18 C, cr_19 C, cr_20 C, cr_21 C, cr_22 C, cr_23 C, cr_24 C, cr_25 C, cr_26 C, ca_9 HL C, ca_10 HL C, ca_11 HL C, ca_13 HL C, ca_14 HL C, ca_15 HL C, ca_16 HL C, ca_17 HL C, ca_18 HL C, ca_19 HL C, ca_20 HL C, ca_21 HL C, ca_22 HL C, ca_23 HL C, ca_24 HL C, ca_25 HL C, ca_26 HL C, m_i C.1, m_p C.1, m_l C.1, m_pl C.1, mr_15 C.1, mr_16 C.1, mr_17 C.1, mr_18 C.1, mr_21 C.1, mr_22 C.1, mr_23 C.1, mr_24 C.1, mr_25 C.1, mr_30 C.1, mr_31 C.1, bt, eh', e6]
          rfl
    · unfold B_md_stays_37
      simp (disch := first | with_reducible assumption | omega | trivial) only [bn_s1, bd_s1, ei_l1, ei_r1, J_add, J_sub, J_mul, J_neg, J_lt, J_le, J_eq, dv_J, rm_J, if_pos, if_neg, ↓reduceIte, bitJ, shlJ, orJ, j_0, j_1, j_2, j_3, j_4, j_5, j_6, j_7, j_8, j_9, j_10, j_11, j_12, j_13, j_14, j_15, j_16, j_17, j_18, j_19, j_20, j_21, j_22, j_23, j_24, j_25, j_26, j_27, j_28, j_29, j_30, j_31, j_32, j_33, j_34, j_35, j_36, j_37, j_38, j_39, j_40, j_41, j_42, j_43, j_44, j_45, j_46, j_47, j_48, j_49, j_50, j_51, j_52, j_57, j_59, j_63, j_74, j_75, j_93, j_97, j_99, j_100, j_122, j_200, j_255, j_300, j_465, j_496, j_900, j_999, j_1000, j_65536, j_65537, j_99999, j_252645135, j_858993459, j_1431655765, k_0, k_1, k_27, k_32, k_74, k_75, k_100, k_1000, k_65537, cl_r C, cl_q C, ci_0 C, ci_1 C, ci_2 C, ci_3 C, ci_4 C, ci_5 C, ci_6 C, ci_7 C, cr_9 C, cr_10 C, cr_11 C, cr_13 C, cr_14 C, cr_15 C, cr_16 C, cr_17 C, cr_18 C, cr_19 C, cr_20 C, cr_21 C, cr_22 C, cr_23 C, cr_24 C, cr_25 C, cr_26 C, ca_9 HL C, ca_10 HL C, ca_11 HL C, ca_13 HL C, ca_14 HL C, ca_15 HL C, ca_16 HL C, ca_17 HL C, ca_18 HL C, ca_19 HL C, ca_20 HL C, ca_21 HL C, ca_22 HL C, ca_23 HL C, ca_24 HL C, ca_25 HL C, ca_26 HL C, m_i C.1, m_p C.1, m_l C.1, m_pl C.1, mr_15 C.1, mr_16 C.1, mr_17 C.1, mr_18 C.1, mr_21 C.1, mr_22 C.1, mr_23 C.1, mr_24 C.1, mr_25 C.1, mr_30 C.1, mr_31 C.1]
  have el := lq_for (b := B_md_stays_9 88 (J w) h) (r := J (am (lov L o c w) (hn L) : Nat)) (f := FU) (s := (J 0, J (-99999), J 0)) (fun i => (J (am (lov L o c w) i : Nat), J (if i = 0 then -99999 else lov L o c w (am (lov L o c w) i : Nat)), J i)) (hn L) (by unfold FU; omega) rfl (fun i hi => by
    have hi' : (i : Int) < L 1 0 := by omega
    have er := D_raftOf HL C X hs.2.1 hs.2.2.1 hi'
    rw [← hc] at er
    have e1 := fun x y => inn i x y hi'
    have g1 := lb i
    have g2 := lb (am (lov L o c w) i : Nat)
    have a6 : am (lov L o c w) (i + 1) = if i = 0 then 0 else if lov L o c w (am (lov L o c w) i) < lov L o c w i then i else am (lov L o c w) i := rfl
    show _ = some (Sum.inl (J (am (lov L o c w) (i + 1) : Nat), J (if i + 1 = 0 then -99999 else lov L o c w (am (lov L o c w) (i + 1) : Nat)), J (i + 1 : Nat)))
    rw [if_neg (show ¬ i + 1 = 0 by omega)]
    unfold B_md_stays_9
    by_cases i0 : i = 0
    · subst i0
      rw [a6, if_pos rfl, if_pos rfl]
      simp (disch := first | with_reducible assumption | omega | trivial) only [bn_s1, bd_s1, ei_l1, ei_r1, J_add, J_sub, J_mul, J_neg, J_lt, J_le, J_eq, dv_J, rm_J, if_pos, if_neg, ↓reduceIte, bitJ, shlJ, orJ, j_0, j_1, j_2, j_3, j_4, j_5, j_6, j_7, j_8, j_9, j_10, j_11, j_12, j_13, j_14, j_15, j_16, j_17, j_18, j_19, j_20, j_21, j_22, j_23, j_24, j_25, j_26, j_27, j_28, j_29, j_30, j_31, j_32, j_33, j_34, j_35, j_36, j_37, j_38, j_39, j_40, j_41, j_42, j_43, j_44, j_45, j_46, j_47, j_48, j_49, j_50, j_51, j_52, j_57, j_59, j_63, j_74, j_75, j_93, j_97, j_99, j_100, j_122, j_200, j_255, j_300, j_465, j_496, j_900, j_999, j_1000, j_65536, j_65537, j_99999, j_252645135, j_858993459, j_1431655765, k_0, k_1, k_27, k_32, k_74, k_75, k_100, k_1000, k_65537, cl_r C, cl_q C, ci_0 C, ci_1 C, ci_2 C, ci_3 C, ci_4 C, ci_5 C, ci_6 C, ci_7 C, cr_9 C, cr_10 C, cr_11 C, cr_13 C, cr_14 C, cr_15 C, cr_16 C, cr_17 C, cr_18 C, cr_19 C, cr_20 C, cr_21 C, cr_22 C, cr_23 C, cr_24 C, cr_25 C, cr_26 C, ca_9 HL C, ca_10 HL C, ca_11 HL C, ca_13 HL C, ca_14 HL C, ca_15 HL C, ca_16 HL C, ca_17 HL C, ca_18 HL C, ca_19 HL C, ca_20 HL C, ca_21 HL C, ca_22 HL C, ca_23 HL C, ca_24 HL C, ca_25 HL C, ca_26 HL C, m_i C.1, m_p C.1, m_l C.1, m_pl C.1, mr_15 C.1, mr_16 C.1, mr_17 C.1, mr_18 C.1, mr_21 C.1, mr_22 C.1, mr_23 C.1, mr_24 C.1, mr_25 C.1, mr_30 C.1, mr_31 C.1, er, e1]
      rfl
    · rw [if_neg i0]
      rw [if_neg i0] at a6
      by_cases e : lov L o c w (am (lov L o c w) i) < lov L o c w i
      · rw [if_pos e] at a6
        rw [a6]
        simp (disch := first | with_reducible assumption | omega | trivial) only [bn_s1, bd_s1, ei_l1, ei_r1, J_add, J_sub, J_mul, J_neg, J_lt, J_le, J_eq, dv_J, rm_J, if_pos, if_neg, ↓reduceIte, bitJ, shlJ, orJ, j_0, j_1, j_2, j_3, j_4, j_5, j_6, j_7, j_8, j_9, j_10, j_11, j_12, j_13, j_14, j_15, j_16, j_17, j_18, j_19, j_20, j_21, j_22, j_23, j_24, j_25, j_26, j_27, j_28, j_29, j_30, j_31, j_32, j_33, j_34, j_35, j_36, j_37, j_38, j_39, j_40, j_41, j_42, j_43, j_44, j_45, j_46, j_47, j_48, j_49, j_50, j_51, j_52, j_57, j_59, j_63, j_74, j_75, j_93, j_97, j_99, j_100, j_122, j_200, j_255, j_300, j_465, j_496, j_900, j_999, j_1000, j_65536, j_65537, j_99999, j_252645135, j_858993459, j_1431655765, k_0, k_1, k_27, k_32, k_74, k_75, k_100, k_1000, k_65537, cl_r C, cl_q C, ci_0 C, ci_1 C, ci_2 C, ci_3 C, ci_4 C, ci_5 C, ci_6 C, ci_7 C, cr_9 C, cr_10 C, cr_11 C, cr_13 C, cr_14 C, cr_15 C, cr_16 C, cr_17 C, cr_18 C, cr_19 C, cr_20 C, cr_21 C, cr_22 C, cr_23 C, cr_24 C, cr_25 C, cr_26 C, ca_9 HL C, ca_10 HL C, ca_11 HL C, ca_13 HL C, ca_14 HL C, ca_15 HL C, ca_16 HL C, ca_17 HL C, ca_18 HL C, ca_19 HL C, ca_20 HL C, ca_21 HL C, ca_22 HL C, ca_23 HL C, ca_24 HL C, ca_25 HL C, ca_26 HL C, m_i C.1, m_p C.1, m_l C.1, m_pl C.1, mr_15 C.1, mr_16 C.1, mr_17 C.1, mr_18 C.1, mr_21 C.1, mr_22 C.1, mr_23 C.1, mr_24 C.1, mr_25 C.1, mr_30 C.1, mr_31 C.1, er, e1]
        rfl
      · rw [if_neg e] at a6
        rw [a6]
        simp (disch := first | with_reducible assumption | omega | trivial) only [bn_s1, bd_s1, ei_l1, ei_r1, J_add, J_sub, J_mul, J_neg, J_lt, J_le, J_eq, dv_J, rm_J, if_pos, if_neg, ↓reduceIte, bitJ, shlJ, orJ, j_0, j_1, j_2, j_3, j_4, j_5, j_6, j_7, j_8, j_9, j_10, j_11, j_12, j_13, j_14, j_15, j_16, j_17, j_18, j_19, j_20, j_21, j_22, j_23, j_24, j_25, j_26, j_27, j_28, j_29, j_30, j_31, j_32, j_33, j_34, j_35, j_36, j_37, j_38, j_39, j_40, j_41, j_42, j_43, j_44, j_45, j_46, j_47, j_48, j_49, j_50, j_51, j_52, j_57, j_59, j_63, j_74, j_75, j_93, j_97, j_99, j_100, j_122, j_200, j_255, j_300, j_465, j_496, j_900, j_999, j_1000, j_65536, j_65537, j_99999, j_252645135, j_858993459, j_1431655765, k_0, k_1, k_27, k_32, k_74, k_75, k_100, k_1000, k_65537, cl_r C, cl_q C, ci_0 C, ci_1 C, ci_2 C, ci_3 C, ci_4 C, ci_5 C, ci_6 C, ci_7 C, cr_9 C, cr_10 C, cr_11 C, cr_13 C, cr_14 C, cr_15 C, cr_16 C, cr_17 C, cr_18 C, cr_19 C, cr_20 C, cr_21 C, cr_22 C, cr_23 C, cr_24 C, cr_25 C, cr_26 C, ca_9 HL C, ca_10 HL C, ca_11 HL C, ca_13 HL C, ca_14 HL C, ca_15 HL C, ca_16 HL C, ca_17 HL C, ca_18 HL C, ca_19 HL C, ca_20 HL C, ca_21 HL C, ca_22 HL C, ca_23 HL C, ca_24 HL C, ca_25 HL C, ca_26 HL C, m_i C.1, m_p C.1, m_l C.1, m_pl C.1, mr_15 C.1, mr_16 C.1, mr_17 C.1, mr_18 C.1, mr_21 C.1, mr_22 C.1, mr_23 C.1, mr_24 C.1, mr_25 C.1, mr_30 C.1, mr_31 C.1, er, e1]
        rfl) (by
    unfold B_md_stays_9
    simp (disch := first | with_reducible assumption | omega | trivial) only [bn_s1, bd_s1, ei_l1, ei_r1, J_add, J_sub, J_mul, J_neg, J_lt, J_le, J_eq, dv_J, rm_J, if_pos, if_neg, ↓reduceIte, bitJ, shlJ, orJ, j_0, j_1, j_2, j_3, j_4, j_5, j_6, j_7, j_8, j_9, j_10, j_11, j_12, j_13, j_14, j_15, j_16, j_17, j_18, j_19, j_20, j_21, j_22, j_23, j_24, j_25, j_26, j_27, j_28, j_29, j_30, j_31, j_32, j_33, j_34, j_35, j_36, j_37, j_38, j_39, j_40, j_41, j_42, j_43, j_44, j_45, j_46, j_47, j_48, j_49, j_50, j_51, j_52, j_57, j_59, j_63, j_74, j_75, j_93, j_97, j_99, j_100, j_122, j_200, j_255, j_300, j_465, j_496, j_900, j_999, j_1000, j_65536, j_65537, j_99999, j_252645135, j_858993459, j_1431655765, k_0, k_1, k_27, k_32, k_74, k_75, k_100, k_1000, k_65537, cl_r C, cl_q C, ci_0 C, ci_1 C, ci_2 C, ci_3 C, ci_4 C, ci_5 C, ci_6 C, ci_7 C, cr_9 C, cr_10 C, cr_11 C, cr_13 C, cr_14 C, cr_15 C, cr_16 C, cr_17 C, cr_18 C, cr_19 C, cr_20 C, cr_21 C, cr_22 C, cr_23 C, cr_24 C, cr_25 C, cr_26 C, ca_9 HL C, ca_10 HL C, ca_11 HL C, ca_13 HL C, ca_14 HL C, ca_15 HL C, ca_16 HL C, ca_17 HL C, ca_18 HL C, ca_19 HL C, ca_20 HL C, ca_21 HL C, ca_22 HL C, ca_23 HL C, ca_24 HL C, ca_25 HL C, ca_26 HL C, m_i C.1, m_p C.1, m_l C.1, m_pl C.1, mr_15 C.1, mr_16 C.1, mr_17 C.1, mr_18 C.1, mr_21 C.1, mr_22 C.1, mr_23 C.1, mr_24 C.1, mr_25 C.1, mr_30 C.1, mr_31 C.1])
  have em : (-99999 : Int32) = J (-99999) := by decide +kernel
  unfold F_md_stays
  rw [ck_e (MS_k C.1), em]
  simp (disch := first | with_reducible assumption | omega | trivial) only [bn_s1, bd_s1, ei_l1, ei_r1, J_add, J_sub, J_mul, J_neg, J_lt, J_le, J_eq, dv_J, rm_J, if_pos, if_neg, ↓reduceIte, bitJ, shlJ, orJ, j_0, j_1, j_2, j_3, j_4, j_5, j_6, j_7, j_8, j_9, j_10, j_11, j_12, j_13, j_14, j_15, j_16, j_17, j_18, j_19, j_20, j_21, j_22, j_23, j_24, j_25, j_26, j_27, j_28, j_29, j_30, j_31, j_32, j_33, j_34, j_35, j_36, j_37, j_38, j_39, j_40, j_41, j_42, j_43, j_44, j_45, j_46, j_47, j_48, j_49, j_50, j_51, j_52, j_57, j_59, j_63, j_74, j_75, j_93, j_97, j_99, j_100, j_122, j_200, j_255, j_300, j_465, j_496, j_900, j_999, j_1000, j_65536, j_65537, j_99999, j_252645135, j_858993459, j_1431655765, k_0, k_1, k_27, k_32, k_74, k_75, k_100, k_1000, k_65537, el]
def w_bst (a : Ab) (w : Int) : Int := (am (lov (qL a) (net (qL a) (qS a)) (qS a 28).toNat w) (hn (qL a)) : Nat)
theorem c_bst {a : Ab} {t : Nat} {h : Hp} {n : Int} (HA : AW a) (H : CI a t h) (hn' : rng n) : Cq (F_cs_bestStay 0 (J n) h) h (if ¬ qL a 1 0 = 0 ∧ (0 ≤ n ∧ n ≤ 99) then w_bst a n else -1) (t_2 (¬ qL a 1 0 = 0) (0 ≤ n ∧ n ≤ 99)) := by
  unfold F_cs_bestStay
  refine cq_2 (V := fun b => w_bst b n) rfl jm1 HA H (pr_L HA H) (pr_o j_0 j_99 hn' (by omega)) (fun c d b h1 eb A1 H1 => ?_)
  rw [← eb] at c
  obtain ⟨h2, e2, s2, g2, m2⟩ := C_meas A1 H1
  have V1 := H1.1
  have V2 := XV_fm s2.1 (by omega) V1
  have b1 := LW_h A1.1
  obtain ⟨h3, e3, f3⟩ := C_bestHouseFor (w := n) A1.1 (by omega) (XV_r50 V2) m2.1 m2.2.2.1 m2.2.1 (fun i i0 i1 => by have := net_b A1.1 A1.2.1.1.1 i0 i1; omega) (by omega) (by omega)
  refine ⟨h3, ?_, sc_tr s2 (sc_fm f3 (by omega)), by rw [fm_fi f3 (by omega)]; exact g2⟩
  simp (disch := first | with_reducible assumption | omega | trivial) only [bn_s1, bd_s1, ei_l1, ei_r1, J_add, J_sub, J_mul, J_neg, J_lt, J_le, J_eq, dv_J, rm_J, if_pos, if_neg, ↓reduceIte, bitJ, shlJ, orJ, j_0, j_1, j_2, j_3, j_4, j_5, j_6, j_7, j_8, j_9, j_10, j_11, j_12, j_13, j_14, j_15, j_16, j_17, j_18, j_19, j_20, j_21, j_22, j_23, j_24, j_25, j_26, j_27, j_28, j_29, j_30, j_31, j_32, j_33, j_34, j_35, j_36, j_37, j_38, j_39, j_40, j_41, j_42, j_43, j_44, j_45, j_46, j_47, j_48, j_49, j_50, j_51, j_52, j_57, j_59, j_63, j_74, j_75, j_93, j_97, j_99, j_100, j_122, j_200, j_255, j_300, j_465, j_496, j_900, j_999, j_1000, j_65536, j_65537, j_99999, j_252645135, j_858993459, j_1431655765, k_0, k_1, k_27, k_32, k_74, k_75, k_100, k_1000, k_65537, vr_0 V1, vr_2 V1, vr_4 V1, vr_5 V1, vr_6 V1, vr_7 V1, vr_8 V1, vr_9 V1, vr_10 V1, vr_11 V1, vr_3 V1, v0i V1, v0p V1, e2, vr_0 V2, vr_2 V2, vr_4 V2, vr_5 V2, vr_6 V2, vr_7 V2, vr_8 V2, vr_9 V2, vr_10 V2, vr_11 V2, vr_3 V2, v0i V2, v0p V2, e3]
  rfl
theorem d_bst {a : Ab} {h : Hp} {n : Int} (HA : AW a) (H : RI a h) (hn' : rng n) : Dq (F_md_bestStay 88 (J n) h) h (if ¬ qL a 1 0 = 0 ∧ (0 ≤ n ∧ n ≤ 99) then w_bst a n else -1) (t_2 (¬ qL a 1 0 = 0) (0 ≤ n ∧ n ≤ 99)) := by
  unfold F_md_bestStay
  refine dq_N j_0 j_99 hn' (by omega) H (fun c d h1 H1 => ?_)
  obtain ⟨b, C1⟩ := lk_1 H1 c
  obtain ⟨h2, e2, q2, x2, s2⟩ := wrk HA H1
  have C2 := RC_qr q2 C1
  have b1 := LW_h HA.1
  have es := D_stays (w := n) HA.1 (by omega) C2 x2 s2 HA.2.1.1.1 d
  refine dg_e H1.1 q2 ?_
  rw [e2, bn_s1, es, bn_s1]
  rfl
/-! bestMove -/
theorem upS_ne {S : Sk} {j v i : Int} (h : i ≠ j) : upS S j v i = S i := if_neg h
theorem gsm_up {L : Lk} (S : Sk) {z g : Int} (g0 : 0 ≤ g) (hz : 0 ≤ z) : ∀ n : Nat, gsm L (upS S (25 + g) (-1)) z n = gsm L S z n - (if g < n ∧ S (25 + g) = z then L 15 g else 0) := by
  intro n
  induction n with
  | zero => rw [if_neg (by omega)]; rfl
  | succ n ih =>
    show gsm L (upS S (25 + g) (-1)) z n + (if upS S (25 + g) (-1) (25 + n) = z then L 15 n else 0) = gsm L S z n + (if S (25 + n) = z then L 15 n else 0) - _
    rw [ih]
    by_cases e : g = n
    · subst e
      have eu : upS S (25 + (n : Int)) (-1) (25 + n) = -1 := if_pos rfl
      rw [eu, if_neg (show ¬ (-1 : Int) = z by omega), if_neg (show ¬ ((n : Int) < (n : Int) ∧ S (25 + (n : Int)) = z) by omega)]
      by_cases d : S (25 + (n : Int)) = z
      · rw [if_pos d, if_pos (⟨by omega, d⟩ : (n : Int) < ((n + 1 : Nat) : Int) ∧ S (25 + (n : Int)) = z)]; omega
      · rw [if_neg d, if_neg (fun x => d x.2 : ¬ ((n : Int) < ((n + 1 : Nat) : Int) ∧ S (25 + (n : Int)) = z))]; omega
    · rw [upS_ne (show (25 + (n : Int)) ≠ 25 + g by omega)]
      have i1 : (g < ((n + 1 : Nat) : Int)) = (g < (n : Int)) := propext ⟨fun x => by omega, fun x => by omega⟩
      simp only [i1]
      generalize (if g < (n : Int) ∧ S (25 + g) = z then L 15 g else 0) = u
      generalize (if S (25 + (n : Int)) = z then L 15 n else 0) = u'
      omega
theorem net_up {L : Lk} (HL : LW L) (S : Sk) {z g : Int} (h0 : 0 ≤ z) (h1 : z < 5) (g0 : 0 ≤ g) (g1 : g < L 3 0) : net L (upS S (25 + g) (-1)) z = net L S z + (if S (25 + g) = z then L 15 g else 0) := by
  have b3 := LW_g HL
  have e := gsm_up (L := L) S g0 h0 (L 3 0).toNat
  have l : lft (upS S (25 + g) (-1)) z = lft S z := by
    unfold lft
    rw [upS_ne (by omega), upS_ne (by omega), upS_ne (by omega), upS_ne (by omega), upS_ne (by omega)]
  unfold net wgt
  rw [e, l]
  by_cases d : S (25 + g) = z
  · rw [if_pos (⟨by omega, d⟩ : g < ((L 3 0).toNat : Int) ∧ S (25 + g) = z), if_pos d]; omega
  · rw [if_neg (fun x => d x.2 : ¬ (g < ((L 3 0).toNat : Int) ∧ S (25 + g) = z)), if_neg d]; omega
def w_bmv (a : Ab) (g : Int) : Int := (am (lov (qL a) (net (qL a) (upS (qS a) (25 + g) (-1))) (qS a 28).toNat (qL a 15 g)) (hn (qL a)) : Nat)
theorem c_bmv {a : Ab} {t : Nat} {h : Hp} {g : Int} (HA : AW a) (H : CI a t h) (hg : rng g) : Cq (F_cs_bestMove 0 (J g) h) h (if inr g (qL a 3 0) then w_bmv a g else -1) (t_p (inr g (qL a 3 0))) := by
  unfold F_cs_bestMove
  refine cq_1 (V := fun b => w_bmv b g) rfl jm1 HA H (pr_G HA H hg) (fun c b h1 eb A1 H1 => ?_)
  rw [← eb] at c
  obtain ⟨h2, e2, s2, g2, m2⟩ := C_meas A1 H1
  have V1 := H1.1
  have V2 := XV_fm s2.1 (by omega) V1
  have o := XV_o V1
  have R2 := sc_TR s2 o H1.2.1
  have S2 := sc_SR s2 H1.2.2.1
  have b1 := LW_h A1.1
  have b3 := LW_g A1.1
  have gs := A1.2.1.2.2 g c.1 c.2
  have w := LW_gs A1.1 g c.1 c.2
  have v1 : ia h2 46 g = qS b (25 + g) := S2.2.1 g c.1 c.2
  have v2 : ia h2 51 (qS b (25 + g)) = net (qL b) (qS b) (qS b (25 + g)) := m2.2.1 _ gs.1 gs.2
  have nb := net_b A1.1 A1.2.1.1.1 gs.1 gs.2
  have f3 : Fm 50 54 h2 (wA h2 51 (qS b (25 + g)) (net (qL b) (qS b) (qS b (25 + g)) + qL b 15 g)) := fm_wA (by omega) (by omega)
  obtain ⟨h3, hh3⟩ : ∃ h3, h3 = wA h2 51 (qS b (25 + g)) (net (qL b) (qS b) (qS b (25 + g)) + qL b 15 g) := ⟨_, rfl⟩
  have V3 : XV t h3 := by rw [hh3]; exact XV_fm f3 (by omega) V2
  have R3 : TR (qL b) t h3 := by rw [hh3]; exact TR_fm f3 (by omega) R2
  have n51 := RS_n1 (XV_r50 V2)
  have O3 : ROw (qL b) (net (qL b) (upS (qS b) (25 + g) (-1))) 50 h3 := by
    intro i i0 i1
    have ni := net_b A1.1 A1.2.1.1.1 i0 i1
    rw [net_up A1.1 (qS b) i0 (by omega) c.1 c.2, hh3]
    show ia (wA h2 51 _ _) 51 i = _
    rw [ia_if gs.1 i0 (by show (qS b (25 + g)) < ((iA h2 (50 + 1)).length : Int); omega) (by omega) (by omega)]
    by_cases e : i = qS b (25 + g)
    · rw [if_pos e, if_pos e.symm, e]
    · rw [if_neg e, if_neg (fun x => e x.symm)]
      rw [Int.add_zero]
      exact m2.2.1 i i0 i1
  have B3 : RB (qL b) (qS b 28).toNat 50 h3 := by
    intro i i0 i1
    rw [hh3]
    show ia (wA h2 51 _ _) 52 i = _
    rw [ia_wA (by omega)]
    exact m2.2.2.1 i i0 i1
  have z3 : fi h3 50 0 = qL b 1 0 := by rw [hh3]; exact m2.1
  obtain ⟨h4, e4, f4⟩ := C_bestHouseFor (w := qL b 15 g) A1.1 (by omega) (XV_r50 V3) z3 B3 O3 (fun i i0 i1 => by
    have ni := net_b A1.1 A1.2.1.1.1 i0 i1
    rw [net_up A1.1 (qS b) i0 (by omega) c.1 c.2]
    by_cases e : qS b (25 + g) = i
    · rw [if_pos e]; omega
    · rw [if_neg e]; omega) (by omega) (by omega)
  refine ⟨h4, ?_, sc_tr s2 (sc_tr (by rw [hh3]; exact sc_fm f3 (by omega)) (sc_fm f4 (by omega))), by rw [fm_fi f4 (by omega), hh3]; exact g2⟩
  simp (disch := first | with_reducible assumption | omega | trivial) only [bn_s1, bd_s1, ei_l1, ei_r1, J_add, J_sub, J_mul, J_neg, J_lt, J_le, J_eq, dv_J, rm_J, if_pos, if_neg, ↓reduceIte, bitJ, shlJ, orJ, j_0, j_1, j_2, j_3, j_4, j_5, j_6, j_7, j_8, j_9, j_10, j_11, j_12, j_13, j_14, j_15, j_16, j_17, j_18, j_19, j_20, j_21, j_22, j_23, j_24, j_25, j_26, j_27, j_28, j_29, j_30, j_31, j_32, j_33, j_34, j_35, j_36, j_37, j_38, j_39, j_40, j_41, j_42, j_43, j_44, j_45, j_46, j_47, j_48, j_49, j_50, j_51, j_52, j_57, j_59, j_63, j_74, j_75, j_93, j_97, j_99, j_100, j_122, j_200, j_255, j_300, j_465, j_496, j_900, j_999, j_1000, j_65536, j_65537, j_99999, j_252645135, j_858993459, j_1431655765, k_0, k_1, k_27, k_32, k_74, k_75, k_100, k_1000, k_65537, vr_0 V1, vr_2 V1, vr_4 V1, vr_5 V1, vr_6 V1, vr_7 V1, vr_8 V1, vr_9 V1, vr_10 V1, vr_11 V1, vr_3 V1, v0i V1, v0p V1, e2, vr_0 V2, vr_2 V2, vr_4 V2, vr_5 V2, vr_6 V2, vr_7 V2, vr_8 V2, vr_9 V2, vr_10 V2, vr_11 V2, vr_3 V2, v0i V2, v0p V2, rr50_1 V2, r51a V2, r51s V2, rr50_2 V2, r52a V2, r52s V2, rr50_3 V2, r53a V2, r53s V2, r50i V2, r50p V2, sr44_0 V2, sr44_1 V2, s44i V2, s44p V2, s45a V2, s45s V2, s46a V2, s46s V2, v1, v2, ti_0 (XV_ts V2) R2, ti_1 (XV_ts V2) R2, ti_5 (XV_ts V2) R2, ti_8 (XV_ts V2) R2, ti_11 (XV_ts V2) R2, ti_14 (XV_ts V2) R2, ty_0 (XV_ts V2) R2, ty_4 (XV_ts V2) R2, trf_18 (XV_ts V2), trf_3 (XV_ts V2), trf_4 (XV_ts V2), trf_6 (XV_ts V2), trf_7 (XV_ts V2), trf_9 (XV_ts V2), trf_10 (XV_ts V2), trf_12 (XV_ts V2), trf_13 (XV_ts V2), trf_15 (XV_ts V2), trf_16 (XV_ts V2), trf_17 (XV_ts V2), try_1 (XV_ts V2), try_2 (XV_ts V2), try_3 (XV_ts V2), try_5 (XV_ts V2), try_6 (XV_ts V2), ta_3 A1.1 (XV_ts V2) R2, ta_4 A1.1 (XV_ts V2) R2, ta_6 A1.1 (XV_ts V2) R2, ta_7 A1.1 (XV_ts V2) R2, ta_9 A1.1 (XV_ts V2) R2, ta_10 A1.1 (XV_ts V2) R2, ta_12 A1.1 (XV_ts V2) R2, ta_13 A1.1 (XV_ts V2) R2, ta_15 A1.1 (XV_ts V2) R2, ta_16 A1.1 (XV_ts V2) R2, ta_17 A1.1 (XV_ts V2) R2, tz_1 A1.1 (XV_ts V2) R2, tz_2 A1.1 (XV_ts V2) R2, tz_3 A1.1 (XV_ts V2) R2, tz_5 A1.1 (XV_ts V2) R2, tz_6 A1.1 (XV_ts V2) R2, ← hh3, vr_0 V3, vr_2 V3, vr_4 V3, vr_5 V3, vr_6 V3, vr_7 V3, vr_8 V3, vr_9 V3, vr_10 V3, vr_11 V3, vr_3 V3, v0i V3, v0p V3, ti_0 (XV_ts V3) R3, ti_1 (XV_ts V3) R3, ti_5 (XV_ts V3) R3, ti_8 (XV_ts V3) R3, ti_11 (XV_ts V3) R3, ti_14 (XV_ts V3) R3, ty_0 (XV_ts V3) R3, ty_4 (XV_ts V3) R3, trf_18 (XV_ts V3), trf_3 (XV_ts V3), trf_4 (XV_ts V3), trf_6 (XV_ts V3), trf_7 (XV_ts V3), trf_9 (XV_ts V3), trf_10 (XV_ts V3), trf_12 (XV_ts V3), trf_13 (XV_ts V3), trf_15 (XV_ts V3), trf_16 (XV_ts V3), trf_17 (XV_ts V3), try_1 (XV_ts V3), try_2 (XV_ts V3), try_3 (XV_ts V3), try_5 (XV_ts V3), try_6 (XV_ts V3), ta_3 A1.1 (XV_ts V3) R3, ta_4 A1.1 (XV_ts V3) R3, ta_6 A1.1 (XV_ts V3) R3, ta_7 A1.1 (XV_ts V3) R3, ta_9 A1.1 (XV_ts V3) R3, ta_10 A1.1 (XV_ts V3) R3, ta_12 A1.1 (XV_ts V3) R3, ta_13 A1.1 (XV_ts V3) R3, ta_15 A1.1 (XV_ts V3) R3, ta_16 A1.1 (XV_ts V3) R3, ta_17 A1.1 (XV_ts V3) R3, tz_1 A1.1 (XV_ts V3) R3, tz_2 A1.1 (XV_ts V3) R3, tz_3 A1.1 (XV_ts V3) R3, tz_5 A1.1 (XV_ts V3) R3, tz_6 A1.1 (XV_ts V3) R3, e4]
  rfl
theorem XR_w {S : Sk} {h : Hp} {z v : Int} (M : MS h) (X : XR S h) (h0 : 0 ≤ z) (h1 : z < 31) (hv : -2147483648 ≤ v ∧ v < 2147483648) : XR (upS S z v) (wA h 91 z v) := by
  intro i i0 i1
  have n := MS_n16 M
  rw [ia_if h0 i0 (by omega) hv.1 hv.2]
  unfold upS
  by_cases e : i = z
  · rw [if_pos e, if_pos e]
  · rw [if_neg e, if_neg e]; exact X i i0 i1
theorem qr_x {h : Hp} (z v : Int) : Qr h (wA h 91 z v) := qr_91 (fm_wA (by omega) (by omega))
theorem d_bmv {a : Ab} {h : Hp} {g : Int} (HA : AW a) (H : RI a h) (hg : rng g) : Dq (F_md_bestMove 88 (J g) h) h (if inr g (qL a 3 0) then w_bmv a g else -1) (t_p (inr g (qL a 3 0))) := by
  have kx := MS_k H.1
  have H1 := RI_0 H
  have b1 := LW_h HA.1
  have b3 := LW_g HA.1
  unfold F_md_bestMove t_p
  rw [ck_e kx]
  apply dq_0
  by_cases c : inr g (qL a 3 0)
  · rw [if_pos c, if_pos c]
    have w := LW_gs HA.1 g c.1 c.2
    obtain ⟨b, C1⟩ := lk_1 H1 (by omega)
    obtain ⟨h2, e2, q2, x2, s2⟩ := wrk HA H1
    have C2 := RC_qr q2 C1
    have C3 := RC_qr (qr_x (25 + g) (-1)) C2
    have x3 := XR_w C2.1 x2 (z := 25 + g) (v := -1) (by omega) (by omega) (by omega)
    have s3 : stk (qL a) (upS (qS a) (25 + g) (-1)) := by
      refine ⟨fun j j0 j1 => ?_, ?_, ?_, fun j j0 j1 => ?_⟩
      · unfold upS
        by_cases e : 25 + j = 25 + g
        · rw [if_pos e]; omega
        · rw [if_neg e]; exact s2.1 j j0 j1
      · rw [upS_ne (by omega)]; exact s2.2.1
      · rw [upS_ne (by omega)]; exact s2.2.2.1
      · rw [upS_ne (by omega)]; exact s2.2.2.2 j j0 j1
    have es := D_stays (w := qL a 15 g) HA.1 (by omega) C3 x3 s3 (fun j j0 j1 => by rw [upS_ne (by omega)]; exact HA.2.1.1.1 j j0 j1) (by omega)
    rw [upS_ne (show (28 : Int) ≠ 25 + g by omega)] at es
    obtain ⟨h4, e4, q4, f4⟩ := good_e (h := wA h2 91 (25 + g) (-1)) (v := w_bmv a g) C3.1
    refine ⟨h4, ?_, qr_tr q2 (qr_tr (qr_x _ _) q4), f4⟩
    have es' : F_md_stays 88 (J (qL a 15 g)) (wA h2 91 (25 + g) (-1)) = some (J (w_bmv a g)) := es
    simp (disch := first | with_reducible assumption | omega | trivial) only [bn_s1, bd_s1, ei_l1, ei_r1, J_add, J_sub, J_mul, J_neg, J_lt, J_le, J_eq, dv_J, rm_J, if_pos, if_neg, ↓reduceIte, bitJ, shlJ, orJ, j_0, j_1, j_2, j_3, j_4, j_5, j_6, j_7, j_8, j_9, j_10, j_11, j_12, j_13, j_14, j_15, j_16, j_17, j_18, j_19, j_20, j_21, j_22, j_23, j_24, j_25, j_26, j_27, j_28, j_29, j_30, j_31, j_32, j_33, j_34, j_35, j_36, j_37, j_38, j_39, j_40, j_41, j_42, j_43, j_44, j_45, j_46, j_47, j_48, j_49, j_50, j_51, j_52, j_57, j_59, j_63, j_74, j_75, j_93, j_97, j_99, j_100, j_122, j_200, j_255, j_300, j_465, j_496, j_900, j_999, j_1000, j_65536, j_65537, j_99999, j_252645135, j_858993459, j_1431655765, k_0, k_1, k_27, k_32, k_74, k_75, k_100, k_1000, k_65537, pI_J kx, im3_1 HA H1 hg c, e2, cl_r C2, cl_q C2, ci_0 C2, ci_1 C2, ci_2 C2, ci_3 C2, ci_4 C2, ci_5 C2, ci_6 C2, ci_7 C2, cr_9 C2, cr_10 C2, cr_11 C2, cr_13 C2, cr_14 C2, cr_15 C2, cr_16 C2, cr_17 C2, cr_18 C2, cr_19 C2, cr_20 C2, cr_21 C2, cr_22 C2, cr_23 C2, cr_24 C2, cr_25 C2, cr_26 C2, ca_9 HA.1 C2, ca_10 HA.1 C2, ca_11 HA.1 C2, ca_13 HA.1 C2, ca_14 HA.1 C2, ca_15 HA.1 C2, ca_16 HA.1 C2, ca_17 HA.1 C2, ca_18 HA.1 C2, ca_19 HA.1 C2, ca_20 HA.1 C2, ca_21 HA.1 C2, ca_22 HA.1 C2, ca_23 HA.1 C2, ca_24 HA.1 C2, ca_25 HA.1 C2, ca_26 HA.1 C2, m_i C2.1, m_p C2.1, m_l C2.1, m_pl C2.1, mr_15 C2.1, mr_16 C2.1, mr_17 C2.1, mr_18 C2.1, mr_21 C2.1, mr_22 C2.1, mr_23 C2.1, mr_24 C2.1, mr_25 C2.1, mr_30 C2.1, mr_31 C2.1, m90a C2.1, m90s C2.1, m91a C2.1, m91s C2.1, m92a C2.1, m92s C2.1, m93a C2.1, m93s C2.1, m94a C2.1, m94s C2.1, m95a C2.1, m95s C2.1, m96a C2.1, m96s C2.1, m97a C2.1, m97s C2.1, m98a C2.1, m98s C2.1, m99a C2.1, m99s C2.1, m100a C2.1, m100s C2.1, cl_r C3, cl_q C3, ci_0 C3, ci_1 C3, ci_2 C3, ci_3 C3, ci_4 C3, ci_5 C3, ci_6 C3, ci_7 C3, cr_9 C3, cr_10 C3, cr_11 C3, cr_13 C3, cr_14 C3, cr_15 C3, cr_16 C3, cr_17 C3, cr_18 C3, cr_19 C3, cr_20 C3, cr_21 C3, cr_22 C3, cr_23 C3, cr_24 C3, cr_25 C3, cr_26 C3, ca_9 HA.1 C3, ca_10 HA.1 C3, ca_11 HA.1 C3, ca_13 HA.1 C3, ca_14 HA.1 C3, ca_15 HA.1 C3, ca_16 HA.1 C3, ca_17 HA.1 C3, ca_18 HA.1 C3, ca_19 HA.1 C3, ca_20 HA.1 C3, ca_21 HA.1 C3, ca_22 HA.1 C3, ca_23 HA.1 C3, ca_24 HA.1 C3, ca_25 HA.1 C3, ca_26 HA.1 C3, m_i C3.1, m_p C3.1, m_l C3.1, m_pl C3.1, mr_15 C3.1, mr_16 C3.1, mr_17 C3.1, mr_18 C3.1, mr_21 C3.1, mr_22 C3.1, mr_23 C3.1, mr_24 C3.1, mr_25 C3.1, mr_30 C3.1, mr_31 C3.1, es', e4]
  · rw [if_neg c, if_neg c]
    obtain ⟨h2, e2, q2, f2⟩ := ref_e (y := 1) H1.1 (by omega)
    refine ⟨h2, ?_, q2, f2⟩
    simp (disch := first | with_reducible assumption | omega | trivial) only [bn_s1, bd_s1, ei_l1, ei_r1, J_add, J_sub, J_mul, J_neg, J_lt, J_le, J_eq, dv_J, rm_J, if_pos, if_neg, ↓reduceIte, bitJ, shlJ, orJ, j_0, j_1, j_2, j_3, j_4, j_5, j_6, j_7, j_8, j_9, j_10, j_11, j_12, j_13, j_14, j_15, j_16, j_17, j_18, j_19, j_20, j_21, j_22, j_23, j_24, j_25, j_26, j_27, j_28, j_29, j_30, j_31, j_32, j_33, j_34, j_35, j_36, j_37, j_38, j_39, j_40, j_41, j_42, j_43, j_44, j_45, j_46, j_47, j_48, j_49, j_50, j_51, j_52, j_57, j_59, j_63, j_74, j_75, j_93, j_97, j_99, j_100, j_122, j_200, j_255, j_300, j_465, j_496, j_900, j_999, j_1000, j_65536, j_65537, j_99999, j_252645135, j_858993459, j_1431655765, k_0, k_1, k_27, k_32, k_74, k_75, k_100, k_1000, k_65537, pI_J kx, im3_0 HA H1 hg c, e2]
