/-! a whole step of the class's tokens -/
theorem k10_b {T : Int → Int} {p : Nat} : ∀ k : Nat, (∀ j, j < k → dgt (T ((p + j : Nat) : Int)) = true) → 0 ≤ k10 T p k ∧ k10 T p k < 10 ^ k := by
  intro k
  induction k with
  | zero => intro _; exact ⟨by show (0 : Int) ≤ 0; omega, by show (0 : Int) < 1; omega⟩
  | succ k ih =>
    intro H
    have i := ih (fun j hj => H j (by omega))
    have d : 48 ≤ T ((p + k : Nat) : Int) ∧ T ((p + k : Nat) : Int) ≤ 57 := of_decide_eq_true (H k (by omega))
    have e : k10 T p (k + 1) = k10 T p k * 10 + (T ((p + k : Nat) : Int) - 48) := rfl
    have q : (10 : Int) ^ (k + 1) = 10 ^ k * 10 := Int.pow_succ 10 k
    rw [e, q]
    omega
theorem k27_b {T : Int → Int} {p : Nat} : ∀ k : Nat, (∀ j, j < k → ltr (T ((p + j : Nat) : Int)) = true) → 0 ≤ k27 T p k ∧ k27 T p k < 27 ^ k := by
  intro k
  induction k with
  | zero => intro _; exact ⟨by show (0 : Int) ≤ 0; omega, by show (0 : Int) < 1; omega⟩
  | succ k ih =>
    intro H
    have i := ih (fun j hj => H j (by omega))
    have d : 97 ≤ T ((p + k : Nat) : Int) ∧ T ((p + k : Nat) : Int) ≤ 122 := of_decide_eq_true (H k (by omega))
    have e : k27 T p (k + 1) = k27 T p k * 27 + (T ((p + k : Nat) : Int) - 97 + 1) := rfl
    have q : (27 : Int) ^ (k + 1) = 27 ^ k * 27 := Int.pow_succ 27 k
    rw [e, q]
    omega
theorem k32_b {T : Int → Int} {p : Nat} : ∀ k : Nat, (∀ j, j < k → ltr (T ((p + j : Nat) : Int)) = true) → 0 ≤ k32 T p k ∧ k32 T p k < 32 ^ k := by
  intro k
  induction k with
  | zero => intro _; exact ⟨by show (0 : Int) ≤ 0; omega, by show (0 : Int) < 1; omega⟩
  | succ k ih =>
    intro H
    have i := ih (fun j hj => H j (by omega))
    have d : 97 ≤ T ((p + k : Nat) : Int) ∧ T ((p + k : Nat) : Int) ≤ 122 := of_decide_eq_true (H k (by omega))
    have e : k32 T p (k + 1) = 32 * k32 T p k + (T ((p + k : Nat) : Int) - 97 + 1) := rfl
    have q : (32 : Int) ^ (k + 1) = 32 ^ k * 32 := Int.pow_succ 32 k
    rw [e, q]
    omega
theorem pw_le {b : Int} (hb : 1 ≤ b) (m : Nat) : ∀ k : Nat, k ≤ m → b ^ k ≤ b ^ m := by
  intro k hk
  induction m with
  | zero => rw [show k = 0 by omega]; exact Int.le_refl _
  | succ m ih =>
    by_cases c : k = m + 1
    · rw [c]; exact Int.le_refl _
    · have i := ih (by omega)
      have q : b ^ (m + 1) = b ^ m * b := Int.pow_succ b m
      have z : 0 ≤ b ^ m := Int.pow_nonneg (by omega)
      have w : b ^ m * 1 ≤ b ^ m * b := Int.mul_le_mul_of_nonneg_left hb z
      rw [q]
      omega
/-- where the sort comes from -/
theorem tso_c (T : Int → Int) (n p : Nat) (hp : p ≤ n) : (tso T n p = 3 ∧ n ≤ spn T n p ∧ tln T n p = 0) ∨ (tso T n p = 0 ∧ spn T n p < n ∧ 1 ≤ tln T n p ∧ tln T n p ≤ 8 ∧ tln T n p = run1 ltr T n (spn T n p) ∧ ∀ j, j < tln T n p → ltr (T ((spn T n p + j : Nat) : Int)) = true) ∨ (tso T n p = 1 ∧ spn T n p < n ∧ 1 ≤ tln T n p ∧ tln T n p ≤ 3 ∧ tln T n p = run1 dgt T n (spn T n p) ∧ ∀ j, j < tln T n p → dgt (T ((spn T n p + j : Nat) : Int)) = true) ∨ (tso T n p = 2 ∧ spn T n p < n ∧ tln T n p = 1 ∧ T (spn T n p : Nat) = 59) ∨ (tso T n p = 4 ∧ spn T n p < n) := by
  have s := spn_b T n p hp
  obtain ⟨a1, a2, a3⟩ := run1_p ltr T n (spn T n p)
  obtain ⟨b1, b2, b3⟩ := run1_p dgt T n (spn T n p)
  unfold tso tln
  by_cases c : n ≤ spn T n p
  · rw [if_pos c, if_pos c]; exact Or.inl ⟨rfl, c, rfl⟩
  · rw [if_neg c, if_neg c]
    by_cases d : ltr (T (spn T n p : Nat)) = true
    · have := run1_1 (n := n) (p := spn T n p) (by omega) d
      rw [if_pos d, if_pos d]
      by_cases e : run1 ltr T n (spn T n p) ≤ 8
      · rw [if_pos e]; exact Or.inr (Or.inl ⟨rfl, by omega, this, e, rfl, a2⟩)
      · rw [if_neg e]; exact Or.inr (Or.inr (Or.inr (Or.inr ⟨rfl, by omega⟩)))
    · rw [if_neg d, if_neg d]
      by_cases f : dgt (T (spn T n p : Nat)) = true
      · have := run1_1 (n := n) (p := spn T n p) (by omega) f
        rw [if_pos f, if_pos f]
        by_cases e : run1 dgt T n (spn T n p) ≤ 3
        · rw [if_pos e]; exact Or.inr (Or.inr (Or.inl ⟨rfl, by omega, this, e, rfl, b2⟩))
        · rw [if_neg e]; exact Or.inr (Or.inr (Or.inr (Or.inr ⟨rfl, by omega⟩)))
      · rw [if_neg f, if_neg f]
        by_cases e : T (spn T n p : Nat) = 59
        · rw [if_pos e]; exact Or.inr (Or.inr (Or.inr (Or.inl ⟨rfl, by omega, rfl, e⟩)))
        · rw [if_neg e]; exact Or.inr (Or.inr (Or.inr (Or.inr ⟨rfl, by omega⟩)))
/-- values of the token at p -/
def tnm (T : Int → Int) (n p : Nat) : Int := k10 T (spn T n p) (tln T n p)
def t27 (T : Int → Int) (n p : Nat) : Int := k27 T (spn T n p) (tln T n p)
def t32 (T : Int → Int) (n p : Nat) : Int := k32 T (spn T n p) (tln T n p)
theorem tnm_b {T : Int → Int} {n p : Nat} (hp : p ≤ n) (c : tso T n p = 1) : 0 ≤ tnm T n p ∧ tnm T n p ≤ 999 := by
  rcases tso_c T n p hp with q | q | q | q | q
  · omega
  · omega
  · have z := k10_b (T := T) (p := spn T n p) (tln T n p) q.2.2.2.2.2
    have w := pw_le (b := 10) (by omega) 3 (tln T n p) q.2.2.2.1
    have y : (10 : Int) ^ 3 = 1000 := by decide
    unfold tnm
    omega
  · omega
  · omega
theorem t27_b {T : Int → Int} {n p : Nat} (hp : p ≤ n) (c : tso T n p = 0) : (0 ≤ t27 T n p ∧ t27 T n p < 282429536481) ∧ (0 ≤ t32 T n p ∧ t32 T n p < 1099511627776) := by
  rcases tso_c T n p hp with q | q | q | q | q
  · omega
  · have z := k27_b (T := T) (p := spn T n p) (tln T n p) q.2.2.2.2.2
    have w := pw_le (b := 27) (by omega) 8 (tln T n p) q.2.2.2.1
    have y : (27 : Int) ^ 8 = 282429536481 := by decide
    have z' := k32_b (T := T) (p := spn T n p) (tln T n p) q.2.2.2.2.2
    have w' := pw_le (b := 32) (by omega) 8 (tln T n p) q.2.2.2.1
    have y' : (32 : Int) ^ 8 = 1099511627776 := by decide
    unfold t27 t32
    omega
  · omega
  · omega
  · omega
/-- the class's tokens stand at p -/
def CT (T : Int → Int) (n p : Nat) (h : Hp) : Prop := fi h 3 1 = n ∧ fi h 3 2 = (tnx T n p : Nat) ∧ fi h 3 3 = (spn T n p : Nat) ∧ fi h 3 4 = tso T n p ∧ (tso T n p = 1 → fi h 3 5 = tnm T n p) ∧ (tso T n p = 0 → fl h 3 6 = t27 T n p)
theorem CT_fm {T : Int → Int} {n p lo hi : Nat} {h h' : Hp} (x : Fm lo hi h h') (hd : 4 ≤ lo ∨ hi ≤ 3) (H : CT T n p h) : CT T n p h' := by
  unfold CT
  simp (disch := omega) only [fm_fi x, fm_fl x]
  exact H
theorem J_in {h : Hp} {a k : Nat} {v : Int} (e : J (fi h a k) = J v) (h1 : -2147483648 ≤ v) (h2 : v < 2147483648) : fi h a k = v := by
  have r := J_rg (fI h a k)
  exact (J_eq r.1 r.2 h1 h2).mp e
theorem K_in {h : Hp} {a k : Nat} {v : Int} (e : K (fl h a k) = K v) (h1 : -9223372036854775808 ≤ v) (h2 : v < 9223372036854775808) : fl h a k = v := by
  have r := K_rg (fL h a k)
  have q := congrArg Int64.toInt e
  rw [K_to h1 h2] at q
  exact (K_to r.1 r.2).symm.trans q
theorem C_adv {T : Int → Int} {n p : Nat} {h : Hp} (Q : TK h) (X : TX T n h) (hn : fi h 3 1 = n) (hp : p ≤ n) (ha : fi h 3 2 = p) : ∃ h', F_tk_advance 3 h = some h' ∧ Fm 3 4 h h' ∧ CT T n p h' := by
  have n0 := X.1
  have sb := spn_b T n p hp
  have tb := tln_b T n p hp
  have nb := (run1_p ltr T n (spn T n p)).1
  have mb := (run1_p dgt T n (spn T n p)).1
  obtain ⟨q, hq⟩ : ∃ q, q = spn T n p := ⟨_, rfl⟩
  obtain ⟨h1, e1⟩ : ∃ h1, h1 = wF h 3 3 p := ⟨_, rfl⟩
  have f1 : Fm 3 4 h h1 := by rw [e1]; exact fm_wF (by omega) (by omega)
  have Q1 := TK_fm f1 Q
  obtain ⟨h2, e2, f2, a2, n2⟩ := C_adv8 (p := p) Q1 (TX_fm f1 (by omega) X) (by rw [e1, fi_ne (by omega)]; exact hn) hp (by rw [e1]; exact fi_same (by omega) (by omega))
  have Q2 := TK_fm f2 Q1
  rw [← hq] at a2
  obtain ⟨h3, e3⟩ : ∃ h3, h3 = wF h2 3 2 q := ⟨_, rfl⟩
  have f3 : Fm 3 4 h2 h3 := by rw [e3]; exact fm_wF (by omega) (by omega)
  have Q3 := TK_fm f3 Q2
  obtain ⟨h4, e4⟩ : ∃ h4, h4 = wG h3 3 6 0 := ⟨_, rfl⟩
  have f4 : Fm 3 4 h3 h4 := by rw [e4]; exact fm_wG (by omega) (by omega)
  have Q4 := TK_fm f4 Q3
  have F4 := fm_tr f1 (fm_tr f2 (fm_tr f3 f4))
  have a4 : fi h4 3 3 = q := by rw [e4, fi_wG, e3, fi_ne (by omega)]; exact a2
  obtain ⟨h5, e5, f5, x5, n5, t5, l5⟩ := C_adv59 (p := q) Q4 (TX_fm F4 (by omega) X) (by rw [e4, fi_wG, e3, fi_ne (by omega)]; exact n2) (by omega) (by rw [e4, fi_wG, e3]; exact fi_same (by omega) (by omega)) (by rw [e4]; exact K_wG)
  have Q5 := TK_fm f5 Q4
  rw [a4] at t5
  have F5 := fm_tr F4 f5
  rw [← hq] at nb mb
  unfold F_tk_advance CT tnm t27 tnx
  rw [ck_e Q.1, ← hq]
  try simp only [j_0, j_1, j_2, j_3, j_4, j_5, j_6, j_7, j_8, j_9, j_10, j_11, j_12, j_13, j_14, j_15, j_16, j_17, j_18, j_19, j_20, j_21, j_22, j_23, j_24, j_25, j_26, j_27, j_28, j_29, j_30, j_31, j_32, j_33, j_34, j_35, j_36, j_37, j_38, j_39, j_40, j_41, j_42, j_43, j_44, j_45, j_46, j_47, j_48, j_49, j_50, j_51, j_52, j_57, j_59, j_63, j_74, j_75, j_93, j_97, j_99, j_100, j_122, j_200, j_255, j_300, j_465, j_496, j_900, j_999, j_1000, j_65536, j_65537, j_99999, j_252645135, j_858993459, j_1431655765, k_0, k_1, k_27, k_32, k_74, k_75, k_100, k_1000, k_65537]
  simp (disch := first | with_reducible assumption | omega | trivial) only [↓bn_s1, ↓bd_s1, ↓ei_l1, ↓ei_r1, ↓bn_if, ↓ilt_1, ↓ilt_0, ↓ieq_1, ↓ieq_0, bn_s1, bd_s1, ei_l1, ei_r1, J_add, J_sub, J_mul, J_neg, J_lt, J_le, J_eq, dv_J, rm_J, if_pos, if_neg, ↓reduceIte, bitJ, shlJ, orJ, j_0, j_1, j_2, j_3, j_4, j_5, j_6, j_7, j_8, j_9, j_10, j_11, j_12, j_13, j_14, j_15, j_16, j_17, j_18, j_19, j_20, j_21, j_22, j_23, j_24, j_25, j_26, j_27, j_28, j_29, j_30, j_31, j_32, j_33, j_34, j_35, j_36, j_37, j_38, j_39, j_40, j_41, j_42, j_43, j_44, j_45, j_46, j_47, j_48, j_49, j_50, j_51, j_52, j_57, j_59, j_63, j_74, j_75, j_93, j_97, j_99, j_100, j_122, j_200, j_255, j_300, j_465, j_496, j_900, j_999, j_1000, j_65536, j_65537, j_99999, j_252645135, j_858993459, j_1431655765, k_0, k_1, k_27, k_32, k_74, k_75, k_100, k_1000, k_65537, tk_i Q, ↓tk_i_b Q, tk_p Q, ↓tk_p_b Q, tk_r Q, ↓tk_r_b Q, tk_l Q, ↓tk_l_b Q, tk_pl Q, ↓tk_pl_b Q, tk_a Q, ↓tk_a_b Q, ha, ← e1, ↓bd_e (e2), e2, tk_i Q2, ↓tk_i_b Q2, tk_p Q2, ↓tk_p_b Q2, tk_r Q2, ↓tk_r_b Q2, tk_l Q2, ↓tk_l_b Q2, tk_pl Q2, ↓tk_pl_b Q2, tk_a Q2, ↓tk_a_b Q2, a2, ← e3, tk_i Q3, ↓tk_i_b Q3, tk_p Q3, ↓tk_p_b Q3, tk_r Q3, ↓tk_r_b Q3, tk_l Q3, ↓tk_l_b Q3, tk_pl Q3, ↓tk_pl_b Q3, tk_a Q3, ↓tk_a_b Q3, ← e4, ↓bd_e (e5), e5]
  by_cases c : n ≤ q
  · have r0 : run1 ltr T n q = 0 := run1_0 (Or.inl c)
    have r1 : run1 dgt T n q = 0 := run1_0 (Or.inl c)
    rw [r0] at x5
    obtain ⟨h6, e6⟩ : ∃ h6, h6 = wF h5 3 5 0 := ⟨_, rfl⟩
    have f6 : Fm 3 4 h5 h6 := by rw [e6]; exact fm_wF (by omega) (by omega)
    have Q6 := TK_fm f6 Q5
    obtain ⟨h7, e7, f7, x7, n7, t7, l7⟩ := C_adv166 (p := q) Q6 (TX_fm (fm_tr F5 f6) (by omega) X) (by rw [e6, fi_ne (by omega)]; exact n5) (by omega) (by rw [e6, fi_ne (by omega)]; exact x5) (by rw [e6]; exact J_wF)
    have Q7 := TK_fm f7 Q6
    rw [r1] at x7
    rw [e6, fi_ne (by omega), t5] at t7
    have es : tso T n p = 3 := by unfold tso; rw [← hq, if_pos c]
    have et : tln T n p = 0 := by unfold tln; rw [← hq, if_pos c]
    replace x5 : fi h5 3 2 = q := x5
    replace x7 : fi h7 3 2 = q := x7
    rw [es, et]
    refine ⟨wF h7 3 4 3, ?_, fm_tr F5 (fm_tr f6 (fm_tr f7 (fm_wF (by omega) (by omega)))), by rw [fi_ne (by omega)]; exact n7, by rw [fi_ne (by omega)]; exact x7, by rw [fi_ne (by omega)]; exact t7, fi_same (by omega) (by omega), fun z => by omega, fun z => by omega⟩
    simp (disch := first | with_reducible assumption | omega | trivial) only [↓bn_s1, ↓bd_s1, ↓ei_l1, ↓ei_r1, ↓bn_if, ↓ilt_1, ↓ilt_0, ↓ieq_1, ↓ieq_0, bn_s1, bd_s1, ei_l1, ei_r1, J_add, J_sub, J_mul, J_neg, J_lt, J_le, J_eq, dv_J, rm_J, if_pos, if_neg, ↓reduceIte, bitJ, shlJ, orJ, j_0, j_1, j_2, j_3, j_4, j_5, j_6, j_7, j_8, j_9, j_10, j_11, j_12, j_13, j_14, j_15, j_16, j_17, j_18, j_19, j_20, j_21, j_22, j_23, j_24, j_25, j_26, j_27, j_28, j_29, j_30, j_31, j_32, j_33, j_34, j_35, j_36, j_37, j_38, j_39, j_40, j_41, j_42, j_43, j_44, j_45, j_46, j_47, j_48, j_49, j_50, j_51, j_52, j_57, j_59, j_63, j_74, j_75, j_93, j_97, j_99, j_100, j_122, j_200, j_255, j_300, j_465, j_496, j_900, j_999, j_1000, j_65536, j_65537, j_99999, j_252645135, j_858993459, j_1431655765, k_0, k_1, k_27, k_32, k_74, k_75, k_100, k_1000, k_65537, tk_i Q5, ↓tk_i_b Q5, tk_p Q5, ↓tk_p_b Q5, tk_r Q5, ↓tk_r_b Q5, tk_l Q5, ↓tk_l_b Q5, tk_pl Q5, ↓tk_pl_b Q5, tk_a Q5, ↓tk_a_b Q5, x5, t5, ← e6, ↓bd_e (e7), e7, tk_i Q7, ↓tk_i_b Q7, tk_p Q7, ↓tk_p_b Q7, tk_r Q7, ↓tk_r_b Q7, tk_l Q7, ↓tk_l_b Q7, tk_pl Q7, ↓tk_pl_b Q7, tk_a Q7, ↓tk_a_b Q7, x7, t7, n7]
  · by_cases d : ltr (T (q : Nat)) = true
    · have r0 := run1_1 (n := n) (p := q) (by omega) d
      have et : tln T n p = run1 ltr T n q := by unfold tln; rw [← hq, if_neg c, if_pos d]
      rw [et]
      by_cases e : run1 ltr T n q ≤ 8
      · have es : tso T n p = 0 := by unfold tso; rw [← hq, if_neg c, if_pos d, if_pos e]
        have kb := t27_b hp es
        unfold t27 at kb
        rw [et, ← hq] at kb
        rw [es]
        refine ⟨wF h5 3 4 0, ?_, fm_tr F5 (fm_wF (by omega) (by omega)), by rw [fi_ne (by omega)]; exact n5, by rw [fi_ne (by omega)]; exact x5, by rw [fi_ne (by omega)]; exact t5, fi_same (by omega) (by omega), fun z => by omega, fun z => by rw [fl_wF]; exact K_in l5 (by omega) (by omega)⟩
        simp (disch := first | with_reducible assumption | omega | trivial) only [↓bn_s1, ↓bd_s1, ↓ei_l1, ↓ei_r1, ↓bn_if, ↓ilt_1, ↓ilt_0, ↓ieq_1, ↓ieq_0, bn_s1, bd_s1, ei_l1, ei_r1, J_add, J_sub, J_mul, J_neg, J_lt, J_le, J_eq, dv_J, rm_J, if_pos, if_neg, ↓reduceIte, bitJ, shlJ, orJ, j_0, j_1, j_2, j_3, j_4, j_5, j_6, j_7, j_8, j_9, j_10, j_11, j_12, j_13, j_14, j_15, j_16, j_17, j_18, j_19, j_20, j_21, j_22, j_23, j_24, j_25, j_26, j_27, j_28, j_29, j_30, j_31, j_32, j_33, j_34, j_35, j_36, j_37, j_38, j_39, j_40, j_41, j_42, j_43, j_44, j_45, j_46, j_47, j_48, j_49, j_50, j_51, j_52, j_57, j_59, j_63, j_74, j_75, j_93, j_97, j_99, j_100, j_122, j_200, j_255, j_300, j_465, j_496, j_900, j_999, j_1000, j_65536, j_65537, j_99999, j_252645135, j_858993459, j_1431655765, k_0, k_1, k_27, k_32, k_74, k_75, k_100, k_1000, k_65537, tk_i Q5, ↓tk_i_b Q5, tk_p Q5, ↓tk_p_b Q5, tk_r Q5, ↓tk_r_b Q5, tk_l Q5, ↓tk_l_b Q5, tk_pl Q5, ↓tk_pl_b Q5, tk_a Q5, ↓tk_a_b Q5, x5, t5]
      · have es : tso T n p = 4 := by unfold tso; rw [← hq, if_neg c, if_pos d, if_neg e]
        rw [es]
        refine ⟨wF h5 3 4 4, ?_, fm_tr F5 (fm_wF (by omega) (by omega)), by rw [fi_ne (by omega)]; exact n5, by rw [fi_ne (by omega)]; exact x5, by rw [fi_ne (by omega)]; exact t5, fi_same (by omega) (by omega), fun z => by omega, fun z => by omega⟩
        simp (disch := first | with_reducible assumption | omega | trivial) only [↓bn_s1, ↓bd_s1, ↓ei_l1, ↓ei_r1, ↓bn_if, ↓ilt_1, ↓ilt_0, ↓ieq_1, ↓ieq_0, bn_s1, bd_s1, ei_l1, ei_r1, J_add, J_sub, J_mul, J_neg, J_lt, J_le, J_eq, dv_J, rm_J, if_pos, if_neg, ↓reduceIte, bitJ, shlJ, orJ, j_0, j_1, j_2, j_3, j_4, j_5, j_6, j_7, j_8, j_9, j_10, j_11, j_12, j_13, j_14, j_15, j_16, j_17, j_18, j_19, j_20, j_21, j_22, j_23, j_24, j_25, j_26, j_27, j_28, j_29, j_30, j_31, j_32, j_33, j_34, j_35, j_36, j_37, j_38, j_39, j_40, j_41, j_42, j_43, j_44, j_45, j_46, j_47, j_48, j_49, j_50, j_51, j_52, j_57, j_59, j_63, j_74, j_75, j_93, j_97, j_99, j_100, j_122, j_200, j_255, j_300, j_465, j_496, j_900, j_999, j_1000, j_65536, j_65537, j_99999, j_252645135, j_858993459, j_1431655765, k_0, k_1, k_27, k_32, k_74, k_75, k_100, k_1000, k_65537, tk_i Q5, ↓tk_i_b Q5, tk_p Q5, ↓tk_p_b Q5, tk_r Q5, ↓tk_r_b Q5, tk_l Q5, ↓tk_l_b Q5, tk_pl Q5, ↓tk_pl_b Q5, tk_a Q5, ↓tk_a_b Q5, x5, t5]
    · have r0 : run1 ltr T n q = 0 := run1_0 (Or.inr (by cases z : ltr (T (q : Nat)) with | true => exact absurd z d | false => rfl))
      rw [r0] at x5
      replace x5 : fi h5 3 2 = q := x5
      obtain ⟨h6, e6⟩ : ∃ h6, h6 = wF h5 3 5 0 := ⟨_, rfl⟩
      have f6 : Fm 3 4 h5 h6 := by rw [e6]; exact fm_wF (by omega) (by omega)
      have Q6 := TK_fm f6 Q5
      obtain ⟨h7, e7, f7, x7, n7, t7, l7⟩ := C_adv166 (p := q) Q6 (TX_fm (fm_tr F5 f6) (by omega) X) (by rw [e6, fi_ne (by omega)]; exact n5) (by omega) (by rw [e6, fi_ne (by omega)]; exact x5) (by rw [e6]; exact J_wF)
      have Q7 := TK_fm f7 Q6
      rw [e6, fi_ne (by omega), t5] at t7
      have F7 := fm_tr F5 (fm_tr f6 f7)
      by_cases g : dgt (T (q : Nat)) = true
      · have r1 := run1_1 (n := n) (p := q) (by omega) g
        have et : tln T n p = run1 dgt T n q := by unfold tln; rw [← hq, if_neg c, if_neg d, if_pos g]
        rw [et]
        by_cases e : run1 dgt T n q ≤ 3
        · have es : tso T n p = 1 := by unfold tso; rw [← hq, if_neg c, if_neg d, if_pos g, if_pos e]
          have kb := tnm_b hp es
          unfold tnm at kb
          rw [et, ← hq] at kb
          rw [es]
          refine ⟨wF h7 3 4 1, ?_, fm_tr F7 (fm_wF (by omega) (by omega)), by rw [fi_ne (by omega)]; exact n7, by rw [fi_ne (by omega)]; exact x7, by rw [fi_ne (by omega)]; exact t7, fi_same (by omega) (by omega), fun z => by rw [fi_ne (by omega)]; exact J_in l7 (by omega) (by omega), fun z => by omega⟩
          simp (disch := first | with_reducible assumption | omega | trivial) only [↓bn_s1, ↓bd_s1, ↓ei_l1, ↓ei_r1, ↓bn_if, ↓ilt_1, ↓ilt_0, ↓ieq_1, ↓ieq_0, bn_s1, bd_s1, ei_l1, ei_r1, J_add, J_sub, J_mul, J_neg, J_lt, J_le, J_eq, dv_J, rm_J, if_pos, if_neg, ↓reduceIte, bitJ, shlJ, orJ, j_0, j_1, j_2, j_3, j_4, j_5, j_6, j_7, j_8, j_9, j_10, j_11, j_12, j_13, j_14, j_15, j_16, j_17, j_18, j_19, j_20, j_21, j_22, j_23, j_24, j_25, j_26, j_27, j_28, j_29, j_30, j_31, j_32, j_33, j_34, j_35, j_36, j_37, j_38, j_39, j_40, j_41, j_42, j_43, j_44, j_45, j_46, j_47, j_48, j_49, j_50, j_51, j_52, j_57, j_59, j_63, j_74, j_75, j_93, j_97, j_99, j_100, j_122, j_200, j_255, j_300, j_465, j_496, j_900, j_999, j_1000, j_65536, j_65537, j_99999, j_252645135, j_858993459, j_1431655765, k_0, k_1, k_27, k_32, k_74, k_75, k_100, k_1000, k_65537, tk_i Q5, ↓tk_i_b Q5, tk_p Q5, ↓tk_p_b Q5, tk_r Q5, ↓tk_r_b Q5, tk_l Q5, ↓tk_l_b Q5, tk_pl Q5, ↓tk_pl_b Q5, tk_a Q5, ↓tk_a_b Q5, x5, t5, ← e6, ↓bd_e (e7), e7, tk_i Q7, ↓tk_i_b Q7, tk_p Q7, ↓tk_p_b Q7, tk_r Q7, ↓tk_r_b Q7, tk_l Q7, ↓tk_l_b Q7, tk_pl Q7, ↓tk_pl_b Q7, tk_a Q7, ↓tk_a_b Q7, x7, t7, n7]
        · have es : tso T n p = 4 := by unfold tso; rw [← hq, if_neg c, if_neg d, if_pos g, if_neg e]
          rw [es]
          refine ⟨wF h7 3 4 4, ?_, fm_tr F7 (fm_wF (by omega) (by omega)), by rw [fi_ne (by omega)]; exact n7, by rw [fi_ne (by omega)]; exact x7, by rw [fi_ne (by omega)]; exact t7, fi_same (by omega) (by omega), fun z => by omega, fun z => by omega⟩
          simp (disch := first | with_reducible assumption | omega | trivial) only [↓bn_s1, ↓bd_s1, ↓ei_l1, ↓ei_r1, ↓bn_if, ↓ilt_1, ↓ilt_0, ↓ieq_1, ↓ieq_0, bn_s1, bd_s1, ei_l1, ei_r1, J_add, J_sub, J_mul, J_neg, J_lt, J_le, J_eq, dv_J, rm_J, if_pos, if_neg, ↓reduceIte, bitJ, shlJ, orJ, j_0, j_1, j_2, j_3, j_4, j_5, j_6, j_7, j_8, j_9, j_10, j_11, j_12, j_13, j_14, j_15, j_16, j_17, j_18, j_19, j_20, j_21, j_22, j_23, j_24, j_25, j_26, j_27, j_28, j_29, j_30, j_31, j_32, j_33, j_34, j_35, j_36, j_37, j_38, j_39, j_40, j_41, j_42, j_43, j_44, j_45, j_46, j_47, j_48, j_49, j_50, j_51, j_52, j_57, j_59, j_63, j_74, j_75, j_93, j_97, j_99, j_100, j_122, j_200, j_255, j_300, j_465, j_496, j_900, j_999, j_1000, j_65536, j_65537, j_99999, j_252645135, j_858993459, j_1431655765, k_0, k_1, k_27, k_32, k_74, k_75, k_100, k_1000, k_65537, tk_i Q5, ↓tk_i_b Q5, tk_p Q5, ↓tk_p_b Q5, tk_r Q5, ↓tk_r_b Q5, tk_l Q5, ↓tk_l_b Q5, tk_pl Q5, ↓tk_pl_b Q5, tk_a Q5, ↓tk_a_b Q5, x5, t5, ← e6, ↓bd_e (e7), e7, tk_i Q7, ↓tk_i_b Q7, tk_p Q7, ↓tk_p_b Q7, tk_r Q7, ↓tk_r_b Q7, tk_l Q7, ↓tk_l_b Q7, tk_pl Q7, ↓tk_pl_b Q7, tk_a Q7, ↓tk_a_b Q7, x7, t7, n7]
      · have r1 : run1 dgt T n q = 0 := run1_0 (Or.inr (by cases z : dgt (T (q : Nat)) with | true => exact absurd z g | false => rfl))
        rw [r1] at x7
        replace x7 : fi h7 3 2 = q := x7
        have et : tln T n p = 1 := by unfold tln; rw [← hq, if_neg c, if_neg d, if_neg g]
        rw [et]
        have v := (TX_fm F7 (by omega) X).2.2 (q : Nat) (by omega) (by omega)
        have b := X.2.1 (q : Nat)
        by_cases e : T (q : Nat) = 59
        · have es : tso T n p = 2 := by unfold tso; rw [← hq, if_neg c, if_neg d, if_neg g, if_pos e]
          rw [es]
          have Q8 : TK (wF h7 3 4 2) := TK_fm (fm_wF (lo := 3) (hi := 4) (by omega) (by omega)) Q7
          have x8 : fi (wF h7 3 4 2) 3 2 = q := by rw [fi_ne (by omega)]; exact x7
          refine ⟨wF (wF h7 3 4 2) 3 2 ((q : Int) + 1), ?_, fm_tr F7 (fm_tr (fm_wF (by omega) (by omega)) (fm_wF (by omega) (by omega))), by rw [fi_ne (by omega), fi_ne (by omega)]; exact n7, by rw [fi_same (by omega) (by omega)]; omega, by rw [fi_ne (by omega), fi_ne (by omega)]; exact t7, by rw [fi_ne (by omega)]; exact fi_same (by omega) (by omega), fun z => by omega, fun z => by omega⟩
          simp (disch := first | with_reducible assumption | omega | trivial) only [↓bn_s1, ↓bd_s1, ↓ei_l1, ↓ei_r1, ↓bn_if, ↓ilt_1, ↓ilt_0, ↓ieq_1, ↓ieq_0, bn_s1, bd_s1, ei_l1, ei_r1, J_add, J_sub, J_mul, J_neg, J_lt, J_le, J_eq, dv_J, rm_J, if_pos, if_neg, ↓reduceIte, bitJ, shlJ, orJ, j_0, j_1, j_2, j_3, j_4, j_5, j_6, j_7, j_8, j_9, j_10, j_11, j_12, j_13, j_14, j_15, j_16, j_17, j_18, j_19, j_20, j_21, j_22, j_23, j_24, j_25, j_26, j_27, j_28, j_29, j_30, j_31, j_32, j_33, j_34, j_35, j_36, j_37, j_38, j_39, j_40, j_41, j_42, j_43, j_44, j_45, j_46, j_47, j_48, j_49, j_50, j_51, j_52, j_57, j_59, j_63, j_74, j_75, j_93, j_97, j_99, j_100, j_122, j_200, j_255, j_300, j_465, j_496, j_900, j_999, j_1000, j_65536, j_65537, j_99999, j_252645135, j_858993459, j_1431655765, k_0, k_1, k_27, k_32, k_74, k_75, k_100, k_1000, k_65537, tk_i Q5, ↓tk_i_b Q5, tk_p Q5, ↓tk_p_b Q5, tk_r Q5, ↓tk_r_b Q5, tk_l Q5, ↓tk_l_b Q5, tk_pl Q5, ↓tk_pl_b Q5, tk_a Q5, ↓tk_a_b Q5, x5, t5, ← e6, ↓bd_e (e7), e7, tk_i Q7, ↓tk_i_b Q7, tk_p Q7, ↓tk_p_b Q7, tk_r Q7, ↓tk_r_b Q7, tk_l Q7, ↓tk_l_b Q7, tk_pl Q7, ↓tk_pl_b Q7, tk_a Q7, ↓tk_a_b Q7, x7, t7, n7, v, e, tk_i Q8, ↓tk_i_b Q8, tk_p Q8, ↓tk_p_b Q8, tk_r Q8, ↓tk_r_b Q8, tk_l Q8, ↓tk_l_b Q8, tk_pl Q8, ↓tk_pl_b Q8, tk_a Q8, ↓tk_a_b Q8, x8]
        · have es : tso T n p = 4 := by unfold tso; rw [← hq, if_neg c, if_neg d, if_neg g, if_neg e]
          rw [es]
          have Q8 : TK (wF h7 3 4 4) := TK_fm (fm_wF (lo := 3) (hi := 4) (by omega) (by omega)) Q7
          have x8 : fi (wF h7 3 4 4) 3 2 = q := by rw [fi_ne (by omega)]; exact x7
          refine ⟨wF (wF h7 3 4 4) 3 2 ((q : Int) + 1), ?_, fm_tr F7 (fm_tr (fm_wF (by omega) (by omega)) (fm_wF (by omega) (by omega))), by rw [fi_ne (by omega), fi_ne (by omega)]; exact n7, by rw [fi_same (by omega) (by omega)]; omega, by rw [fi_ne (by omega), fi_ne (by omega)]; exact t7, by rw [fi_ne (by omega)]; exact fi_same (by omega) (by omega), fun z => by omega, fun z => by omega⟩
          simp (disch := first | with_reducible assumption | omega | trivial) only [↓bn_s1, ↓bd_s1, ↓ei_l1, ↓ei_r1, ↓bn_if, ↓ilt_1, ↓ilt_0, ↓ieq_1, ↓ieq_0, bn_s1, bd_s1, ei_l1, ei_r1, J_add, J_sub, J_mul, J_neg, J_lt, J_le, J_eq, dv_J, rm_J, if_pos, if_neg, ↓reduceIte, bitJ, shlJ, orJ, j_0, j_1, j_2, j_3, j_4, j_5, j_6, j_7, j_8, j_9, j_10, j_11, j_12, j_13, j_14, j_15, j_16, j_17, j_18, j_19, j_20, j_21, j_22, j_23, j_24, j_25, j_26, j_27, j_28, j_29, j_30, j_31, j_32, j_33, j_34, j_35, j_36, j_37, j_38, j_39, j_40, j_41, j_42, j_43, j_44, j_45, j_46, j_47, j_48, j_49, j_50, j_51, j_52, j_57, j_59, j_63, j_74, j_75, j_93, j_97, j_99, j_100, j_122, j_200, j_255, j_300, j_465, j_496, j_900, j_999, j_1000, j_65536, j_65537, j_99999, j_252645135, j_858993459, j_1431655765, k_0, k_1, k_27, k_32, k_74, k_75, k_100, k_1000, k_65537, tk_i Q5, ↓tk_i_b Q5, tk_p Q5, ↓tk_p_b Q5, tk_r Q5, ↓tk_r_b Q5, tk_l Q5, ↓tk_l_b Q5, tk_pl Q5, ↓tk_pl_b Q5, tk_a Q5, ↓tk_a_b Q5, x5, t5, ← e6, ↓bd_e (e7), e7, tk_i Q7, ↓tk_i_b Q7, tk_p Q7, ↓tk_p_b Q7, tk_r Q7, ↓tk_r_b Q7, tk_l Q7, ↓tk_l_b Q7, tk_pl Q7, ↓tk_pl_b Q7, tk_a Q7, ↓tk_a_b Q7, x7, t7, n7, v, tk_i Q8, ↓tk_i_b Q8, tk_p Q8, ↓tk_p_b Q8, tk_r Q8, ↓tk_r_b Q8, tk_l Q8, ↓tk_l_b Q8, tk_pl Q8, ↓tk_pl_b Q8, tk_a Q8, ↓tk_a_b Q8, x8]
