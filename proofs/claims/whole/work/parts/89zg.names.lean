/-! names told so far: L 8 how many, L 27 and L 30 the word as numbers, L 28 the sort, L 29 the number; L 31 whether the lake is told -/
def csr (s : Int) : Int := if s = 0 then 1 else if s = 1 then 4 else 5
def NW (L : Lk) : Prop := (0 ≤ L 8 0 ∧ L 8 0 ≤ 11) ∧ ∀ i, 0 ≤ i → i < L 8 0 → (∃ (f : Nat → Int) (m : Nat), m ≤ 8 ∧ (∀ j, j < m → 1 ≤ f j ∧ f j ≤ 26) ∧ L 27 i = cdx 32 f m ∧ L 30 i = cdx 27 f m) ∧ (L 28 i = 0 ∨ L 28 i = 1 ∨ L 28 i = 2) ∧ 0 ≤ L 29 i ∧ L 29 i ≤ 4
/-- between two lines: how many, and whom they name -/
def NB (L : Lk) : Prop := L 8 0 = L 1 0 + L 3 0 + L 4 0 ∧ ∀ i, 0 ≤ i → i < L 8 0 → (L 28 i = 0 → L 29 i < L 1 0) ∧ (L 28 i = 2 → L 29 i < L 4 0)
def NC (L : Lk) (h : Hp) : Prop := fi h 2 5 = L 8 0 ∧ fi h 2 4 = L 31 0 ∧ ∀ i, 0 ≤ i → i < L 8 0 → la h 23 i = L 30 i ∧ ia h 24 i = csr (L 28 i) ∧ ia h 25 i = L 29 i
def ND (L : Lk) (b : Nat) (h : Hp) : Prop := fi h b 8 = L 8 0 ∧ ∀ i, 0 ≤ i → i < L 8 0 → la h (b + 19) i = L 27 i ∧ ia h (b + 20) i = L 28 i ∧ ia h (b + 21) i = L 29 i
def fdx (L : Lk) (x : Int) : Nat := fsi (fun i => decide (L 27 i = x)) (L 8 0).toNat
def frs (L : Lk) (x : Int) : Int := if (fdx L x : Int) < L 8 0 then (fdx L x : Int) else -1
theorem cdx_27 {f : Nat → Int} {m : Nat} (H : ∀ i, i < m → 1 ≤ f i ∧ f i ≤ 26) (hm : m ≤ 8) : 0 ≤ cdx 27 f m ∧ cdx 27 f m < 282429536481 := by
  have z : ∀ m : Nat, (∀ i, i < m → 1 ≤ f i ∧ f i ≤ 26) → 0 ≤ cdx 27 f m ∧ cdx 27 f m < 27 ^ m := by
    intro m
    induction m with
    | zero => intro _; exact ⟨by show (0 : Int) ≤ 0; omega, by show (0 : Int) < 1; omega⟩
    | succ m ih =>
      intro H
      have i := ih (fun j hj => H j (by omega))
      have d := H m (by omega)
      have q : (27 : Int) ^ (m + 1) = 27 ^ m * 27 := Int.pow_succ 27 m
      rw [cdx_s, q]
      omega
  have w := pw_le (b := 27) (by omega) 8 m hm
  have y : (27 : Int) ^ 8 = 282429536481 := by decide
  have := z m H
  omega
theorem NW_b {L : Lk} (N : NW L) {i : Int} (h0 : 0 ≤ i) (h1 : i < L 8 0) : (0 ≤ L 27 i ∧ L 27 i < 1099511627776) ∧ (0 ≤ L 30 i ∧ L 30 i < 282429536481) := by
  obtain ⟨⟨f, m, hm, hf, e1, e2⟩, _⟩ := N.2 i h0 h1
  rw [e1, e2]
  exact ⟨cdx_8 hf hm, cdx_27 hf hm⟩
/-- the two ways to write a word agree -/
theorem NW_e {L : Lk} {T : Int → Int} {n p : Nat} (N : NW L) (hp : p ≤ n) (c : tso T n p = 0) {i : Int} (h0 : 0 ≤ i) (h1 : i < L 8 0) : L 30 i = t27 T n p ↔ L 27 i = t32 T n p := by
  obtain ⟨⟨f, m, hm, hf, e1, e2⟩, _⟩ := N.2 i h0 h1
  have lb := lwt_b hp c
  unfold t27 t32
  rw [k27_e, k32_e, e1, e2]
  constructor
  · intro e
    obtain ⟨w1, w2⟩ := cdx_i (Or.inl rfl) _ _ hf lb e
    rw [w1]
    exact cdx_c _ (fun j hj => w2 j (by omega))
  · intro e
    obtain ⟨w1, w2⟩ := cdx_i (Or.inr rfl) _ _ hf lb e
    rw [w1]
    exact cdx_c _ (fun j hj => w2 j (by omega))
theorem d_23 {h : Hp} (D : DS h) {z : Int} (h0 : 0 ≤ z) (h1 : z < 11) : aL h 23 (J z) = some (K (la h 23 z)) := aL_J (DS_k6 D) h0 (by rw [DS_n6 D]; omega) (by omega)
theorem lgc2 {a b : Int} (h1 : -9223372036854775808 ≤ a) (h2 : a < 9223372036854775808) (h3 : -9223372036854775808 ≤ b) (h4 : b < 9223372036854775808) : (a = b → lg_cmp (K a) (K b) = J 0) ∧ (¬ a = b → ¬ lg_cmp (K a) (K b) = J 0) := by
  have z := lgc (a := a) (b := b) h1 h2 h3 h4
  constructor
  · intro e
    rw [z, if_neg (by omega), if_pos e]
  · intro e
    rw [z]
    by_cases c : b < a
    · rw [if_pos c]; decide
    · rw [if_neg c, if_neg e]; decide
theorem frs_b {L : Lk} {x : Int} (N : NW L) : -1 ≤ frs L x ∧ (0 ≤ frs L x → frs L x < L 8 0 ∧ frs L x = fdx L x ∧ L 27 (frs L x) = x) := by
  obtain ⟨m1, m2, m3⟩ := fsi_p (fun i => decide (L 27 i = x)) (L 8 0).toNat
  unfold frs
  by_cases c : (fdx L x : Int) < L 8 0
  · rw [if_pos c]
    exact ⟨by omega, fun _ => ⟨c, rfl, of_decide_eq_true (m3 (show fdx L x < _ by omega))⟩⟩
  · rw [if_neg c]; exact ⟨by omega, fun z => by omega⟩
theorem C_fnam {L : Lk} {T : Int → Int} {n p : Nat} {h : Hp} (B : KB T n h) (hp : p ≤ n) (H : CT T n p h) (N : NW L) (R : NC L h) (c : tso T n p = 0) : F_rd_findName 2 h = some (J (frs L (t32 T n p))) := by
  have D := B.2.2.2
  have Q := B.1
  have c6 := H.2.2.2.2.2 c
  have tb := t27_b hp c
  obtain ⟨m1, m2, m3⟩ := fsi_p (fun i => decide (L 27 i = t32 T n p)) (L 8 0).toNat
  have r1 := R.1
  have n0 := N.1.1
  have hL := N.1.2
  have gr : gR h 2 7 6 = some 23 := gR_e (DS_k D) (DS_r6 D)
  obtain ⟨j, hj⟩ : ∃ j, j = fdx L (t32 T n p) := ⟨_, rfl⟩
  have ej : j = fsi (fun i => decide (L 27 i = t32 T n p)) (L 8 0).toNat := hj
  rw [← ej] at m1 m2 m3
  have e1 : lq (B_rd_findName_2 2 h) FU (J 0) = some (if (j : Int) < L 8 0 then Sum.inr (J j) else Sum.inl ()) := by
    refine lq_for (fun i => J i) j (by unfold FU; omega) rfl (fun i hi => ?_) ?_
    · have v := (R.2.2 i (by omega) (by omega)).1
      have ea := d_23 D (z := i) (by omega) (by omega)
      rw [v] at ea
      have nb := NW_b N (i := i) (by omega) (by omega)
      have ne : ¬ L 30 i = t27 T n p := fun z => of_decide_eq_false (m2 i hi) ((NW_e N hp c (by omega) (by omega)).mp z)
      have le := (lgc1 (a := L 30 i) (b := t27 T n p) (by omega) (by omega) (by omega) (by omega)).2 ne
      unfold B_rd_findName_2
      try simp only [j_0, j_1, j_2, j_3, j_4, j_5, j_6, j_7, j_8, j_9, j_10, j_11, j_12, j_13, j_14, j_15, j_16, j_17, j_18, j_19, j_20, j_21, j_22, j_23, j_24, j_25, j_26, j_27, j_28, j_29, j_30, j_31, j_32, j_33, j_34, j_35, j_36, j_37, j_38, j_39, j_40, j_41, j_42, j_43, j_44, j_45, j_46, j_47, j_48, j_49, j_50, j_51, j_52, j_57, j_59, j_63, j_74, j_75, j_93, j_97, j_99, j_100, j_122, j_200, j_255, j_300, j_465, j_496, j_900, j_999, j_1000, j_65536, j_65537, j_99999, j_252645135, j_858993459, j_1431655765, k_0, k_1, k_27, k_32, k_74, k_75, k_100, k_1000, k_65537]
      simp (disch := first | with_reducible assumption | omega | trivial) only [↓bn_s1, ↓bd_s1, ↓ei_l1, ↓ei_r1, ↓bn_if, ↓ilt_1, ↓ilt_0, ↓ieq_1, ↓ieq_0, bn_s1, bd_s1, ei_l1, ei_r1, J_add, J_sub, J_mul, J_neg, J_lt, J_le, J_eq, dv_J, rm_J, if_pos, if_neg, ↓reduceIte, bitJ, shlJ, orJ, j_0, j_1, j_2, j_3, j_4, j_5, j_6, j_7, j_8, j_9, j_10, j_11, j_12, j_13, j_14, j_15, j_16, j_17, j_18, j_19, j_20, j_21, j_22, j_23, j_24, j_25, j_26, j_27, j_28, j_29, j_30, j_31, j_32, j_33, j_34, j_35, j_36, j_37, j_38, j_39, j_40, j_41, j_42, j_43, j_44, j_45, j_46, j_47, j_48, j_49, j_50, j_51, j_52, j_57, j_59, j_63, j_74, j_75, j_93, j_97, j_99, j_100, j_122, j_200, j_255, j_300, j_465, j_496, j_900, j_999, j_1000, j_65536, j_65537, j_99999, j_252645135, j_858993459, j_1431655765, k_0, k_1, k_27, k_32, k_74, k_75, k_100, k_1000, k_65537, d_i D, ↓d_i_b D, d_p D, ↓d_p_b D, d_r2 D, ↓d_r2_b D, r1, ↓bn_e (gr), gr, ↓bn_e (ea), ea, tk_i Q, ↓tk_i_b Q, tk_p Q, ↓tk_p_b Q, tk_r Q, ↓tk_r_b Q, tk_l Q, ↓tk_l_b Q, tk_pl Q, ↓tk_pl_b Q, tk_a Q, ↓tk_a_b Q, c6]
      rfl
    · by_cases d : (j : Int) < L 8 0
      · rw [if_pos d]
        have v := (R.2.2 j (by omega) d).1
        have ea := d_23 D (z := j) (by omega) (by omega)
        rw [v] at ea
        have nb := NW_b N (i := j) (by omega) d
        have ye : L 30 j = t27 T n p := (NW_e N hp c (by omega) d).mpr (of_decide_eq_true (m3 (by omega)))
        have le := (lgc1 (a := L 30 j) (b := t27 T n p) (by omega) (by omega) (by omega) (by omega)).1 ye
        unfold B_rd_findName_2
        try simp only [j_0, j_1, j_2, j_3, j_4, j_5, j_6, j_7, j_8, j_9, j_10, j_11, j_12, j_13, j_14, j_15, j_16, j_17, j_18, j_19, j_20, j_21, j_22, j_23, j_24, j_25, j_26, j_27, j_28, j_29, j_30, j_31, j_32, j_33, j_34, j_35, j_36, j_37, j_38, j_39, j_40, j_41, j_42, j_43, j_44, j_45, j_46, j_47, j_48, j_49, j_50, j_51, j_52, j_57, j_59, j_63, j_74, j_75, j_93, j_97, j_99, j_100, j_122, j_200, j_255, j_300, j_465, j_496, j_900, j_999, j_1000, j_65536, j_65537, j_99999, j_252645135, j_858993459, j_1431655765, k_0, k_1, k_27, k_32, k_74, k_75, k_100, k_1000, k_65537]
        simp (disch := first | with_reducible assumption | omega | trivial) only [↓bn_s1, ↓bd_s1, ↓ei_l1, ↓ei_r1, ↓bn_if, ↓ilt_1, ↓ilt_0, ↓ieq_1, ↓ieq_0, bn_s1, bd_s1, ei_l1, ei_r1, J_add, J_sub, J_mul, J_neg, J_lt, J_le, J_eq, dv_J, rm_J, if_pos, if_neg, ↓reduceIte, bitJ, shlJ, orJ, j_0, j_1, j_2, j_3, j_4, j_5, j_6, j_7, j_8, j_9, j_10, j_11, j_12, j_13, j_14, j_15, j_16, j_17, j_18, j_19, j_20, j_21, j_22, j_23, j_24, j_25, j_26, j_27, j_28, j_29, j_30, j_31, j_32, j_33, j_34, j_35, j_36, j_37, j_38, j_39, j_40, j_41, j_42, j_43, j_44, j_45, j_46, j_47, j_48, j_49, j_50, j_51, j_52, j_57, j_59, j_63, j_74, j_75, j_93, j_97, j_99, j_100, j_122, j_200, j_255, j_300, j_465, j_496, j_900, j_999, j_1000, j_65536, j_65537, j_99999, j_252645135, j_858993459, j_1431655765, k_0, k_1, k_27, k_32, k_74, k_75, k_100, k_1000, k_65537, d_i D, ↓d_i_b D, d_p D, ↓d_p_b D, d_r2 D, ↓d_r2_b D, r1, ↓bn_e (gr), gr, ↓bn_e (ea), ea, tk_i Q, ↓tk_i_b Q, tk_p Q, ↓tk_p_b Q, tk_r Q, ↓tk_r_b Q, tk_l Q, ↓tk_l_b Q, tk_pl Q, ↓tk_pl_b Q, tk_a Q, ↓tk_a_b Q, c6]
      · rw [if_neg d]
        unfold B_rd_findName_2
        try simp only [j_0, j_1, j_2, j_3, j_4, j_5, j_6, j_7, j_8, j_9, j_10, j_11, j_12, j_13, j_14, j_15, j_16, j_17, j_18, j_19, j_20, j_21, j_22, j_23, j_24, j_25, j_26, j_27, j_28, j_29, j_30, j_31, j_32, j_33, j_34, j_35, j_36, j_37, j_38, j_39, j_40, j_41, j_42, j_43, j_44, j_45, j_46, j_47, j_48, j_49, j_50, j_51, j_52, j_57, j_59, j_63, j_74, j_75, j_93, j_97, j_99, j_100, j_122, j_200, j_255, j_300, j_465, j_496, j_900, j_999, j_1000, j_65536, j_65537, j_99999, j_252645135, j_858993459, j_1431655765, k_0, k_1, k_27, k_32, k_74, k_75, k_100, k_1000, k_65537]
        simp (disch := first | with_reducible assumption | omega | trivial) only [↓bn_s1, ↓bd_s1, ↓ei_l1, ↓ei_r1, ↓bn_if, ↓ilt_1, ↓ilt_0, ↓ieq_1, ↓ieq_0, bn_s1, bd_s1, ei_l1, ei_r1, J_add, J_sub, J_mul, J_neg, J_lt, J_le, J_eq, dv_J, rm_J, if_pos, if_neg, ↓reduceIte, bitJ, shlJ, orJ, j_0, j_1, j_2, j_3, j_4, j_5, j_6, j_7, j_8, j_9, j_10, j_11, j_12, j_13, j_14, j_15, j_16, j_17, j_18, j_19, j_20, j_21, j_22, j_23, j_24, j_25, j_26, j_27, j_28, j_29, j_30, j_31, j_32, j_33, j_34, j_35, j_36, j_37, j_38, j_39, j_40, j_41, j_42, j_43, j_44, j_45, j_46, j_47, j_48, j_49, j_50, j_51, j_52, j_57, j_59, j_63, j_74, j_75, j_93, j_97, j_99, j_100, j_122, j_200, j_255, j_300, j_465, j_496, j_900, j_999, j_1000, j_65536, j_65537, j_99999, j_252645135, j_858993459, j_1431655765, k_0, k_1, k_27, k_32, k_74, k_75, k_100, k_1000, k_65537, d_i D, ↓d_i_b D, d_p D, ↓d_p_b D, d_r2 D, ↓d_r2_b D, r1]
  unfold F_rd_findName frs
  rw [ck_e (DS_k D), ← hj]
  by_cases d : (j : Int) < L 8 0
  · rw [if_pos d] at e1 ⊢
    try simp only [j_0, j_1, j_2, j_3, j_4, j_5, j_6, j_7, j_8, j_9, j_10, j_11, j_12, j_13, j_14, j_15, j_16, j_17, j_18, j_19, j_20, j_21, j_22, j_23, j_24, j_25, j_26, j_27, j_28, j_29, j_30, j_31, j_32, j_33, j_34, j_35, j_36, j_37, j_38, j_39, j_40, j_41, j_42, j_43, j_44, j_45, j_46, j_47, j_48, j_49, j_50, j_51, j_52, j_57, j_59, j_63, j_74, j_75, j_93, j_97, j_99, j_100, j_122, j_200, j_255, j_300, j_465, j_496, j_900, j_999, j_1000, j_65536, j_65537, j_99999, j_252645135, j_858993459, j_1431655765, k_0, k_1, k_27, k_32, k_74, k_75, k_100, k_1000, k_65537]
    simp (disch := first | with_reducible assumption | omega | trivial) only [↓bn_s1, ↓bd_s1, ↓ei_l1, ↓ei_r1, ↓bn_if, ↓ilt_1, ↓ilt_0, ↓ieq_1, ↓ieq_0, bn_s1, bd_s1, ei_l1, ei_r1, J_add, J_sub, J_mul, J_neg, J_lt, J_le, J_eq, dv_J, rm_J, if_pos, if_neg, ↓reduceIte, bitJ, shlJ, orJ, j_0, j_1, j_2, j_3, j_4, j_5, j_6, j_7, j_8, j_9, j_10, j_11, j_12, j_13, j_14, j_15, j_16, j_17, j_18, j_19, j_20, j_21, j_22, j_23, j_24, j_25, j_26, j_27, j_28, j_29, j_30, j_31, j_32, j_33, j_34, j_35, j_36, j_37, j_38, j_39, j_40, j_41, j_42, j_43, j_44, j_45, j_46, j_47, j_48, j_49, j_50, j_51, j_52, j_57, j_59, j_63, j_74, j_75, j_93, j_97, j_99, j_100, j_122, j_200, j_255, j_300, j_465, j_496, j_900, j_999, j_1000, j_65536, j_65537, j_99999, j_252645135, j_858993459, j_1431655765, k_0, k_1, k_27, k_32, k_74, k_75, k_100, k_1000, k_65537, ↓bn_e (e1), e1]
  · rw [if_neg d] at e1 ⊢
    try simp only [j_0, j_1, j_2, j_3, j_4, j_5, j_6, j_7, j_8, j_9, j_10, j_11, j_12, j_13, j_14, j_15, j_16, j_17, j_18, j_19, j_20, j_21, j_22, j_23, j_24, j_25, j_26, j_27, j_28, j_29, j_30, j_31, j_32, j_33, j_34, j_35, j_36, j_37, j_38, j_39, j_40, j_41, j_42, j_43, j_44, j_45, j_46, j_47, j_48, j_49, j_50, j_51, j_52, j_57, j_59, j_63, j_74, j_75, j_93, j_97, j_99, j_100, j_122, j_200, j_255, j_300, j_465, j_496, j_900, j_999, j_1000, j_65536, j_65537, j_99999, j_252645135, j_858993459, j_1431655765, k_0, k_1, k_27, k_32, k_74, k_75, k_100, k_1000, k_65537]
    simp (disch := first | with_reducible assumption | omega | trivial) only [↓bn_s1, ↓bd_s1, ↓ei_l1, ↓ei_r1, ↓bn_if, ↓ilt_1, ↓ilt_0, ↓ieq_1, ↓ieq_0, bn_s1, bd_s1, ei_l1, ei_r1, J_add, J_sub, J_mul, J_neg, J_lt, J_le, J_eq, dv_J, rm_J, if_pos, if_neg, ↓reduceIte, bitJ, shlJ, orJ, j_0, j_1, j_2, j_3, j_4, j_5, j_6, j_7, j_8, j_9, j_10, j_11, j_12, j_13, j_14, j_15, j_16, j_17, j_18, j_19, j_20, j_21, j_22, j_23, j_24, j_25, j_26, j_27, j_28, j_29, j_30, j_31, j_32, j_33, j_34, j_35, j_36, j_37, j_38, j_39, j_40, j_41, j_42, j_43, j_44, j_45, j_46, j_47, j_48, j_49, j_50, j_51, j_52, j_57, j_59, j_63, j_74, j_75, j_93, j_97, j_99, j_100, j_122, j_200, j_255, j_300, j_465, j_496, j_900, j_999, j_1000, j_65536, j_65537, j_99999, j_252645135, j_858993459, j_1431655765, k_0, k_1, k_27, k_32, k_74, k_75, k_100, k_1000, k_65537, ↓bn_e (e1), e1]
theorem D_find {L : Lk} {b : Nat} {h : Hp} {x : Int} (Y : YS b h) (N : NW L) (R : ND L b h) (h1 : -9223372036854775808 ≤ x) (h2 : x < 9223372036854775808) : F_la_find b (K x) h = some (J (frs L x)) := by
  obtain ⟨m1, m2, m3⟩ := fsi_p (fun i => decide (L 27 i = x)) (L 8 0).toNat
  have n0 := N.1.1
  have hL := N.1.2
  have gi : gI h b 12 8 = some (J (L 8 0)) := by rw [gI_J (YS_k Y), R.1]
  have gr : gR h b 12 27 = some (b + 19) := gR_e (YS_k Y) (YS_r27 Y)
  have al : ∀ z : Int, 0 ≤ z → z < L 8 0 → aL h (b + 19) (J z) = some (K (L 27 z)) := fun z z0 z1 => by
    rw [aL_J (YS_k27 Y) z0 (by rw [YS_n27 Y]; omega) (by omega), (R.2 z z0 z1).1]
  obtain ⟨j, hj⟩ : ∃ j, j = fdx L x := ⟨_, rfl⟩
  have ej : j = fsi (fun i => decide (L 27 i = x)) (L 8 0).toNat := hj
  rw [← ej] at m1 m2 m3
  have e1 : lq (B_la_find_2 b (K x) h) FU (J 0) = some (if (j : Int) < L 8 0 then Sum.inr (J j) else Sum.inl ()) := by
    refine lq_for (fun i => J i) j (by unfold FU; omega) rfl (fun i hi => ?_) ?_
    · have ea := al i (by omega) (by omega)
      have nb := NW_b N (i := i) (by omega) (by omega)
      have le := (lgc2 (a := L 27 i) (b := x) (by omega) (by omega) h1 h2).2 (of_decide_eq_false (m2 i hi))
      unfold B_la_find_2
      try simp only [j_0, j_1, j_2, j_3, j_4, j_5, j_6, j_7, j_8, j_9, j_10, j_11, j_12, j_13, j_14, j_15, j_16, j_17, j_18, j_19, j_20, j_21, j_22, j_23, j_24, j_25, j_26, j_27, j_28, j_29, j_30, j_31, j_32, j_33, j_34, j_35, j_36, j_37, j_38, j_39, j_40, j_41, j_42, j_43, j_44, j_45, j_46, j_47, j_48, j_49, j_50, j_51, j_52, j_57, j_59, j_63, j_74, j_75, j_93, j_97, j_99, j_100, j_122, j_200, j_255, j_300, j_465, j_496, j_900, j_999, j_1000, j_65536, j_65537, j_99999, j_252645135, j_858993459, j_1431655765, k_0, k_1, k_27, k_32, k_74, k_75, k_100, k_1000, k_65537]
      simp (disch := first | with_reducible assumption | omega | trivial) only [↓bn_s1, ↓bd_s1, ↓ei_l1, ↓ei_r1, ↓bn_if, ↓ilt_1, ↓ilt_0, ↓ieq_1, ↓ieq_0, bn_s1, bd_s1, ei_l1, ei_r1, J_add, J_sub, J_mul, J_neg, J_lt, J_le, J_eq, dv_J, rm_J, if_pos, if_neg, ↓reduceIte, bitJ, shlJ, orJ, j_0, j_1, j_2, j_3, j_4, j_5, j_6, j_7, j_8, j_9, j_10, j_11, j_12, j_13, j_14, j_15, j_16, j_17, j_18, j_19, j_20, j_21, j_22, j_23, j_24, j_25, j_26, j_27, j_28, j_29, j_30, j_31, j_32, j_33, j_34, j_35, j_36, j_37, j_38, j_39, j_40, j_41, j_42, j_43, j_44, j_45, j_46, j_47, j_48, j_49, j_50, j_51, j_52, j_57, j_59, j_63, j_74, j_75, j_93, j_97, j_99, j_100, j_122, j_200, j_255, j_300, j_465, j_496, j_900, j_999, j_1000, j_65536, j_65537, j_99999, j_252645135, j_858993459, j_1431655765, k_0, k_1, k_27, k_32, k_74, k_75, k_100, k_1000, k_65537, ↓bn_e (gi), gi, ↓bn_e (gr), gr, ↓bn_e (ea), ea]
      rfl
    · by_cases d : (j : Int) < L 8 0
      · rw [if_pos d]
        have ea := al j (by omega) d
        have nb := NW_b N (i := j) (by omega) d
        have le := (lgc2 (a := L 27 j) (b := x) (by omega) (by omega) h1 h2).1 (of_decide_eq_true (m3 (by omega)))
        unfold B_la_find_2
        try simp only [j_0, j_1, j_2, j_3, j_4, j_5, j_6, j_7, j_8, j_9, j_10, j_11, j_12, j_13, j_14, j_15, j_16, j_17, j_18, j_19, j_20, j_21, j_22, j_23, j_24, j_25, j_26, j_27, j_28, j_29, j_30, j_31, j_32, j_33, j_34, j_35, j_36, j_37, j_38, j_39, j_40, j_41, j_42, j_43, j_44, j_45, j_46, j_47, j_48, j_49, j_50, j_51, j_52, j_57, j_59, j_63, j_74, j_75, j_93, j_97, j_99, j_100, j_122, j_200, j_255, j_300, j_465, j_496, j_900, j_999, j_1000, j_65536, j_65537, j_99999, j_252645135, j_858993459, j_1431655765, k_0, k_1, k_27, k_32, k_74, k_75, k_100, k_1000, k_65537]
        simp (disch := first | with_reducible assumption | omega | trivial) only [↓bn_s1, ↓bd_s1, ↓ei_l1, ↓ei_r1, ↓bn_if, ↓ilt_1, ↓ilt_0, ↓ieq_1, ↓ieq_0, bn_s1, bd_s1, ei_l1, ei_r1, J_add, J_sub, J_mul, J_neg, J_lt, J_le, J_eq, dv_J, rm_J, if_pos, if_neg, ↓reduceIte, bitJ, shlJ, orJ, j_0, j_1, j_2, j_3, j_4, j_5, j_6, j_7, j_8, j_9, j_10, j_11, j_12, j_13, j_14, j_15, j_16, j_17, j_18, j_19, j_20, j_21, j_22, j_23, j_24, j_25, j_26, j_27, j_28, j_29, j_30, j_31, j_32, j_33, j_34, j_35, j_36, j_37, j_38, j_39, j_40, j_41, j_42, j_43, j_44, j_45, j_46, j_47, j_48, j_49, j_50, j_51, j_52, j_57, j_59, j_63, j_74, j_75, j_93, j_97, j_99, j_100, j_122, j_200, j_255, j_300, j_465, j_496, j_900, j_999, j_1000, j_65536, j_65537, j_99999, j_252645135, j_858993459, j_1431655765, k_0, k_1, k_27, k_32, k_74, k_75, k_100, k_1000, k_65537, ↓bn_e (gi), gi, ↓bn_e (gr), gr, ↓bn_e (ea), ea]
      · rw [if_neg d]
        unfold B_la_find_2
        try simp only [j_0, j_1, j_2, j_3, j_4, j_5, j_6, j_7, j_8, j_9, j_10, j_11, j_12, j_13, j_14, j_15, j_16, j_17, j_18, j_19, j_20, j_21, j_22, j_23, j_24, j_25, j_26, j_27, j_28, j_29, j_30, j_31, j_32, j_33, j_34, j_35, j_36, j_37, j_38, j_39, j_40, j_41, j_42, j_43, j_44, j_45, j_46, j_47, j_48, j_49, j_50, j_51, j_52, j_57, j_59, j_63, j_74, j_75, j_93, j_97, j_99, j_100, j_122, j_200, j_255, j_300, j_465, j_496, j_900, j_999, j_1000, j_65536, j_65537, j_99999, j_252645135, j_858993459, j_1431655765, k_0, k_1, k_27, k_32, k_74, k_75, k_100, k_1000, k_65537]
        simp (disch := first | with_reducible assumption | omega | trivial) only [↓bn_s1, ↓bd_s1, ↓ei_l1, ↓ei_r1, ↓bn_if, ↓ilt_1, ↓ilt_0, ↓ieq_1, ↓ieq_0, bn_s1, bd_s1, ei_l1, ei_r1, J_add, J_sub, J_mul, J_neg, J_lt, J_le, J_eq, dv_J, rm_J, if_pos, if_neg, ↓reduceIte, bitJ, shlJ, orJ, j_0, j_1, j_2, j_3, j_4, j_5, j_6, j_7, j_8, j_9, j_10, j_11, j_12, j_13, j_14, j_15, j_16, j_17, j_18, j_19, j_20, j_21, j_22, j_23, j_24, j_25, j_26, j_27, j_28, j_29, j_30, j_31, j_32, j_33, j_34, j_35, j_36, j_37, j_38, j_39, j_40, j_41, j_42, j_43, j_44, j_45, j_46, j_47, j_48, j_49, j_50, j_51, j_52, j_57, j_59, j_63, j_74, j_75, j_93, j_97, j_99, j_100, j_122, j_200, j_255, j_300, j_465, j_496, j_900, j_999, j_1000, j_65536, j_65537, j_99999, j_252645135, j_858993459, j_1431655765, k_0, k_1, k_27, k_32, k_74, k_75, k_100, k_1000, k_65537, ↓bn_e (gi), gi]
  unfold F_la_find frs
  rw [ck_e (YS_k Y), ← hj]
  by_cases d : (j : Int) < L 8 0
  · rw [if_pos d] at e1 ⊢
    try simp only [j_0, j_1, j_2, j_3, j_4, j_5, j_6, j_7, j_8, j_9, j_10, j_11, j_12, j_13, j_14, j_15, j_16, j_17, j_18, j_19, j_20, j_21, j_22, j_23, j_24, j_25, j_26, j_27, j_28, j_29, j_30, j_31, j_32, j_33, j_34, j_35, j_36, j_37, j_38, j_39, j_40, j_41, j_42, j_43, j_44, j_45, j_46, j_47, j_48, j_49, j_50, j_51, j_52, j_57, j_59, j_63, j_74, j_75, j_93, j_97, j_99, j_100, j_122, j_200, j_255, j_300, j_465, j_496, j_900, j_999, j_1000, j_65536, j_65537, j_99999, j_252645135, j_858993459, j_1431655765, k_0, k_1, k_27, k_32, k_74, k_75, k_100, k_1000, k_65537]
    simp (disch := first | with_reducible assumption | omega | trivial) only [↓bn_s1, ↓bd_s1, ↓ei_l1, ↓ei_r1, ↓bn_if, ↓ilt_1, ↓ilt_0, ↓ieq_1, ↓ieq_0, bn_s1, bd_s1, ei_l1, ei_r1, J_add, J_sub, J_mul, J_neg, J_lt, J_le, J_eq, dv_J, rm_J, if_pos, if_neg, ↓reduceIte, bitJ, shlJ, orJ, j_0, j_1, j_2, j_3, j_4, j_5, j_6, j_7, j_8, j_9, j_10, j_11, j_12, j_13, j_14, j_15, j_16, j_17, j_18, j_19, j_20, j_21, j_22, j_23, j_24, j_25, j_26, j_27, j_28, j_29, j_30, j_31, j_32, j_33, j_34, j_35, j_36, j_37, j_38, j_39, j_40, j_41, j_42, j_43, j_44, j_45, j_46, j_47, j_48, j_49, j_50, j_51, j_52, j_57, j_59, j_63, j_74, j_75, j_93, j_97, j_99, j_100, j_122, j_200, j_255, j_300, j_465, j_496, j_900, j_999, j_1000, j_65536, j_65537, j_99999, j_252645135, j_858993459, j_1431655765, k_0, k_1, k_27, k_32, k_74, k_75, k_100, k_1000, k_65537, ↓bn_e (e1), e1]
  · rw [if_neg d] at e1 ⊢
    try simp only [j_0, j_1, j_2, j_3, j_4, j_5, j_6, j_7, j_8, j_9, j_10, j_11, j_12, j_13, j_14, j_15, j_16, j_17, j_18, j_19, j_20, j_21, j_22, j_23, j_24, j_25, j_26, j_27, j_28, j_29, j_30, j_31, j_32, j_33, j_34, j_35, j_36, j_37, j_38, j_39, j_40, j_41, j_42, j_43, j_44, j_45, j_46, j_47, j_48, j_49, j_50, j_51, j_52, j_57, j_59, j_63, j_74, j_75, j_93, j_97, j_99, j_100, j_122, j_200, j_255, j_300, j_465, j_496, j_900, j_999, j_1000, j_65536, j_65537, j_99999, j_252645135, j_858993459, j_1431655765, k_0, k_1, k_27, k_32, k_74, k_75, k_100, k_1000, k_65537]
    simp (disch := first | with_reducible assumption | omega | trivial) only [↓bn_s1, ↓bd_s1, ↓ei_l1, ↓ei_r1, ↓bn_if, ↓ilt_1, ↓ilt_0, ↓ieq_1, ↓ieq_0, bn_s1, bd_s1, ei_l1, ei_r1, J_add, J_sub, J_mul, J_neg, J_lt, J_le, J_eq, dv_J, rm_J, if_pos, if_neg, ↓reduceIte, bitJ, shlJ, orJ, j_0, j_1, j_2, j_3, j_4, j_5, j_6, j_7, j_8, j_9, j_10, j_11, j_12, j_13, j_14, j_15, j_16, j_17, j_18, j_19, j_20, j_21, j_22, j_23, j_24, j_25, j_26, j_27, j_28, j_29, j_30, j_31, j_32, j_33, j_34, j_35, j_36, j_37, j_38, j_39, j_40, j_41, j_42, j_43, j_44, j_45, j_46, j_47, j_48, j_49, j_50, j_51, j_52, j_57, j_59, j_63, j_74, j_75, j_93, j_97, j_99, j_100, j_122, j_200, j_255, j_300, j_465, j_496, j_900, j_999, j_1000, j_65536, j_65537, j_99999, j_252645135, j_858993459, j_1431655765, k_0, k_1, k_27, k_32, k_74, k_75, k_100, k_1000, k_65537, ↓bn_e (e1), e1]
/-! a name that is known -/
/-- the fault of a name that should be known as of sort s; 0: none -/
def pkf (L : Lk) (T : Int → Int) (n p : Nat) (s : Int) : Int := if isN T n p = true then (if 0 ≤ frs L (t32 T n p) ∧ L 28 (frs L (t32 T n p)) = s then 0 else 2) else 1
def knb (L : Lk) (T : Int → Int) (n p : Nat) : Int := L 29 (frs L (t32 T n p))
theorem pkf_c (L : Lk) (T : Int → Int) (n p : Nat) (s : Int) : pkf L T n p s = 0 ∨ pkf L T n p s = 1 ∨ pkf L T n p s = 2 := by
  unfold pkf
  by_cases c : isN T n p = true
  · rw [if_pos c]
    by_cases d : 0 ≤ frs L (t32 T n p) ∧ L 28 (frs L (t32 T n p)) = s
    · rw [if_pos d]; omega
    · rw [if_neg d]; omega
  · rw [if_neg c]; omega
theorem lso_b (T : Int → Int) (n p : Nat) : -1 ≤ lso T n p ∧ lso T n p ≤ 8 := by
  have st : ∀ (b : Bool) (x y : Int), (-1 ≤ x ∧ x ≤ 8) → (-1 ≤ y ∧ y ≤ 8) → -1 ≤ (if b = true then x else y) ∧ (if b = true then x else y) ≤ 8 := by
    intro b x y hx hy
    cases b with
    | true => exact hx
    | false => exact hy
  unfold lso
  exact st _ _ _ (by omega) (st _ _ _ (by omega) (st _ _ _ (by omega) (st _ _ _ (by omega) (st _ _ _ (by omega) (st _ _ _ (by omega) (st _ _ _ (by omega) (st _ _ _ (by omega) (st _ _ _ (by omega) (by omega)))))))))
theorem C_non {L : Lk} {T : Int → Int} {n p : Nat} {h : Hp} {s : Int} (B : KB T n h) (hp : p ≤ n) (H : CT T n p h) (N : NW L) (R : NC L h) (hs : s = 0 ∨ s = 1 ∨ s = 2) : (pkf L T n p s = 0 → F_rd_numberOfName 2 (J (csr s)) h = some (J (knb L T n p), h)) ∧ (¬ pkf L T n p s = 0 → ∃ h', F_rd_numberOfName 2 (J (csr s)) h = some (J (-1), h') ∧ FL (pkf L T n p s) (spn T n p : Nat) h h') := by
  have D := B.2.2.2
  have Q := B.1
  have c4 := H.2.2.2.1
  have n0 := N.1.1
  have hL := N.1.2
  have el := C_lso B hp H
  have gr7 : gR h 2 7 7 = some 24 := gR_e (DS_k D) (DS_r7 D)
  have gr8 : gR h 2 7 8 = some 25 := gR_e (DS_k D) (DS_r8 D)
  have cb : ∀ y, y = 0 ∨ y = 1 ∨ y = 2 → 1 ≤ csr y ∧ csr y ≤ 5 := fun y hy => by rcases hy with rfl | rfl | rfl <;> decide
  have ci : ∀ y, y = 0 ∨ y = 1 ∨ y = 2 → (csr y = csr s ↔ y = s) := fun y hy => by rcases hy with rfl | rfl | rfl <;> rcases hs with rfl | rfl | rfl <;> decide
  have csb := cb s hs
  unfold pkf knb F_rd_numberOfName
  rw [ck_e (DS_k D)]
  by_cases c : tso T n p = 0
  · have ef := C_fnam B hp H N R c
    rw [c] at c4
    by_cases d : lso T n p = -1
    · have y : isN T n p = true := decide_eq_true ⟨c, d⟩
      rw [if_pos y]
      rw [d] at el
      obtain ⟨r, hr⟩ : ∃ r, r = frs L (t32 T n p) := ⟨_, rfl⟩
      have fb := frs_b (x := t32 T n p) N
      rw [← hr] at fb ef ⊢
      by_cases k : 0 ≤ r
      · have fb2 := fb.2 k
        have v := R.2.2 r k fb2.1
        have nb := N.2 r k fb2.1
        have ea : aI h 100 24 (J r) = some (J (csr (L 28 r))) := by rw [aI_J (DS_k7 D) k (by rw [DS_n7 D]; omega) (by omega), v.2.1]
        have eb : aI h 100 25 (J r) = some (J (L 29 r)) := by rw [aI_J (DS_k8 D) k (by rw [DS_n8 D]; omega) (by omega), v.2.2]
        have cr := cb _ nb.2.1
        by_cases e : L 28 r = s
        · rw [if_pos ⟨k, e⟩]
          refine ⟨fun _ => ?_, fun z => absurd rfl z⟩
          rw [e] at ea
          try simp only [j_0, j_1, j_2, j_3, j_4, j_5, j_6, j_7, j_8, j_9, j_10, j_11, j_12, j_13, j_14, j_15, j_16, j_17, j_18, j_19, j_20, j_21, j_22, j_23, j_24, j_25, j_26, j_27, j_28, j_29, j_30, j_31, j_32, j_33, j_34, j_35, j_36, j_37, j_38, j_39, j_40, j_41, j_42, j_43, j_44, j_45, j_46, j_47, j_48, j_49, j_50, j_51, j_52, j_57, j_59, j_63, j_74, j_75, j_93, j_97, j_99, j_100, j_122, j_200, j_255, j_300, j_465, j_496, j_900, j_999, j_1000, j_65536, j_65537, j_99999, j_252645135, j_858993459, j_1431655765, k_0, k_1, k_27, k_32, k_74, k_75, k_100, k_1000, k_65537]
          simp (disch := first | with_reducible assumption | omega | trivial) only [↓bn_s1, ↓bd_s1, ↓ei_l1, ↓ei_r1, ↓bn_if, ↓ilt_1, ↓ilt_0, ↓ieq_1, ↓ieq_0, bn_s1, bd_s1, ei_l1, ei_r1, J_add, J_sub, J_mul, J_neg, J_lt, J_le, J_eq, dv_J, rm_J, if_pos, if_neg, ↓reduceIte, bitJ, shlJ, orJ, j_0, j_1, j_2, j_3, j_4, j_5, j_6, j_7, j_8, j_9, j_10, j_11, j_12, j_13, j_14, j_15, j_16, j_17, j_18, j_19, j_20, j_21, j_22, j_23, j_24, j_25, j_26, j_27, j_28, j_29, j_30, j_31, j_32, j_33, j_34, j_35, j_36, j_37, j_38, j_39, j_40, j_41, j_42, j_43, j_44, j_45, j_46, j_47, j_48, j_49, j_50, j_51, j_52, j_57, j_59, j_63, j_74, j_75, j_93, j_97, j_99, j_100, j_122, j_200, j_255, j_300, j_465, j_496, j_900, j_999, j_1000, j_65536, j_65537, j_99999, j_252645135, j_858993459, j_1431655765, k_0, k_1, k_27, k_32, k_74, k_75, k_100, k_1000, k_65537, d_i D, ↓d_i_b D, d_p D, ↓d_p_b D, d_r2 D, ↓d_r2_b D, tk_i Q, ↓tk_i_b Q, tk_p Q, ↓tk_p_b Q, tk_r Q, ↓tk_r_b Q, tk_l Q, ↓tk_l_b Q, tk_pl Q, ↓tk_pl_b Q, tk_a Q, ↓tk_a_b Q, c4, ↓bn_e (el), el, ↓bn_e (ef), ef, ↓bn_e (gr7), gr7, ↓bn_e (ea), ea, ↓bn_e (gr8), gr8, ↓bn_e (eb), eb]
        · rw [if_neg (fun z => e z.2)]
          refine ⟨fun z => by omega, fun _ => ?_⟩
          have ne : ¬ csr (L 28 r) = csr s := fun z => e ((ci _ nb.2.1).mp z)
          obtain ⟨g1, e1, q1⟩ := C_fail (x := 2) B hp H (by omega)
          refine ⟨g1, ?_, q1⟩
          try simp only [j_0, j_1, j_2, j_3, j_4, j_5, j_6, j_7, j_8, j_9, j_10, j_11, j_12, j_13, j_14, j_15, j_16, j_17, j_18, j_19, j_20, j_21, j_22, j_23, j_24, j_25, j_26, j_27, j_28, j_29, j_30, j_31, j_32, j_33, j_34, j_35, j_36, j_37, j_38, j_39, j_40, j_41, j_42, j_43, j_44, j_45, j_46, j_47, j_48, j_49, j_50, j_51, j_52, j_57, j_59, j_63, j_74, j_75, j_93, j_97, j_99, j_100, j_122, j_200, j_255, j_300, j_465, j_496, j_900, j_999, j_1000, j_65536, j_65537, j_99999, j_252645135, j_858993459, j_1431655765, k_0, k_1, k_27, k_32, k_74, k_75, k_100, k_1000, k_65537]
          simp (disch := first | with_reducible assumption | omega | trivial) only [↓bn_s1, ↓bd_s1, ↓ei_l1, ↓ei_r1, ↓bn_if, ↓ilt_1, ↓ilt_0, ↓ieq_1, ↓ieq_0, bn_s1, bd_s1, ei_l1, ei_r1, J_add, J_sub, J_mul, J_neg, J_lt, J_le, J_eq, dv_J, rm_J, if_pos, if_neg, ↓reduceIte, bitJ, shlJ, orJ, j_0, j_1, j_2, j_3, j_4, j_5, j_6, j_7, j_8, j_9, j_10, j_11, j_12, j_13, j_14, j_15, j_16, j_17, j_18, j_19, j_20, j_21, j_22, j_23, j_24, j_25, j_26, j_27, j_28, j_29, j_30, j_31, j_32, j_33, j_34, j_35, j_36, j_37, j_38, j_39, j_40, j_41, j_42, j_43, j_44, j_45, j_46, j_47, j_48, j_49, j_50, j_51, j_52, j_57, j_59, j_63, j_74, j_75, j_93, j_97, j_99, j_100, j_122, j_200, j_255, j_300, j_465, j_496, j_900, j_999, j_1000, j_65536, j_65537, j_99999, j_252645135, j_858993459, j_1431655765, k_0, k_1, k_27, k_32, k_74, k_75, k_100, k_1000, k_65537, d_i D, ↓d_i_b D, d_p D, ↓d_p_b D, d_r2 D, ↓d_r2_b D, tk_i Q, ↓tk_i_b Q, tk_p Q, ↓tk_p_b Q, tk_r Q, ↓tk_r_b Q, tk_l Q, ↓tk_l_b Q, tk_pl Q, ↓tk_pl_b Q, tk_a Q, ↓tk_a_b Q, c4, ↓bn_e (el), el, ↓bn_e (ef), ef, ↓bn_e (gr7), gr7, ↓bn_e (ea), ea, ↓bd_e (e1), e1]
      · rw [if_neg (fun z => k z.1)]
        refine ⟨fun z => by omega, fun _ => ?_⟩
        obtain ⟨g1, e1, q1⟩ := C_fail (x := 2) B hp H (by omega)
        refine ⟨g1, ?_, q1⟩
        try simp only [j_0, j_1, j_2, j_3, j_4, j_5, j_6, j_7, j_8, j_9, j_10, j_11, j_12, j_13, j_14, j_15, j_16, j_17, j_18, j_19, j_20, j_21, j_22, j_23, j_24, j_25, j_26, j_27, j_28, j_29, j_30, j_31, j_32, j_33, j_34, j_35, j_36, j_37, j_38, j_39, j_40, j_41, j_42, j_43, j_44, j_45, j_46, j_47, j_48, j_49, j_50, j_51, j_52, j_57, j_59, j_63, j_74, j_75, j_93, j_97, j_99, j_100, j_122, j_200, j_255, j_300, j_465, j_496, j_900, j_999, j_1000, j_65536, j_65537, j_99999, j_252645135, j_858993459, j_1431655765, k_0, k_1, k_27, k_32, k_74, k_75, k_100, k_1000, k_65537]
        simp (disch := first | with_reducible assumption | omega | trivial) only [↓bn_s1, ↓bd_s1, ↓ei_l1, ↓ei_r1, ↓bn_if, ↓ilt_1, ↓ilt_0, ↓ieq_1, ↓ieq_0, bn_s1, bd_s1, ei_l1, ei_r1, J_add, J_sub, J_mul, J_neg, J_lt, J_le, J_eq, dv_J, rm_J, if_pos, if_neg, ↓reduceIte, bitJ, shlJ, orJ, j_0, j_1, j_2, j_3, j_4, j_5, j_6, j_7, j_8, j_9, j_10, j_11, j_12, j_13, j_14, j_15, j_16, j_17, j_18, j_19, j_20, j_21, j_22, j_23, j_24, j_25, j_26, j_27, j_28, j_29, j_30, j_31, j_32, j_33, j_34, j_35, j_36, j_37, j_38, j_39, j_40, j_41, j_42, j_43, j_44, j_45, j_46, j_47, j_48, j_49, j_50, j_51, j_52, j_57, j_59, j_63, j_74, j_75, j_93, j_97, j_99, j_100, j_122, j_200, j_255, j_300, j_465, j_496, j_900, j_999, j_1000, j_65536, j_65537, j_99999, j_252645135, j_858993459, j_1431655765, k_0, k_1, k_27, k_32, k_74, k_75, k_100, k_1000, k_65537, d_i D, ↓d_i_b D, d_p D, ↓d_p_b D, d_r2 D, ↓d_r2_b D, tk_i Q, ↓tk_i_b Q, tk_p Q, ↓tk_p_b Q, tk_r Q, ↓tk_r_b Q, tk_l Q, ↓tk_l_b Q, tk_pl Q, ↓tk_pl_b Q, tk_a Q, ↓tk_a_b Q, c4, ↓bn_e (el), el, ↓bn_e (ef), ef, ↓bd_e (e1), e1]
    · have y : ¬ isN T n p = true := fun z => d (of_decide_eq_true z).2
      rw [if_neg y]
      refine ⟨fun z => by omega, fun _ => ?_⟩
      have lb : -1 ≤ lso T n p ∧ lso T n p ≤ 8 := lso_b T n p
      obtain ⟨g1, e1, q1⟩ := C_fail (x := 1) B hp H (by omega)
      refine ⟨g1, ?_, q1⟩
      try simp only [j_0, j_1, j_2, j_3, j_4, j_5, j_6, j_7, j_8, j_9, j_10, j_11, j_12, j_13, j_14, j_15, j_16, j_17, j_18, j_19, j_20, j_21, j_22, j_23, j_24, j_25, j_26, j_27, j_28, j_29, j_30, j_31, j_32, j_33, j_34, j_35, j_36, j_37, j_38, j_39, j_40, j_41, j_42, j_43, j_44, j_45, j_46, j_47, j_48, j_49, j_50, j_51, j_52, j_57, j_59, j_63, j_74, j_75, j_93, j_97, j_99, j_100, j_122, j_200, j_255, j_300, j_465, j_496, j_900, j_999, j_1000, j_65536, j_65537, j_99999, j_252645135, j_858993459, j_1431655765, k_0, k_1, k_27, k_32, k_74, k_75, k_100, k_1000, k_65537]
      simp (disch := first | with_reducible assumption | omega | trivial) only [↓bn_s1, ↓bd_s1, ↓ei_l1, ↓ei_r1, ↓bn_if, ↓ilt_1, ↓ilt_0, ↓ieq_1, ↓ieq_0, bn_s1, bd_s1, ei_l1, ei_r1, J_add, J_sub, J_mul, J_neg, J_lt, J_le, J_eq, dv_J, rm_J, if_pos, if_neg, ↓reduceIte, bitJ, shlJ, orJ, j_0, j_1, j_2, j_3, j_4, j_5, j_6, j_7, j_8, j_9, j_10, j_11, j_12, j_13, j_14, j_15, j_16, j_17, j_18, j_19, j_20, j_21, j_22, j_23, j_24, j_25, j_26, j_27, j_28, j_29, j_30, j_31, j_32, j_33, j_34, j_35, j_36, j_37, j_38, j_39, j_40, j_41, j_42, j_43, j_44, j_45, j_46, j_47, j_48, j_49, j_50, j_51, j_52, j_57, j_59, j_63, j_74, j_75, j_93, j_97, j_99, j_100, j_122, j_200, j_255, j_300, j_465, j_496, j_900, j_999, j_1000, j_65536, j_65537, j_99999, j_252645135, j_858993459, j_1431655765, k_0, k_1, k_27, k_32, k_74, k_75, k_100, k_1000, k_65537, d_i D, ↓d_i_b D, d_p D, ↓d_p_b D, d_r2 D, ↓d_r2_b D, tk_i Q, ↓tk_i_b Q, tk_p Q, ↓tk_p_b Q, tk_r Q, ↓tk_r_b Q, tk_l Q, ↓tk_l_b Q, tk_pl Q, ↓tk_pl_b Q, tk_a Q, ↓tk_a_b Q, c4, ↓bn_e (el), el, ↓bd_e (e1), e1]
  · have y : ¬ isN T n p = true := fun z => c (of_decide_eq_true z).1
    rw [if_neg y]
    refine ⟨fun z => by omega, fun _ => ?_⟩
    have fr := fi_rg h 3 4
    rw [c4] at fr
    obtain ⟨g1, e1, q1⟩ := C_fail (x := 1) B hp H (by omega)
    refine ⟨g1, ?_, q1⟩
    try simp only [j_0, j_1, j_2, j_3, j_4, j_5, j_6, j_7, j_8, j_9, j_10, j_11, j_12, j_13, j_14, j_15, j_16, j_17, j_18, j_19, j_20, j_21, j_22, j_23, j_24, j_25, j_26, j_27, j_28, j_29, j_30, j_31, j_32, j_33, j_34, j_35, j_36, j_37, j_38, j_39, j_40, j_41, j_42, j_43, j_44, j_45, j_46, j_47, j_48, j_49, j_50, j_51, j_52, j_57, j_59, j_63, j_74, j_75, j_93, j_97, j_99, j_100, j_122, j_200, j_255, j_300, j_465, j_496, j_900, j_999, j_1000, j_65536, j_65537, j_99999, j_252645135, j_858993459, j_1431655765, k_0, k_1, k_27, k_32, k_74, k_75, k_100, k_1000, k_65537]
    simp (disch := first | with_reducible assumption | omega | trivial) only [↓bn_s1, ↓bd_s1, ↓ei_l1, ↓ei_r1, ↓bn_if, ↓ilt_1, ↓ilt_0, ↓ieq_1, ↓ieq_0, bn_s1, bd_s1, ei_l1, ei_r1, J_add, J_sub, J_mul, J_neg, J_lt, J_le, J_eq, dv_J, rm_J, if_pos, if_neg, ↓reduceIte, bitJ, shlJ, orJ, j_0, j_1, j_2, j_3, j_4, j_5, j_6, j_7, j_8, j_9, j_10, j_11, j_12, j_13, j_14, j_15, j_16, j_17, j_18, j_19, j_20, j_21, j_22, j_23, j_24, j_25, j_26, j_27, j_28, j_29, j_30, j_31, j_32, j_33, j_34, j_35, j_36, j_37, j_38, j_39, j_40, j_41, j_42, j_43, j_44, j_45, j_46, j_47, j_48, j_49, j_50, j_51, j_52, j_57, j_59, j_63, j_74, j_75, j_93, j_97, j_99, j_100, j_122, j_200, j_255, j_300, j_465, j_496, j_900, j_999, j_1000, j_65536, j_65537, j_99999, j_252645135, j_858993459, j_1431655765, k_0, k_1, k_27, k_32, k_74, k_75, k_100, k_1000, k_65537, d_i D, ↓d_i_b D, d_p D, ↓d_p_b D, d_r2 D, ↓d_r2_b D, tk_i Q, ↓tk_i_b Q, tk_p Q, ↓tk_p_b Q, tk_r Q, ↓tk_r_b Q, tk_l Q, ↓tk_l_b Q, tk_pl Q, ↓tk_pl_b Q, tk_a Q, ↓tk_a_b Q, c4, ↓bd_e (e1), e1]
