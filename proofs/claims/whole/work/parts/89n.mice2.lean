/-! Euclid -/
def eg : Nat → Int → Int → Int
  | 0, x, _ => x
  | k + 1, x, y => if y = 0 then x else eg k y (x % y)
theorem eg_pos : ∀ (k : Nat) (x y : Int), 0 < x → 0 ≤ y → 0 < eg k x y := by
  intro k
  induction k with
  | zero => intro x y hx _; exact hx
  | succ k ih =>
    intro x y hx hy
    unfold eg
    by_cases c : y = 0
    · rw [if_pos c]; exact hx
    · rw [if_neg c]; exact ih y (x % y) (by omega) (Int.emod_nonneg _ c)
theorem eg_le : ∀ (k : Nat) (x y B : Int), 0 ≤ x → x ≤ B → 0 ≤ y → y ≤ B → 0 ≤ eg k x y ∧ eg k x y ≤ B := by
  intro k
  induction k with
  | zero => intro x y B h1 h2 _ _; exact ⟨h1, h2⟩
  | succ k ih =>
    intro x y B h1 h2 h3 h4
    unfold eg
    by_cases c : y = 0
    · rw [if_pos c]; exact ⟨h1, h2⟩
    · rw [if_neg c]
      have := Int.emod_nonneg x c
      have := Int.emod_lt_of_pos x (show 0 < y by omega)
      exact ih y (x % y) B h3 h4 (by omega) (by omega)
theorem rmK {x y : Int} (h1 : 0 ≤ x) (h2 : x < 4000000000000000000) (h3 : 0 < y) (h4 : y < 4000000000000000000) : rm64 (K x) (K y) = some (K (x % y)) := by
  rw [rm_K (by omega) (by omega) h3 (by omega), Int.tmod_eq_emod_of_nonneg h1]
theorem lgc0 {y : Int} (h1 : 0 ≤ y) (h2 : y < 4000000000000000000) : (lg_cmp (K y) (K 0) = J 0) = (y = 0) := by
  rw [lgc (by omega) (by omega) (by omega) (by omega)]
  by_cases c : y = 0
  · rw [if_neg (by omega), if_pos c]; exact propext ⟨fun _ => c, fun _ => rfl⟩
  · rw [if_pos (by omega)]
    exact propext ⟨fun x => by have : ¬ J 1 = J 0 := J10; exact absurd x this, fun x => absurd x c⟩
theorem C_cd : ∀ (k f : Nat) (x y : Int) (s : Nat), s + k = 100 → k < f → 0 ≤ x → x < 4000000000000000000 → 0 ≤ y → y < 4000000000000000000 → lq B_cs_commonDivisor_9 f (K x, K y, J s) = some (K (eg k x y)) := by
  intro k
  induction k with
  | zero =>
    intro f x y s hs hf h1 h2 h3 h4
    obtain ⟨f, rfl⟩ : ∃ g, f = g + 1 := ⟨f - 1, by omega⟩
    have e : B_cs_commonDivisor_9 (K x, K y, J s) = some (.inr (K x)) := by
      unfold B_cs_commonDivisor_9
      try simp only [j_0, j_1, j_2, j_3, j_4, j_5, j_6, j_7, j_8, j_9, j_10, j_11, j_12, j_13, j_14, j_15, j_16, j_17, j_18, j_19, j_20, j_21, j_22, j_23, j_24, j_25, j_26, j_27, j_28, j_29, j_30, j_31, j_32, j_33, j_34, j_35, j_36, j_37, j_38, j_39, j_40, j_41, j_42, j_43, j_44, j_45, j_46, j_47, j_48, j_49, j_50, j_51, j_52, j_57, j_59, j_63, j_74, j_75, j_93, j_97, j_99, j_100, j_122, j_200, j_255, j_300, j_465, j_496, j_900, j_999, j_1000, j_65536, j_65537, j_99999, j_252645135, j_858993459, j_1431655765, k_0, k_1, k_27, k_32, k_74, k_75, k_100, k_1000, k_65537]
      simp (disch := first | with_reducible assumption | omega | trivial) only [↓bn_s1, ↓bd_s1, ↓ei_l1, ↓ei_r1, ↓bn_if, ↓ilt_1, ↓ilt_0, ↓ieq_1, ↓ieq_0, bn_s1, bd_s1, ei_l1, ei_r1, J_add, J_sub, J_mul, J_neg, J_lt, J_le, J_eq, dv_J, rm_J, if_pos, if_neg, ↓reduceIte, bitJ, shlJ, orJ, j_0, j_1, j_2, j_3, j_4, j_5, j_6, j_7, j_8, j_9, j_10, j_11, j_12, j_13, j_14, j_15, j_16, j_17, j_18, j_19, j_20, j_21, j_22, j_23, j_24, j_25, j_26, j_27, j_28, j_29, j_30, j_31, j_32, j_33, j_34, j_35, j_36, j_37, j_38, j_39, j_40, j_41, j_42, j_43, j_44, j_45, j_46, j_47, j_48, j_49, j_50, j_51, j_52, j_57, j_59, j_63, j_74, j_75, j_93, j_97, j_99, j_100, j_122, j_200, j_255, j_300, j_465, j_496, j_900, j_999, j_1000, j_65536, j_65537, j_99999, j_252645135, j_858993459, j_1431655765, k_0, k_1, k_27, k_32, k_74, k_75, k_100, k_1000, k_65537]
    unfold lq
    rw [e]
    rfl
  | succ k ih =>
    intro f x y s hs hf h1 h2 h3 h4
    obtain ⟨f, rfl⟩ : ∃ g, f = g + 1 := ⟨f - 1, by omega⟩
    have l0 := lgc0 h3 h4
    unfold eg
    by_cases c : y = 0
    · rw [if_pos c]
      have e : B_cs_commonDivisor_9 (K x, K y, J s) = some (.inr (K x)) := by
        unfold B_cs_commonDivisor_9
        try simp only [j_0, j_1, j_2, j_3, j_4, j_5, j_6, j_7, j_8, j_9, j_10, j_11, j_12, j_13, j_14, j_15, j_16, j_17, j_18, j_19, j_20, j_21, j_22, j_23, j_24, j_25, j_26, j_27, j_28, j_29, j_30, j_31, j_32, j_33, j_34, j_35, j_36, j_37, j_38, j_39, j_40, j_41, j_42, j_43, j_44, j_45, j_46, j_47, j_48, j_49, j_50, j_51, j_52, j_57, j_59, j_63, j_74, j_75, j_93, j_97, j_99, j_100, j_122, j_200, j_255, j_300, j_465, j_496, j_900, j_999, j_1000, j_65536, j_65537, j_99999, j_252645135, j_858993459, j_1431655765, k_0, k_1, k_27, k_32, k_74, k_75, k_100, k_1000, k_65537]
        simp (disch := first | with_reducible assumption | omega | trivial) only [↓bn_s1, ↓bd_s1, ↓ei_l1, ↓ei_r1, ↓bn_if, ↓ilt_1, ↓ilt_0, ↓ieq_1, ↓ieq_0, bn_s1, bd_s1, ei_l1, ei_r1, J_add, J_sub, J_mul, J_neg, J_lt, J_le, J_eq, dv_J, rm_J, if_pos, if_neg, ↓reduceIte, bitJ, shlJ, orJ, j_0, j_1, j_2, j_3, j_4, j_5, j_6, j_7, j_8, j_9, j_10, j_11, j_12, j_13, j_14, j_15, j_16, j_17, j_18, j_19, j_20, j_21, j_22, j_23, j_24, j_25, j_26, j_27, j_28, j_29, j_30, j_31, j_32, j_33, j_34, j_35, j_36, j_37, j_38, j_39, j_40, j_41, j_42, j_43, j_44, j_45, j_46, j_47, j_48, j_49, j_50, j_51, j_52, j_57, j_59, j_63, j_74, j_75, j_93, j_97, j_99, j_100, j_122, j_200, j_255, j_300, j_465, j_496, j_900, j_999, j_1000, j_65536, j_65537, j_99999, j_252645135, j_858993459, j_1431655765, k_0, k_1, k_27, k_32, k_74, k_75, k_100, k_1000, k_65537, l0, c]
      unfold lq
      rw [e]
    · rw [if_neg c]
      have em := rmK h1 h2 (show 0 < y by omega) h4
      have e : B_cs_commonDivisor_9 (K x, K y, J s) = some (.inl (K y, K (x % y), J (s + 1 : Nat))) := by
        unfold B_cs_commonDivisor_9
        try simp only [j_0, j_1, j_2, j_3, j_4, j_5, j_6, j_7, j_8, j_9, j_10, j_11, j_12, j_13, j_14, j_15, j_16, j_17, j_18, j_19, j_20, j_21, j_22, j_23, j_24, j_25, j_26, j_27, j_28, j_29, j_30, j_31, j_32, j_33, j_34, j_35, j_36, j_37, j_38, j_39, j_40, j_41, j_42, j_43, j_44, j_45, j_46, j_47, j_48, j_49, j_50, j_51, j_52, j_57, j_59, j_63, j_74, j_75, j_93, j_97, j_99, j_100, j_122, j_200, j_255, j_300, j_465, j_496, j_900, j_999, j_1000, j_65536, j_65537, j_99999, j_252645135, j_858993459, j_1431655765, k_0, k_1, k_27, k_32, k_74, k_75, k_100, k_1000, k_65537]
        simp (disch := first | with_reducible assumption | omega | trivial) only [↓bn_s1, ↓bd_s1, ↓ei_l1, ↓ei_r1, ↓bn_if, ↓ilt_1, ↓ilt_0, ↓ieq_1, ↓ieq_0, bn_s1, bd_s1, ei_l1, ei_r1, J_add, J_sub, J_mul, J_neg, J_lt, J_le, J_eq, dv_J, rm_J, if_pos, if_neg, ↓reduceIte, bitJ, shlJ, orJ, j_0, j_1, j_2, j_3, j_4, j_5, j_6, j_7, j_8, j_9, j_10, j_11, j_12, j_13, j_14, j_15, j_16, j_17, j_18, j_19, j_20, j_21, j_22, j_23, j_24, j_25, j_26, j_27, j_28, j_29, j_30, j_31, j_32, j_33, j_34, j_35, j_36, j_37, j_38, j_39, j_40, j_41, j_42, j_43, j_44, j_45, j_46, j_47, j_48, j_49, j_50, j_51, j_52, j_57, j_59, j_63, j_74, j_75, j_93, j_97, j_99, j_100, j_122, j_200, j_255, j_300, j_465, j_496, j_900, j_999, j_1000, j_65536, j_65537, j_99999, j_252645135, j_858993459, j_1431655765, k_0, k_1, k_27, k_32, k_74, k_75, k_100, k_1000, k_65537, l0, c, ↓bn_e (em), em]
        rfl
      have := Int.emod_nonneg x c
      have := Int.emod_lt_of_pos x (show 0 < y by omega)
      unfold lq
      rw [e]
      exact ih f y (x % y) (s + 1) (by omega) (by omega) h3 h4 (by omega) (by omega)
theorem lq_s {σ ρ : Type} {b : σ → Option (σ ⊕ ρ)} {f : Nat} {s s' : σ} (e : b s = some (.inl s')) : lq b (f + 1) s = lq b f s' := by
  show (match b s with | none => none | some (.inl s') => lq b f s' | some (.inr x) => some x) = _
  rw [e]
theorem D_cd : ∀ (k m f : Nat) (x y : Int), 2 * k ≤ m → 2 * k < f → 0 ≤ x → x < 4000000000000000000 → 0 ≤ y → y < 4000000000000000000 → y < 2 ^ k → lq B_md_common_6 f (K x, K y) = some (K (eg m x y)) := by
  have fin : ∀ (m f : Nat) (x : Int), 0 < f → lq B_md_common_6 f (K x, K 0) = some (K (eg m x 0)) := by
    intro m f x hf
    obtain ⟨f, rfl⟩ : ∃ g, f = g + 1 := ⟨f - 1, by omega⟩
    have e : B_md_common_6 (K x, K 0) = some (.inr (K x)) := by
      have l0 := lgc0 (y := 0) (by omega) (by omega)
      unfold B_md_common_6
      try simp only [j_0, j_1, j_2, j_3, j_4, j_5, j_6, j_7, j_8, j_9, j_10, j_11, j_12, j_13, j_14, j_15, j_16, j_17, j_18, j_19, j_20, j_21, j_22, j_23, j_24, j_25, j_26, j_27, j_28, j_29, j_30, j_31, j_32, j_33, j_34, j_35, j_36, j_37, j_38, j_39, j_40, j_41, j_42, j_43, j_44, j_45, j_46, j_47, j_48, j_49, j_50, j_51, j_52, j_57, j_59, j_63, j_74, j_75, j_93, j_97, j_99, j_100, j_122, j_200, j_255, j_300, j_465, j_496, j_900, j_999, j_1000, j_65536, j_65537, j_99999, j_252645135, j_858993459, j_1431655765, k_0, k_1, k_27, k_32, k_74, k_75, k_100, k_1000, k_65537]
      simp (disch := first | with_reducible assumption | omega | trivial) only [↓bn_s1, ↓bd_s1, ↓ei_l1, ↓ei_r1, ↓bn_if, ↓ilt_1, ↓ilt_0, ↓ieq_1, ↓ieq_0, bn_s1, bd_s1, ei_l1, ei_r1, J_add, J_sub, J_mul, J_neg, J_lt, J_le, J_eq, dv_J, rm_J, if_pos, if_neg, ↓reduceIte, bitJ, shlJ, orJ, j_0, j_1, j_2, j_3, j_4, j_5, j_6, j_7, j_8, j_9, j_10, j_11, j_12, j_13, j_14, j_15, j_16, j_17, j_18, j_19, j_20, j_21, j_22, j_23, j_24, j_25, j_26, j_27, j_28, j_29, j_30, j_31, j_32, j_33, j_34, j_35, j_36, j_37, j_38, j_39, j_40, j_41, j_42, j_43, j_44, j_45, j_46, j_47, j_48, j_49, j_50, j_51, j_52, j_57, j_59, j_63, j_74, j_75, j_93, j_97, j_99, j_100, j_122, j_200, j_255, j_300, j_465, j_496, j_900, j_999, j_1000, j_65536, j_65537, j_99999, j_252645135, j_858993459, j_1431655765, k_0, k_1, k_27, k_32, k_74, k_75, k_100, k_1000, k_65537, l0]
    have em : eg m x 0 = x := by
      cases m with
      | zero => rfl
      | succ m => unfold eg; rw [if_pos rfl]
    unfold lq
    rw [e, em]
  have stp : ∀ (f : Nat) (x y : Int), 0 ≤ x → x < 4000000000000000000 → 0 < y → y < 4000000000000000000 → lq B_md_common_6 (f + 1) (K x, K y) = lq B_md_common_6 f (K y, K (x % y)) := by
    intro f x y h1 h2 h3 h4
    have c : ¬ y = 0 := by omega
    have l0 := lgc0 (y := y) (by omega) h4
    have em := rmK h1 h2 h3 h4
    have e : B_md_common_6 (K x, K y) = some (.inl (K y, K (x % y))) := by
      unfold B_md_common_6
      try simp only [j_0, j_1, j_2, j_3, j_4, j_5, j_6, j_7, j_8, j_9, j_10, j_11, j_12, j_13, j_14, j_15, j_16, j_17, j_18, j_19, j_20, j_21, j_22, j_23, j_24, j_25, j_26, j_27, j_28, j_29, j_30, j_31, j_32, j_33, j_34, j_35, j_36, j_37, j_38, j_39, j_40, j_41, j_42, j_43, j_44, j_45, j_46, j_47, j_48, j_49, j_50, j_51, j_52, j_57, j_59, j_63, j_74, j_75, j_93, j_97, j_99, j_100, j_122, j_200, j_255, j_300, j_465, j_496, j_900, j_999, j_1000, j_65536, j_65537, j_99999, j_252645135, j_858993459, j_1431655765, k_0, k_1, k_27, k_32, k_74, k_75, k_100, k_1000, k_65537]
      simp (disch := first | with_reducible assumption | omega | trivial) only [↓bn_s1, ↓bd_s1, ↓ei_l1, ↓ei_r1, ↓bn_if, ↓ilt_1, ↓ilt_0, ↓ieq_1, ↓ieq_0, bn_s1, bd_s1, ei_l1, ei_r1, J_add, J_sub, J_mul, J_neg, J_lt, J_le, J_eq, dv_J, rm_J, if_pos, if_neg, ↓reduceIte, bitJ, shlJ, orJ, j_0, j_1, j_2, j_3, j_4, j_5, j_6, j_7, j_8, j_9, j_10, j_11, j_12, j_13, j_14, j_15, j_16, j_17, j_18, j_19, j_20, j_21, j_22, j_23, j_24, j_25, j_26, j_27, j_28, j_29, j_30, j_31, j_32, j_33, j_34, j_35, j_36, j_37, j_38, j_39, j_40, j_41, j_42, j_43, j_44, j_45, j_46, j_47, j_48, j_49, j_50, j_51, j_52, j_57, j_59, j_63, j_74, j_75, j_93, j_97, j_99, j_100, j_122, j_200, j_255, j_300, j_465, j_496, j_900, j_999, j_1000, j_65536, j_65537, j_99999, j_252645135, j_858993459, j_1431655765, k_0, k_1, k_27, k_32, k_74, k_75, k_100, k_1000, k_65537, l0, c, ↓bn_e (em), em]
    exact lq_s e
  intro k
  induction k with
  | zero =>
    intro m f x y hm hf h1 h2 h3 h4 h5
    have : y = 0 := by
      have e : (2 : Int) ^ 0 = 1 := rfl
      omega
    subst this
    exact fin m f x (by omega)
  | succ k ih =>
    intro m f x y hm hf h1 h2 h3 h4 h5
    by_cases c : y = 0
    · subst c; exact fin m f x (by omega)
    · obtain ⟨f, rfl⟩ : ∃ g, f = g + 1 := ⟨f - 1, by omega⟩
      obtain ⟨m, rfl⟩ : ∃ g, m = g + 1 := ⟨m - 1, by omega⟩
      have r0 := Int.emod_nonneg x c
      have r1 := Int.emod_lt_of_pos x (show 0 < y by omega)
      rw [stp f x y h1 h2 (by omega) h4]
      have e1 : eg (m + 1) x y = eg m y (x % y) := by
        show (if y = 0 then x else eg m y (x % y)) = _
        rw [if_neg c]
      rw [e1]
      by_cases d : x % y = 0
      · rw [d]; exact fin m f y (by omega)
      · obtain ⟨f, rfl⟩ : ∃ g, f = g + 1 := ⟨f - 1, by omega⟩
        obtain ⟨m, rfl⟩ : ∃ g, m = g + 1 := ⟨m - 1, by omega⟩
        generalize x % y = r at r0 r1 d ⊢
        have s0 := Int.emod_nonneg y d
        have s1 := Int.emod_lt_of_pos y (show 0 < r by omega)
        rw [stp f y r h3 h4 (by omega) (by omega)]
        have e2 : eg (m + 1) y r = eg m r (y % r) := by
          show (if r = 0 then y else eg m r (y % r)) = _
          rw [if_neg d]
        rw [e2]
        have half : 2 * (y % r) < y := by
          have q := Int.mul_ediv_add_emod y r
          have q1 : 1 ≤ y / r := Int.le_ediv_of_mul_le (by omega) (by omega)
          have q2 : r * 1 ≤ r * (y / r) := Int.mul_le_mul_of_nonneg_left q1 (by omega)
          omega
        have p2 : (2 : Int) ^ (k + 1) = 2 ^ k * 2 := Int.pow_succ _ _
        exact ih m f r (y % r) (by omega) (by omega) (by omega) (by omega) (by omega) (by omega) (by omega)
def pfr (u b l : Int) : Int := (if l = 0 then u else b).tdiv (eg 100 u b)
theorem dvK {x y : Int} (h1 : 0 ≤ x) (h2 : x < 4000000000000000000) (h3 : 0 < y) (h4 : y < 4000000000000000000) : dv64 (K x) (K y) = some (K (x.tdiv y)) := dv_K (by omega) (by omega) h3 (by omega)
theorem C_partOf {u b l : Int} (hu : 0 ≤ u ∧ u < 1000000000000000) (hb : 0 < b ∧ b ≤ 100000000) (hl : l = 0 ∨ l = 1) : F_cs_partOf (K u) (K b) (J l) = some (K (pfr u b l)) := by
  have e1 := C_cd 100 FU u b 0 (by omega) (by unfold FU; omega) (by omega) (by omega) (by omega) (by omega)
  replace e1 : lq B_cs_commonDivisor_9 FU (K u, K b, J 0) = some (K (eg 100 u b)) := e1
  have gp : 0 < eg 100 u b := by
    have : eg 100 u b = eg 99 b (u % b) := by
      show (if b = 0 then u else eg 99 b (u % b)) = _
      rw [if_neg (by omega)]
    rw [this]
    exact eg_pos 99 b _ (by omega) (Int.emod_nonneg _ (by omega))
  have gl := eg_le 100 u b 1000000000000000 (by omega) (by omega) (by omega) (by omega)
  have e2 : F_cs_commonDivisor (K u) (K b) = some (K (eg 100 u b)) := by
    unfold F_cs_commonDivisor
    try simp only [j_0, j_1, j_2, j_3, j_4, j_5, j_6, j_7, j_8, j_9, j_10, j_11, j_12, j_13, j_14, j_15, j_16, j_17, j_18, j_19, j_20, j_21, j_22, j_23, j_24, j_25, j_26, j_27, j_28, j_29, j_30, j_31, j_32, j_33, j_34, j_35, j_36, j_37, j_38, j_39, j_40, j_41, j_42, j_43, j_44, j_45, j_46, j_47, j_48, j_49, j_50, j_51, j_52, j_57, j_59, j_63, j_74, j_75, j_93, j_97, j_99, j_100, j_122, j_200, j_255, j_300, j_465, j_496, j_900, j_999, j_1000, j_65536, j_65537, j_99999, j_252645135, j_858993459, j_1431655765, k_0, k_1, k_27, k_32, k_74, k_75, k_100, k_1000, k_65537]
    simp (disch := first | with_reducible assumption | omega | trivial) only [↓bn_s1, ↓bd_s1, ↓ei_l1, ↓ei_r1, ↓bn_if, ↓ilt_1, ↓ilt_0, ↓ieq_1, ↓ieq_0, bn_s1, bd_s1, ei_l1, ei_r1, J_add, J_sub, J_mul, J_neg, J_lt, J_le, J_eq, dv_J, rm_J, if_pos, if_neg, ↓reduceIte, bitJ, shlJ, orJ, j_0, j_1, j_2, j_3, j_4, j_5, j_6, j_7, j_8, j_9, j_10, j_11, j_12, j_13, j_14, j_15, j_16, j_17, j_18, j_19, j_20, j_21, j_22, j_23, j_24, j_25, j_26, j_27, j_28, j_29, j_30, j_31, j_32, j_33, j_34, j_35, j_36, j_37, j_38, j_39, j_40, j_41, j_42, j_43, j_44, j_45, j_46, j_47, j_48, j_49, j_50, j_51, j_52, j_57, j_59, j_63, j_74, j_75, j_93, j_97, j_99, j_100, j_122, j_200, j_255, j_300, j_465, j_496, j_900, j_999, j_1000, j_65536, j_65537, j_99999, j_252645135, j_858993459, j_1431655765, k_0, k_1, k_27, k_32, k_74, k_75, k_100, k_1000, k_65537, ↓bn_e (e1), e1]
  have lg := lgc (a := eg 100 u b) (b := 0) (by omega) (by omega) (by omega) (by omega)
  rw [if_pos gp] at lg
  have d1 := dvK hu.1 (show u < 4000000000000000000 by omega) gp (by omega)
  have d2 := dvK (x := b) (by omega) (by omega) gp (by omega)
  unfold F_cs_partOf pfr
  cases hl with
  | inl e =>
    rw [e, if_pos (show (0 : Int) = 0 from rfl)]
    try simp only [j_0, j_1, j_2, j_3, j_4, j_5, j_6, j_7, j_8, j_9, j_10, j_11, j_12, j_13, j_14, j_15, j_16, j_17, j_18, j_19, j_20, j_21, j_22, j_23, j_24, j_25, j_26, j_27, j_28, j_29, j_30, j_31, j_32, j_33, j_34, j_35, j_36, j_37, j_38, j_39, j_40, j_41, j_42, j_43, j_44, j_45, j_46, j_47, j_48, j_49, j_50, j_51, j_52, j_57, j_59, j_63, j_74, j_75, j_93, j_97, j_99, j_100, j_122, j_200, j_255, j_300, j_465, j_496, j_900, j_999, j_1000, j_65536, j_65537, j_99999, j_252645135, j_858993459, j_1431655765, k_0, k_1, k_27, k_32, k_74, k_75, k_100, k_1000, k_65537]
    simp (disch := first | with_reducible assumption | omega | trivial) only [↓bn_s1, ↓bd_s1, ↓ei_l1, ↓ei_r1, ↓bn_if, ↓ilt_1, ↓ilt_0, ↓ieq_1, ↓ieq_0, bn_s1, bd_s1, ei_l1, ei_r1, J_add, J_sub, J_mul, J_neg, J_lt, J_le, J_eq, dv_J, rm_J, if_pos, if_neg, ↓reduceIte, bitJ, shlJ, orJ, j_0, j_1, j_2, j_3, j_4, j_5, j_6, j_7, j_8, j_9, j_10, j_11, j_12, j_13, j_14, j_15, j_16, j_17, j_18, j_19, j_20, j_21, j_22, j_23, j_24, j_25, j_26, j_27, j_28, j_29, j_30, j_31, j_32, j_33, j_34, j_35, j_36, j_37, j_38, j_39, j_40, j_41, j_42, j_43, j_44, j_45, j_46, j_47, j_48, j_49, j_50, j_51, j_52, j_57, j_59, j_63, j_74, j_75, j_93, j_97, j_99, j_100, j_122, j_200, j_255, j_300, j_465, j_496, j_900, j_999, j_1000, j_65536, j_65537, j_99999, j_252645135, j_858993459, j_1431655765, k_0, k_1, k_27, k_32, k_74, k_75, k_100, k_1000, k_65537, ↓bn_e (e2), e2, lg, ↓bn_e (d1), d1]
  | inr e =>
    rw [e, if_neg (show ¬ (1 : Int) = 0 by omega)]
    try simp only [j_0, j_1, j_2, j_3, j_4, j_5, j_6, j_7, j_8, j_9, j_10, j_11, j_12, j_13, j_14, j_15, j_16, j_17, j_18, j_19, j_20, j_21, j_22, j_23, j_24, j_25, j_26, j_27, j_28, j_29, j_30, j_31, j_32, j_33, j_34, j_35, j_36, j_37, j_38, j_39, j_40, j_41, j_42, j_43, j_44, j_45, j_46, j_47, j_48, j_49, j_50, j_51, j_52, j_57, j_59, j_63, j_74, j_75, j_93, j_97, j_99, j_100, j_122, j_200, j_255, j_300, j_465, j_496, j_900, j_999, j_1000, j_65536, j_65537, j_99999, j_252645135, j_858993459, j_1431655765, k_0, k_1, k_27, k_32, k_74, k_75, k_100, k_1000, k_65537]
    simp (disch := first | with_reducible assumption | omega | trivial) only [↓bn_s1, ↓bd_s1, ↓ei_l1, ↓ei_r1, ↓bn_if, ↓ilt_1, ↓ilt_0, ↓ieq_1, ↓ieq_0, bn_s1, bd_s1, ei_l1, ei_r1, J_add, J_sub, J_mul, J_neg, J_lt, J_le, J_eq, dv_J, rm_J, if_pos, if_neg, ↓reduceIte, bitJ, shlJ, orJ, j_0, j_1, j_2, j_3, j_4, j_5, j_6, j_7, j_8, j_9, j_10, j_11, j_12, j_13, j_14, j_15, j_16, j_17, j_18, j_19, j_20, j_21, j_22, j_23, j_24, j_25, j_26, j_27, j_28, j_29, j_30, j_31, j_32, j_33, j_34, j_35, j_36, j_37, j_38, j_39, j_40, j_41, j_42, j_43, j_44, j_45, j_46, j_47, j_48, j_49, j_50, j_51, j_52, j_57, j_59, j_63, j_74, j_75, j_93, j_97, j_99, j_100, j_122, j_200, j_255, j_300, j_465, j_496, j_900, j_999, j_1000, j_65536, j_65537, j_99999, j_252645135, j_858993459, j_1431655765, k_0, k_1, k_27, k_32, k_74, k_75, k_100, k_1000, k_65537, ↓bn_e (e2), e2, lg, ↓bn_e (d2), d2]
theorem D_fraction {h : Hp} {u b l : Int} (k : kd h 88 = 13) (hu : 0 ≤ u ∧ u < 1000000000000000) (hb : 0 < b ∧ b ≤ 100000000) (hl : l = 0 ∨ l = 1) : F_md_fraction 88 (K u) (K b) (J l) h = some (K (pfr u b l), wF (wF h 88 1 0) 88 2 (-1)) := by
  have e1 := D_cd 27 100 FU u b (by omega) (by unfold FU; omega) (by omega) (by omega) (by omega) (by omega) (by rw [show (2 : Int) ^ 27 = 134217728 by decide]; omega)
  have gp : 0 < eg 100 u b := by
    have : eg 100 u b = eg 99 b (u % b) := by
      show (if b = 0 then u else eg 99 b (u % b)) = _
      rw [if_neg (by omega)]
    rw [this]
    exact eg_pos 99 b _ (by omega) (Int.emod_nonneg _ (by omega))
  have gl := eg_le 100 u b 1000000000000000 (by omega) (by omega) (by omega) (by omega)
  have e2 : F_md_common (K u) (K b) = some (K (eg 100 u b)) := by
    unfold F_md_common
    try simp only [j_0, j_1, j_2, j_3, j_4, j_5, j_6, j_7, j_8, j_9, j_10, j_11, j_12, j_13, j_14, j_15, j_16, j_17, j_18, j_19, j_20, j_21, j_22, j_23, j_24, j_25, j_26, j_27, j_28, j_29, j_30, j_31, j_32, j_33, j_34, j_35, j_36, j_37, j_38, j_39, j_40, j_41, j_42, j_43, j_44, j_45, j_46, j_47, j_48, j_49, j_50, j_51, j_52, j_57, j_59, j_63, j_74, j_75, j_93, j_97, j_99, j_100, j_122, j_200, j_255, j_300, j_465, j_496, j_900, j_999, j_1000, j_65536, j_65537, j_99999, j_252645135, j_858993459, j_1431655765, k_0, k_1, k_27, k_32, k_74, k_75, k_100, k_1000, k_65537]
    simp (disch := first | with_reducible assumption | omega | trivial) only [↓bn_s1, ↓bd_s1, ↓ei_l1, ↓ei_r1, ↓bn_if, ↓ilt_1, ↓ilt_0, ↓ieq_1, ↓ieq_0, bn_s1, bd_s1, ei_l1, ei_r1, J_add, J_sub, J_mul, J_neg, J_lt, J_le, J_eq, dv_J, rm_J, if_pos, if_neg, ↓reduceIte, bitJ, shlJ, orJ, j_0, j_1, j_2, j_3, j_4, j_5, j_6, j_7, j_8, j_9, j_10, j_11, j_12, j_13, j_14, j_15, j_16, j_17, j_18, j_19, j_20, j_21, j_22, j_23, j_24, j_25, j_26, j_27, j_28, j_29, j_30, j_31, j_32, j_33, j_34, j_35, j_36, j_37, j_38, j_39, j_40, j_41, j_42, j_43, j_44, j_45, j_46, j_47, j_48, j_49, j_50, j_51, j_52, j_57, j_59, j_63, j_74, j_75, j_93, j_97, j_99, j_100, j_122, j_200, j_255, j_300, j_465, j_496, j_900, j_999, j_1000, j_65536, j_65537, j_99999, j_252645135, j_858993459, j_1431655765, k_0, k_1, k_27, k_32, k_74, k_75, k_100, k_1000, k_65537, ↓bn_e (e1), e1]
  have d1 := dvK hu.1 (show u < 4000000000000000000 by omega) gp (by omega)
  have d2 := dvK (x := b) (by omega) (by omega) gp (by omega)
  have gg := D_good (y := 0) k
  unfold F_md_fraction pfr
  rw [ck_e k]
  cases hl with
  | inl e =>
    rw [e, if_pos (show (0 : Int) = 0 from rfl)]
    try simp only [j_0, j_1, j_2, j_3, j_4, j_5, j_6, j_7, j_8, j_9, j_10, j_11, j_12, j_13, j_14, j_15, j_16, j_17, j_18, j_19, j_20, j_21, j_22, j_23, j_24, j_25, j_26, j_27, j_28, j_29, j_30, j_31, j_32, j_33, j_34, j_35, j_36, j_37, j_38, j_39, j_40, j_41, j_42, j_43, j_44, j_45, j_46, j_47, j_48, j_49, j_50, j_51, j_52, j_57, j_59, j_63, j_74, j_75, j_93, j_97, j_99, j_100, j_122, j_200, j_255, j_300, j_465, j_496, j_900, j_999, j_1000, j_65536, j_65537, j_99999, j_252645135, j_858993459, j_1431655765, k_0, k_1, k_27, k_32, k_74, k_75, k_100, k_1000, k_65537]
    simp (disch := first | with_reducible assumption | omega | trivial) only [↓bn_s1, ↓bd_s1, ↓ei_l1, ↓ei_r1, ↓bn_if, ↓ilt_1, ↓ilt_0, ↓ieq_1, ↓ieq_0, bn_s1, bd_s1, ei_l1, ei_r1, J_add, J_sub, J_mul, J_neg, J_lt, J_le, J_eq, dv_J, rm_J, if_pos, if_neg, ↓reduceIte, bitJ, shlJ, orJ, j_0, j_1, j_2, j_3, j_4, j_5, j_6, j_7, j_8, j_9, j_10, j_11, j_12, j_13, j_14, j_15, j_16, j_17, j_18, j_19, j_20, j_21, j_22, j_23, j_24, j_25, j_26, j_27, j_28, j_29, j_30, j_31, j_32, j_33, j_34, j_35, j_36, j_37, j_38, j_39, j_40, j_41, j_42, j_43, j_44, j_45, j_46, j_47, j_48, j_49, j_50, j_51, j_52, j_57, j_59, j_63, j_74, j_75, j_93, j_97, j_99, j_100, j_122, j_200, j_255, j_300, j_465, j_496, j_900, j_999, j_1000, j_65536, j_65537, j_99999, j_252645135, j_858993459, j_1431655765, k_0, k_1, k_27, k_32, k_74, k_75, k_100, k_1000, k_65537, ↓bd_e (gg), gg, ↓bn_e (e2), e2, ↓bn_e (d1), d1]
  | inr e =>
    rw [e, if_neg (show ¬ (1 : Int) = 0 by omega)]
    try simp only [j_0, j_1, j_2, j_3, j_4, j_5, j_6, j_7, j_8, j_9, j_10, j_11, j_12, j_13, j_14, j_15, j_16, j_17, j_18, j_19, j_20, j_21, j_22, j_23, j_24, j_25, j_26, j_27, j_28, j_29, j_30, j_31, j_32, j_33, j_34, j_35, j_36, j_37, j_38, j_39, j_40, j_41, j_42, j_43, j_44, j_45, j_46, j_47, j_48, j_49, j_50, j_51, j_52, j_57, j_59, j_63, j_74, j_75, j_93, j_97, j_99, j_100, j_122, j_200, j_255, j_300, j_465, j_496, j_900, j_999, j_1000, j_65536, j_65537, j_99999, j_252645135, j_858993459, j_1431655765, k_0, k_1, k_27, k_32, k_74, k_75, k_100, k_1000, k_65537]
    simp (disch := first | with_reducible assumption | omega | trivial) only [↓bn_s1, ↓bd_s1, ↓ei_l1, ↓ei_r1, ↓bn_if, ↓ilt_1, ↓ilt_0, ↓ieq_1, ↓ieq_0, bn_s1, bd_s1, ei_l1, ei_r1, J_add, J_sub, J_mul, J_neg, J_lt, J_le, J_eq, dv_J, rm_J, if_pos, if_neg, ↓reduceIte, bitJ, shlJ, orJ, j_0, j_1, j_2, j_3, j_4, j_5, j_6, j_7, j_8, j_9, j_10, j_11, j_12, j_13, j_14, j_15, j_16, j_17, j_18, j_19, j_20, j_21, j_22, j_23, j_24, j_25, j_26, j_27, j_28, j_29, j_30, j_31, j_32, j_33, j_34, j_35, j_36, j_37, j_38, j_39, j_40, j_41, j_42, j_43, j_44, j_45, j_46, j_47, j_48, j_49, j_50, j_51, j_52, j_57, j_59, j_63, j_74, j_75, j_93, j_97, j_99, j_100, j_122, j_200, j_255, j_300, j_465, j_496, j_900, j_999, j_1000, j_65536, j_65537, j_99999, j_252645135, j_858993459, j_1431655765, k_0, k_1, k_27, k_32, k_74, k_75, k_100, k_1000, k_65537, ↓bd_e (gg), gg, ↓bn_e (e2), e2, ↓bn_e (d2), d2]
/-! bounds of the sums -/
theorem mdr_b {L : Lk} {S : Sk} {z : Int} (HL : LW L) {n : Nat} (hn' : n ≤ 4) (c : Nat) : 0 ≤ mdr L S z n c ∧ mdr L S z n c ≤ 100000000 := by
  have b0 := LW_mice HL
  have := shr_n b0.1 b0.2 c hn'
  unfold mdr
  by_cases d : mhg L S z n c < 0
  · rw [if_pos d]; omega
  · rw [if_neg d]; exact this
theorem p16 {n : Nat} (hn' : n ≤ 4) : 2 ^ n ≤ 16 := by
  have : 2 ^ n ≤ 2 ^ 4 := Nat.pow_le_pow_right (by decide) hn'
  omega
theorem mdr_s {L : Lk} {S : Sk} {z : Int} (HL : LW L) {n : Nat} (hn' : n ≤ 4) : 0 ≤ sm (2 ^ n) (fun c => mdr L S z n c) ∧ sm (2 ^ n) (fun c => mdr L S z n c) ≤ 1600000000 := by
  have p := p16 hn'
  have := sm_b (n := 2 ^ n) (f := fun c => mdr L S z n c) (a := 0) (b := 100000000) (fun i _ => mdr_b HL hn' i)
  generalize 2 ^ n = P at p this ⊢
  omega
theorem mlo_s {L : Lk} {S : Sk} {z : Int} (HL : LW L) (hW : CW 999 S) (h0 : 0 ≤ z) (h1 : z < L 1 0) {n : Nat} (hn' : n ≤ 4) : 0 ≤ sm (2 ^ n) (fun c => mlo L S z n c) ∧ sm (2 ^ n) (fun c => mlo L S z n c) ≤ 6400000000 := by
  have p := p16 hn'
  have b0 := LW_mice HL
  have b1 := LW_h HL
  have := sm_b (n := 2 ^ n) (f := fun c => mlo L S z n c) (a := 0) (b := 400000000) (fun i _ => by
    have s := shr_n b0.1 b0.2 i hn'
    have m := mcc_p h0 (show z < 5 by omega) hW i n
    show 0 ≤ mlo L S z n i ∧ mlo L S z n i ≤ 400000000
    unfold mlo
    have m4 : (mcc S z i n).2 ≤ 4 := by omega
    exact ⟨Int.mul_nonneg s.1 m.2.1, Int.le_trans (Int.mul_le_mul s.2 m4 m.2.1 (by omega)) (by omega)⟩)
  generalize 2 ^ n = P at p this ⊢
  omega
theorem sm_add (f g : Nat → Int) : ∀ n, sm n (fun c => f c + g c) = sm n f + sm n g := by
  intro n
  induction n with
  | zero => rfl
  | succ n ih => show sm n (fun c => f c + g c) + (f n + g n) = sm n f + f n + (sm n g + g n); omega
theorem sm_mul (k : Int) (f : Nat → Int) : ∀ n, sm n (fun c => k * f c) = k * sm n f := by
  intro n
  induction n with
  | zero => exact (Int.mul_zero k).symm
  | succ n ih =>
    show sm n (fun c => k * f c) + k * f n = k * (sm n f + f n)
    rw [ih, Int.mul_add]
theorem shr_sum {L : Lk} (HL : LW L) {n : Nat} (hn' : n ≤ 4) : sm (2 ^ n) (fun c => shr (L 0 0) c n) = 100 ^ n := by
  have b0 := LW_mice HL
  have := shr_s (L 0 0).toNat (by omega) n (by omega)
  rw [show (((L 0 0).toNat : Nat) : Int) = L 0 0 by omega] at this
  exact this
/-- the reference's sum of heights is the class's, and 1,000 for the whole -/
def mhr (L : Lk) (S : Sk) (z : Int) (n code : Nat) : Int := shr (L 0 0) code n * (1000 + mhg L S z n code)
theorem mhr_s {L : Lk} {S : Sk} {z : Int} (HL : LW L) {n : Nat} (hn' : n ≤ 4) : sm (2 ^ n) (fun c => mhr L S z n c) = sm (2 ^ n) (fun c => mhi L S z n c) + 1000 * 100 ^ n := by
  have e : (fun c => mhr L S z n c) = (fun c => mhi L S z n c + 1000 * shr (L 0 0) c n) := by
    funext c
    unfold mhr mhi
    rw [Int.mul_add, Int.mul_comm _ 1000]
    omega
  rw [e, sm_add, sm_mul, shr_sum HL hn']
theorem mhr_b {L : Lk} {S : Sk} {z : Int} (HL : LW L) (hW : CW 999 S) (h0 : 0 ≤ z) (h1 : z < L 1 0) {n : Nat} (hn' : n ≤ 4) : 0 ≤ sm (2 ^ n) (fun c => mhr L S z n c) ∧ sm (2 ^ n) (fun c => mhr L S z n c) ≤ 20782080000000 := by
  have p := p16 hn'
  have b0 := LW_mice HL
  have := sm_b (n := 2 ^ n) (f := fun c => mhr L S z n c) (a := 0) (b := 1298880000000) (fun i _ => by
    have s := shr_n b0.1 b0.2 i hn'
    have m := mhg_b HL hW h0 h1 n i
    show 0 ≤ mhr L S z n i ∧ mhr L S z n i ≤ 1298880000000
    unfold mhr
    exact ⟨Int.mul_nonneg s.1 (by omega), Int.le_trans (Int.mul_le_mul s.2 (show 1000 + mhg L S z n i ≤ 12988 by omega) (by omega) (by omega)) (by omega)⟩)
  generalize 2 ^ n = P at p this ⊢
  omega
theorem p100 {n : Nat} (hn' : n ≤ 4) : 0 < (100 : Int) ^ n ∧ (100 : Int) ^ n ≤ 100000000 := by
  have : n = 0 ∨ n = 1 ∨ n = 2 ∨ n = 3 ∨ n = 4 := by omega
  rcases this with e | e | e | e | e
  all_goals (rw [e]; decide)
