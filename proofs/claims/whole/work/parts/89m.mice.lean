/-! mice by chance: shares, one way, sums -/
theorem lgc {a b : Int} (h1 : -9223372036854775808 ≤ a) (h2 : a < 9223372036854775808) (h3 : -9223372036854775808 ≤ b) (h4 : b < 9223372036854775808) : lg_cmp (K a) (K b) = J (if b < a then 1 else if a = b then 0 else -1) := by
  unfold lg_cmp
  have e1 : (K a > K b) = (b < a) := K_lt h3 h4 h1 h2
  have e2 : (K a = K b) = (a = b) := K_eq h1 h2 h3 h4
  simp only [e1, e2]
  by_cases c : b < a
  · rw [if_pos c, if_pos c, j_1]
  · rw [if_neg c, if_neg c]
    by_cases d : a = b
    · rw [if_pos d, if_pos d, j_0]
    · rw [if_neg d, if_neg d, jm1]
theorem fLs (h : Hp) (a k : Nat) (v : Int) : fL (wG h a k v) a k = K v := by
  unfold wG; rw [fL_sFL, if_pos ⟨rfl, rfl⟩]
theorem fLn {h : Hp} {a b k j : Nat} {v : Int} (hn : b ≠ a ∨ j ≠ k) : fL (wG h a k v) b j = fL h b j := by
  unfold wG
  rw [fL_sFL, if_neg]
  rintro ⟨h1, h2⟩
  cases hn with
  | inl hn => exact hn h1
  | inr hn => exact hn h2
theorem fm_fL {lo hi : Nat} {h h' : Hp} (x : Fm lo hi h h') {a : Nat} (ha : a < lo ∨ hi ≤ a) (k : Nat) : fL h' a k = fL h a k := by rw [(x.2.2.2.2.2.2 a ha).2.1]
def shr (m : Int) (code : Nat) : Nat → Int
  | 0 => 1
  | k + 1 => shr m code k * (if code.testBit k = true then m else 100 - m)
theorem shr_b {m : Int} (h0 : 0 ≤ m) (h1 : m ≤ 100) (code : Nat) : (0 ≤ shr m code 0 ∧ shr m code 0 ≤ 1) ∧ (0 ≤ shr m code 1 ∧ shr m code 1 ≤ 100) ∧ (0 ≤ shr m code 2 ∧ shr m code 2 ≤ 10000) ∧ (0 ≤ shr m code 3 ∧ shr m code 3 ≤ 1000000) ∧ (0 ≤ shr m code 4 ∧ shr m code 4 ≤ 100000000) := by
  have step : ∀ (k : Nat) (B : Int), 0 ≤ shr m code k ∧ shr m code k ≤ B → 0 ≤ shr m code (k + 1) ∧ shr m code (k + 1) ≤ B * 100 := by
    intro k B hb
    show 0 ≤ shr m code k * (if code.testBit k = true then m else 100 - m) ∧ shr m code k * (if code.testBit k = true then m else 100 - m) ≤ B * 100
    have hm : 0 ≤ (if code.testBit k = true then m else 100 - m) ∧ (if code.testBit k = true then m else 100 - m) ≤ 100 := by
      by_cases c : code.testBit k = true
      · rw [if_pos c]; omega
      · rw [if_neg c]; omega
    exact ⟨Int.mul_nonneg hb.1 hm.1, Int.mul_le_mul hb.2 hm.2 hm.1 (by omega)⟩
  have s0 : 0 ≤ shr m code 0 ∧ shr m code 0 ≤ 1 := ⟨by show (0 : Int) ≤ 1; omega, Int.le_refl _⟩
  have s1 := step 0 1 s0
  have s2 := step 1 100 (by simpa using s1)
  have s3 := step 2 10000 (by simpa using s2)
  have s4 := step 3 1000000 (by simpa using s3)
  exact ⟨s0, by simpa using s1, by simpa using s2, by simpa using s3, by simpa using s4⟩
theorem shr_n {m : Int} (h0 : 0 ≤ m) (h1 : m ≤ 100) (code : Nat) {n : Nat} (hn : n ≤ 4) : 0 ≤ shr m code n ∧ shr m code n ≤ 100000000 := by
  have b := shr_b h0 h1 code
  have : n = 0 ∨ n = 1 ∨ n = 2 ∨ n = 3 ∨ n = 4 := by omega
  rcases this with e | e | e | e | e
  all_goals (rw [e]; omega)
theorem shr_s : ∀ m : Nat, m < 101 → ∀ n : Nat, n < 5 → sm (2 ^ n) (fun code => shr (m : Nat) code n) = 100 ^ n := by decide +kernel
theorem C_shareOf {m : Int} {code n : Nat} (h0 : 0 ≤ m) (h1 : m ≤ 100) (hc : code < 32) (hn : n ≤ 4) : F_mo_shareOf (J code) (J n) (J m) = some (K (shr m code n)) := by
  have el := lq_for (b := B_mo_shareOf_5 (J code) (J n) (J m)) (r := K (shr m code n)) (f := FU) (s := (K 1, J 0)) (fun k => (K (shr m code k), J k)) n (by unfold FU; omega) rfl (fun k hk => by
    have bb := bitJ (n := code) (k := k) hc (by omega)
    have l1 := J_long (a := 100 - m) (by omega) (by omega)
    have l2 := J_long (a := m) (by omega) (by omega)
    have e6 : shr m code (k + 1) = shr m code k * (if code.testBit k = true then m else 100 - m) := rfl
    unfold B_mo_shareOf_5
    by_cases c : code.testBit k = true
    · rw [if_pos c] at bb e6
      rw [e6]
      try simp only [j_0, j_1, j_2, j_3, j_4, j_5, j_6, j_7, j_8, j_9, j_10, j_11, j_12, j_13, j_14, j_15, j_16, j_17, j_18, j_19, j_20, j_21, j_22, j_23, j_24, j_25, j_26, j_27, j_28, j_29, j_30, j_31, j_32, j_33, j_34, j_35, j_36, j_37, j_38, j_39, j_40, j_41, j_42, j_43, j_44, j_45, j_46, j_47, j_48, j_49, j_50, j_51, j_52, j_57, j_59, j_63, j_74, j_75, j_93, j_97, j_99, j_100, j_122, j_200, j_255, j_300, j_465, j_496, j_900, j_999, j_1000, j_65536, j_65537, j_99999, j_252645135, j_858993459, j_1431655765, k_0, k_1, k_27, k_32, k_74, k_75, k_100, k_1000, k_65537]
      simp (disch := first | with_reducible assumption | omega | trivial) only [↓bn_s1, ↓bd_s1, ↓ei_l1, ↓ei_r1, ↓bn_if, ↓ilt_1, ↓ilt_0, ↓ieq_1, ↓ieq_0, bn_s1, bd_s1, ei_l1, ei_r1, J_add, J_sub, J_mul, J_neg, J_lt, J_le, J_eq, dv_J, rm_J, if_pos, if_neg, ↓reduceIte, bitJ, shlJ, orJ, j_0, j_1, j_2, j_3, j_4, j_5, j_6, j_7, j_8, j_9, j_10, j_11, j_12, j_13, j_14, j_15, j_16, j_17, j_18, j_19, j_20, j_21, j_22, j_23, j_24, j_25, j_26, j_27, j_28, j_29, j_30, j_31, j_32, j_33, j_34, j_35, j_36, j_37, j_38, j_39, j_40, j_41, j_42, j_43, j_44, j_45, j_46, j_47, j_48, j_49, j_50, j_51, j_52, j_57, j_59, j_63, j_74, j_75, j_93, j_97, j_99, j_100, j_122, j_200, j_255, j_300, j_465, j_496, j_900, j_999, j_1000, j_65536, j_65537, j_99999, j_252645135, j_858993459, j_1431655765, k_0, k_1, k_27, k_32, k_74, k_75, k_100, k_1000, k_65537, bb, l2, K_mul]
      rfl
    · rw [if_neg c] at bb e6
      rw [e6]
      try simp only [j_0, j_1, j_2, j_3, j_4, j_5, j_6, j_7, j_8, j_9, j_10, j_11, j_12, j_13, j_14, j_15, j_16, j_17, j_18, j_19, j_20, j_21, j_22, j_23, j_24, j_25, j_26, j_27, j_28, j_29, j_30, j_31, j_32, j_33, j_34, j_35, j_36, j_37, j_38, j_39, j_40, j_41, j_42, j_43, j_44, j_45, j_46, j_47, j_48, j_49, j_50, j_51, j_52, j_57, j_59, j_63, j_74, j_75, j_93, j_97, j_99, j_100, j_122, j_200, j_255, j_300, j_465, j_496, j_900, j_999, j_1000, j_65536, j_65537, j_99999, j_252645135, j_858993459, j_1431655765, k_0, k_1, k_27, k_32, k_74, k_75, k_100, k_1000, k_65537]
      simp (disch := first | with_reducible assumption | omega | trivial) only [↓bn_s1, ↓bd_s1, ↓ei_l1, ↓ei_r1, ↓bn_if, ↓ilt_1, ↓ilt_0, ↓ieq_1, ↓ieq_0, bn_s1, bd_s1, ei_l1, ei_r1, J_add, J_sub, J_mul, J_neg, J_lt, J_le, J_eq, dv_J, rm_J, if_pos, if_neg, ↓reduceIte, bitJ, shlJ, orJ, j_0, j_1, j_2, j_3, j_4, j_5, j_6, j_7, j_8, j_9, j_10, j_11, j_12, j_13, j_14, j_15, j_16, j_17, j_18, j_19, j_20, j_21, j_22, j_23, j_24, j_25, j_26, j_27, j_28, j_29, j_30, j_31, j_32, j_33, j_34, j_35, j_36, j_37, j_38, j_39, j_40, j_41, j_42, j_43, j_44, j_45, j_46, j_47, j_48, j_49, j_50, j_51, j_52, j_57, j_59, j_63, j_74, j_75, j_93, j_97, j_99, j_100, j_122, j_200, j_255, j_300, j_465, j_496, j_900, j_999, j_1000, j_65536, j_65537, j_99999, j_252645135, j_858993459, j_1431655765, k_0, k_1, k_27, k_32, k_74, k_75, k_100, k_1000, k_65537, bb, l1, K_mul]
      rfl) (by
    unfold B_mo_shareOf_5
    try simp only [j_0, j_1, j_2, j_3, j_4, j_5, j_6, j_7, j_8, j_9, j_10, j_11, j_12, j_13, j_14, j_15, j_16, j_17, j_18, j_19, j_20, j_21, j_22, j_23, j_24, j_25, j_26, j_27, j_28, j_29, j_30, j_31, j_32, j_33, j_34, j_35, j_36, j_37, j_38, j_39, j_40, j_41, j_42, j_43, j_44, j_45, j_46, j_47, j_48, j_49, j_50, j_51, j_52, j_57, j_59, j_63, j_74, j_75, j_93, j_97, j_99, j_100, j_122, j_200, j_255, j_300, j_465, j_496, j_900, j_999, j_1000, j_65536, j_65537, j_99999, j_252645135, j_858993459, j_1431655765, k_0, k_1, k_27, k_32, k_74, k_75, k_100, k_1000, k_65537]
    simp (disch := first | with_reducible assumption | omega | trivial) only [↓bn_s1, ↓bd_s1, ↓ei_l1, ↓ei_r1, ↓bn_if, ↓ilt_1, ↓ilt_0, ↓ieq_1, ↓ieq_0, bn_s1, bd_s1, ei_l1, ei_r1, J_add, J_sub, J_mul, J_neg, J_lt, J_le, J_eq, dv_J, rm_J, if_pos, if_neg, ↓reduceIte, bitJ, shlJ, orJ, j_0, j_1, j_2, j_3, j_4, j_5, j_6, j_7, j_8, j_9, j_10, j_11, j_12, j_13, j_14, j_15, j_16, j_17, j_18, j_19, j_20, j_21, j_22, j_23, j_24, j_25, j_26, j_27, j_28, j_29, j_30, j_31, j_32, j_33, j_34, j_35, j_36, j_37, j_38, j_39, j_40, j_41, j_42, j_43, j_44, j_45, j_46, j_47, j_48, j_49, j_50, j_51, j_52, j_57, j_59, j_63, j_74, j_75, j_93, j_97, j_99, j_100, j_122, j_200, j_255, j_300, j_465, j_496, j_900, j_999, j_1000, j_65536, j_65537, j_99999, j_252645135, j_858993459, j_1431655765, k_0, k_1, k_27, k_32, k_74, k_75, k_100, k_1000, k_65537])
  unfold F_mo_shareOf
  try simp only [j_0, j_1, j_2, j_3, j_4, j_5, j_6, j_7, j_8, j_9, j_10, j_11, j_12, j_13, j_14, j_15, j_16, j_17, j_18, j_19, j_20, j_21, j_22, j_23, j_24, j_25, j_26, j_27, j_28, j_29, j_30, j_31, j_32, j_33, j_34, j_35, j_36, j_37, j_38, j_39, j_40, j_41, j_42, j_43, j_44, j_45, j_46, j_47, j_48, j_49, j_50, j_51, j_52, j_57, j_59, j_63, j_74, j_75, j_93, j_97, j_99, j_100, j_122, j_200, j_255, j_300, j_465, j_496, j_900, j_999, j_1000, j_65536, j_65537, j_99999, j_252645135, j_858993459, j_1431655765, k_0, k_1, k_27, k_32, k_74, k_75, k_100, k_1000, k_65537]
  simp (disch := first | with_reducible assumption | omega | trivial) only [↓bn_s1, ↓bd_s1, ↓ei_l1, ↓ei_r1, ↓bn_if, ↓ilt_1, ↓ilt_0, ↓ieq_1, ↓ieq_0, bn_s1, bd_s1, ei_l1, ei_r1, J_add, J_sub, J_mul, J_neg, J_lt, J_le, J_eq, dv_J, rm_J, if_pos, if_neg, ↓reduceIte, bitJ, shlJ, orJ, j_0, j_1, j_2, j_3, j_4, j_5, j_6, j_7, j_8, j_9, j_10, j_11, j_12, j_13, j_14, j_15, j_16, j_17, j_18, j_19, j_20, j_21, j_22, j_23, j_24, j_25, j_26, j_27, j_28, j_29, j_30, j_31, j_32, j_33, j_34, j_35, j_36, j_37, j_38, j_39, j_40, j_41, j_42, j_43, j_44, j_45, j_46, j_47, j_48, j_49, j_50, j_51, j_52, j_57, j_59, j_63, j_74, j_75, j_93, j_97, j_99, j_100, j_122, j_200, j_255, j_300, j_465, j_496, j_900, j_999, j_1000, j_65536, j_65537, j_99999, j_252645135, j_858993459, j_1431655765, k_0, k_1, k_27, k_32, k_74, k_75, k_100, k_1000, k_65537, ↓bn_e (el), el]
/-- one way of the mice under house z -/
def mcc (S : Sk) (z : Int) (code : Nat) : Nat → Sk × Int
  | 0 => (S, 0)
  | k + 1 => if code.testBit k = true then (lse (sfu (mcc S z code k).1 z) z, (mcc S z code k).2 + (if bk (sfu (mcc S z code k).1 z) z = -1 then 0 else 1)) else (sfu (mcc S z code k).1 z, (mcc S z code k).2)
theorem mcc_p {S : Sk} {z : Int} (h0 : 0 ≤ z) (h1 : z < 5) (H : CW 999 S) (code : Nat) : ∀ k, CW 999 (mcc S z code k).1 ∧ 0 ≤ (mcc S z code k).2 ∧ (mcc S z code k).2 ≤ k := by
  intro k
  induction k with
  | zero => exact ⟨H, by show (0 : Int) ≤ 0; omega, by show (0 : Int) ≤ (0 : Nat); omega⟩
  | succ k ih =>
    have c1 := sfu_cw h0 h1 (by omega) ih.1
    unfold mcc
    by_cases c : code.testBit k = true
    · rw [if_pos c]
      refine ⟨lse_cw h0 h1 c1, ?_⟩
      show 0 ≤ (mcc S z code k).2 + _ ∧ (mcc S z code k).2 + _ ≤ ((k + 1 : Nat) : Int)
      by_cases d : bk (sfu (mcc S z code k).1 z) z = -1
      · rw [if_pos d]; omega
      · rw [if_neg d]; omega
    · rw [if_neg c]
      refine ⟨c1, ?_⟩
      show 0 ≤ (mcc S z code k).2 ∧ (mcc S z code k).2 ≤ ((k + 1 : Nat) : Int)
      omega
theorem C_lossBy {t : Nat} {h : Hp} {S : Sk} {z : Int} {code n : Nat} (V : XV t h) (hS : ∀ i, 0 ≤ i → i < 25 → ia h 86 i = S i) (hW : CW 999 S) (h0 : 0 ≤ z) (h1 : z < 5) (hc : code < 32) (hn : n ≤ 4) : ∃ h', F_mo_lossBy 84 (J code) (J z) (J n) h = some (J (mcc S z code n).2, h') ∧ Fm 86 87 h h' ∧ ∀ i, 0 ≤ i → i < 25 → ia h' 86 i = (mcc S z code n).1 i := by
  obtain ⟨y, h1', e1, q1, f1, x1⟩ := lp_for (b := B_mo_lossBy_6 84 (J code) (J z) (J n)) (f := FU) (s := (J 0, J 0)) (h := h) (fun k s h' => s = (J (mcc S z code k).2, J k) ∧ Fm 86 87 h h' ∧ ∀ i, 0 ≤ i → i < 25 → ia h' 86 i = (mcc S z code k).1 i) (fun y h' => y = J (mcc S z code n).2 ∧ Fm 86 87 h h' ∧ ∀ i, 0 ≤ i → i < 25 → ia h' 86 i = (mcc S z code n).1 i) n (by unfold FU; omega) ⟨rfl, fm_rf _ _ _, hS⟩ (fun k s h2 hk hI => by
      obtain ⟨rfl, f2, x2⟩ := hI
      have V2 := XV_fm f2 (by omega) V
      have mp := mcc_p h0 h1 hW code k
      obtain ⟨h3, e3, f3, x3⟩ := C_softenUnder (XV_s85 V2) x2 h0 h1 (by omega)
      have V3 := XV_fm f3 (by omega) V2
      have bb := bitJ (n := code) (k := k) hc (by omega)
      have e6 : mcc S z code (k + 1) = if code.testBit k = true then (lse (sfu (mcc S z code k).1 z) z, (mcc S z code k).2 + (if bk (sfu (mcc S z code k).1 z) z = -1 then 0 else 1)) else (sfu (mcc S z code k).1 z, (mcc S z code k).2) := rfl
      by_cases c : code.testBit k = true
      · rw [if_pos c] at bb e6
        have cw := sfu_cw h0 h1 (by omega) mp.1
        obtain ⟨h4, e4, f4, x4⟩ := C_loseOne (XV_c V3) (XV_s85 V3) x3 (fun i i0 i1 => by have := cw i i0 i1; omega) h0 h1 (by omega)
        refine ⟨(J (mcc S z code (k + 1)).2, J (k + 1 : Nat)), h4, ?_, rfl, fm_tr f2 (fm_tr f3 f4), by rw [e6]; exact x4⟩
        rw [e6]
        unfold B_mo_lossBy_6
        by_cases d : bk (sfu (mcc S z code k).1 z) z = -1
        · rw [if_pos d] at e4
          rw [if_pos d, Int.add_zero]
          try simp only [j_0, j_1, j_2, j_3, j_4, j_5, j_6, j_7, j_8, j_9, j_10, j_11, j_12, j_13, j_14, j_15, j_16, j_17, j_18, j_19, j_20, j_21, j_22, j_23, j_24, j_25, j_26, j_27, j_28, j_29, j_30, j_31, j_32, j_33, j_34, j_35, j_36, j_37, j_38, j_39, j_40, j_41, j_42, j_43, j_44, j_45, j_46, j_47, j_48, j_49, j_50, j_51, j_52, j_57, j_59, j_63, j_74, j_75, j_93, j_97, j_99, j_100, j_122, j_200, j_255, j_300, j_465, j_496, j_900, j_999, j_1000, j_65536, j_65537, j_99999, j_252645135, j_858993459, j_1431655765, k_0, k_1, k_27, k_32, k_74, k_75, k_100, k_1000, k_65537]
          simp (disch := first | with_reducible assumption | omega | trivial) only [↓bn_s1, ↓bd_s1, ↓ei_l1, ↓ei_r1, ↓bn_if, ↓ilt_1, ↓ilt_0, ↓ieq_1, ↓ieq_0, bn_s1, bd_s1, ei_l1, ei_r1, J_add, J_sub, J_mul, J_neg, J_lt, J_le, J_eq, dv_J, rm_J, if_pos, if_neg, ↓reduceIte, bitJ, shlJ, orJ, j_0, j_1, j_2, j_3, j_4, j_5, j_6, j_7, j_8, j_9, j_10, j_11, j_12, j_13, j_14, j_15, j_16, j_17, j_18, j_19, j_20, j_21, j_22, j_23, j_24, j_25, j_26, j_27, j_28, j_29, j_30, j_31, j_32, j_33, j_34, j_35, j_36, j_37, j_38, j_39, j_40, j_41, j_42, j_43, j_44, j_45, j_46, j_47, j_48, j_49, j_50, j_51, j_52, j_57, j_59, j_63, j_74, j_75, j_93, j_97, j_99, j_100, j_122, j_200, j_255, j_300, j_465, j_496, j_900, j_999, j_1000, j_65536, j_65537, j_99999, j_252645135, j_858993459, j_1431655765, k_0, k_1, k_27, k_32, k_74, k_75, k_100, k_1000, k_65537, o_i V2, ↓o_i_b V2, o_p V2, ↓o_p_b V2, o_r4 V2, ↓o_r4_b V2, o_l V2, ↓o_l_b V2, o_pl V2, ↓o_pl_b V2, ↓bn_e (e3), e3, bb, o_i V3, ↓o_i_b V3, o_p V3, ↓o_p_b V3, o_r4 V3, ↓o_r4_b V3, o_l V3, ↓o_l_b V3, o_pl V3, ↓o_pl_b V3, ↓bd_e (e4), e4]
          rfl
        · rw [if_neg d] at e4
          rw [if_neg d]
          try simp only [j_0, j_1, j_2, j_3, j_4, j_5, j_6, j_7, j_8, j_9, j_10, j_11, j_12, j_13, j_14, j_15, j_16, j_17, j_18, j_19, j_20, j_21, j_22, j_23, j_24, j_25, j_26, j_27, j_28, j_29, j_30, j_31, j_32, j_33, j_34, j_35, j_36, j_37, j_38, j_39, j_40, j_41, j_42, j_43, j_44, j_45, j_46, j_47, j_48, j_49, j_50, j_51, j_52, j_57, j_59, j_63, j_74, j_75, j_93, j_97, j_99, j_100, j_122, j_200, j_255, j_300, j_465, j_496, j_900, j_999, j_1000, j_65536, j_65537, j_99999, j_252645135, j_858993459, j_1431655765, k_0, k_1, k_27, k_32, k_74, k_75, k_100, k_1000, k_65537]
          simp (disch := first | with_reducible assumption | omega | trivial) only [↓bn_s1, ↓bd_s1, ↓ei_l1, ↓ei_r1, ↓bn_if, ↓ilt_1, ↓ilt_0, ↓ieq_1, ↓ieq_0, bn_s1, bd_s1, ei_l1, ei_r1, J_add, J_sub, J_mul, J_neg, J_lt, J_le, J_eq, dv_J, rm_J, if_pos, if_neg, ↓reduceIte, bitJ, shlJ, orJ, j_0, j_1, j_2, j_3, j_4, j_5, j_6, j_7, j_8, j_9, j_10, j_11, j_12, j_13, j_14, j_15, j_16, j_17, j_18, j_19, j_20, j_21, j_22, j_23, j_24, j_25, j_26, j_27, j_28, j_29, j_30, j_31, j_32, j_33, j_34, j_35, j_36, j_37, j_38, j_39, j_40, j_41, j_42, j_43, j_44, j_45, j_46, j_47, j_48, j_49, j_50, j_51, j_52, j_57, j_59, j_63, j_74, j_75, j_93, j_97, j_99, j_100, j_122, j_200, j_255, j_300, j_465, j_496, j_900, j_999, j_1000, j_65536, j_65537, j_99999, j_252645135, j_858993459, j_1431655765, k_0, k_1, k_27, k_32, k_74, k_75, k_100, k_1000, k_65537, o_i V2, ↓o_i_b V2, o_p V2, ↓o_p_b V2, o_r4 V2, ↓o_r4_b V2, o_l V2, ↓o_l_b V2, o_pl V2, ↓o_pl_b V2, ↓bn_e (e3), e3, bb, o_i V3, ↓o_i_b V3, o_p V3, ↓o_p_b V3, o_r4 V3, ↓o_r4_b V3, o_l V3, ↓o_l_b V3, o_pl V3, ↓o_pl_b V3, ↓bd_e (e4), e4]
          rfl
      · rw [if_neg c] at bb e6
        refine ⟨(J (mcc S z code (k + 1)).2, J (k + 1 : Nat)), h3, ?_, rfl, fm_tr f2 f3, by rw [e6]; exact x3⟩
        rw [e6]
        unfold B_mo_lossBy_6
        try simp only [j_0, j_1, j_2, j_3, j_4, j_5, j_6, j_7, j_8, j_9, j_10, j_11, j_12, j_13, j_14, j_15, j_16, j_17, j_18, j_19, j_20, j_21, j_22, j_23, j_24, j_25, j_26, j_27, j_28, j_29, j_30, j_31, j_32, j_33, j_34, j_35, j_36, j_37, j_38, j_39, j_40, j_41, j_42, j_43, j_44, j_45, j_46, j_47, j_48, j_49, j_50, j_51, j_52, j_57, j_59, j_63, j_74, j_75, j_93, j_97, j_99, j_100, j_122, j_200, j_255, j_300, j_465, j_496, j_900, j_999, j_1000, j_65536, j_65537, j_99999, j_252645135, j_858993459, j_1431655765, k_0, k_1, k_27, k_32, k_74, k_75, k_100, k_1000, k_65537]
        simp (disch := first | with_reducible assumption | omega | trivial) only [↓bn_s1, ↓bd_s1, ↓ei_l1, ↓ei_r1, ↓bn_if, ↓ilt_1, ↓ilt_0, ↓ieq_1, ↓ieq_0, bn_s1, bd_s1, ei_l1, ei_r1, J_add, J_sub, J_mul, J_neg, J_lt, J_le, J_eq, dv_J, rm_J, if_pos, if_neg, ↓reduceIte, bitJ, shlJ, orJ, j_0, j_1, j_2, j_3, j_4, j_5, j_6, j_7, j_8, j_9, j_10, j_11, j_12, j_13, j_14, j_15, j_16, j_17, j_18, j_19, j_20, j_21, j_22, j_23, j_24, j_25, j_26, j_27, j_28, j_29, j_30, j_31, j_32, j_33, j_34, j_35, j_36, j_37, j_38, j_39, j_40, j_41, j_42, j_43, j_44, j_45, j_46, j_47, j_48, j_49, j_50, j_51, j_52, j_57, j_59, j_63, j_74, j_75, j_93, j_97, j_99, j_100, j_122, j_200, j_255, j_300, j_465, j_496, j_900, j_999, j_1000, j_65536, j_65537, j_99999, j_252645135, j_858993459, j_1431655765, k_0, k_1, k_27, k_32, k_74, k_75, k_100, k_1000, k_65537, o_i V2, ↓o_i_b V2, o_p V2, ↓o_p_b V2, o_r4 V2, ↓o_r4_b V2, o_l V2, ↓o_l_b V2, o_pl V2, ↓o_pl_b V2, ↓bn_e (e3), e3, bb]
        rfl) (fun s h2 hI => by
      obtain ⟨rfl, f2, x2⟩ := hI
      refine ⟨_, h2, ?_, rfl, f2, x2⟩
      unfold B_mo_lossBy_6
      try simp only [j_0, j_1, j_2, j_3, j_4, j_5, j_6, j_7, j_8, j_9, j_10, j_11, j_12, j_13, j_14, j_15, j_16, j_17, j_18, j_19, j_20, j_21, j_22, j_23, j_24, j_25, j_26, j_27, j_28, j_29, j_30, j_31, j_32, j_33, j_34, j_35, j_36, j_37, j_38, j_39, j_40, j_41, j_42, j_43, j_44, j_45, j_46, j_47, j_48, j_49, j_50, j_51, j_52, j_57, j_59, j_63, j_74, j_75, j_93, j_97, j_99, j_100, j_122, j_200, j_255, j_300, j_465, j_496, j_900, j_999, j_1000, j_65536, j_65537, j_99999, j_252645135, j_858993459, j_1431655765, k_0, k_1, k_27, k_32, k_74, k_75, k_100, k_1000, k_65537]
      simp (disch := first | with_reducible assumption | omega | trivial) only [↓bn_s1, ↓bd_s1, ↓ei_l1, ↓ei_r1, ↓bn_if, ↓ilt_1, ↓ilt_0, ↓ieq_1, ↓ieq_0, bn_s1, bd_s1, ei_l1, ei_r1, J_add, J_sub, J_mul, J_neg, J_lt, J_le, J_eq, dv_J, rm_J, if_pos, if_neg, ↓reduceIte, bitJ, shlJ, orJ, j_0, j_1, j_2, j_3, j_4, j_5, j_6, j_7, j_8, j_9, j_10, j_11, j_12, j_13, j_14, j_15, j_16, j_17, j_18, j_19, j_20, j_21, j_22, j_23, j_24, j_25, j_26, j_27, j_28, j_29, j_30, j_31, j_32, j_33, j_34, j_35, j_36, j_37, j_38, j_39, j_40, j_41, j_42, j_43, j_44, j_45, j_46, j_47, j_48, j_49, j_50, j_51, j_52, j_57, j_59, j_63, j_74, j_75, j_93, j_97, j_99, j_100, j_122, j_200, j_255, j_300, j_465, j_496, j_900, j_999, j_1000, j_65536, j_65537, j_99999, j_252645135, j_858993459, j_1431655765, k_0, k_1, k_27, k_32, k_74, k_75, k_100, k_1000, k_65537])
  refine ⟨h1', ?_, f1, x1⟩
  unfold F_mo_lossBy
  rw [ck_e (OS_k (XV_m V))]
  try simp only [j_0, j_1, j_2, j_3, j_4, j_5, j_6, j_7, j_8, j_9, j_10, j_11, j_12, j_13, j_14, j_15, j_16, j_17, j_18, j_19, j_20, j_21, j_22, j_23, j_24, j_25, j_26, j_27, j_28, j_29, j_30, j_31, j_32, j_33, j_34, j_35, j_36, j_37, j_38, j_39, j_40, j_41, j_42, j_43, j_44, j_45, j_46, j_47, j_48, j_49, j_50, j_51, j_52, j_57, j_59, j_63, j_74, j_75, j_93, j_97, j_99, j_100, j_122, j_200, j_255, j_300, j_465, j_496, j_900, j_999, j_1000, j_65536, j_65537, j_99999, j_252645135, j_858993459, j_1431655765, k_0, k_1, k_27, k_32, k_74, k_75, k_100, k_1000, k_65537]
  simp (disch := first | with_reducible assumption | omega | trivial) only [↓bn_s1, ↓bd_s1, ↓ei_l1, ↓ei_r1, ↓bn_if, ↓ilt_1, ↓ilt_0, ↓ieq_1, ↓ieq_0, bn_s1, bd_s1, ei_l1, ei_r1, J_add, J_sub, J_mul, J_neg, J_lt, J_le, J_eq, dv_J, rm_J, if_pos, if_neg, ↓reduceIte, bitJ, shlJ, orJ, j_0, j_1, j_2, j_3, j_4, j_5, j_6, j_7, j_8, j_9, j_10, j_11, j_12, j_13, j_14, j_15, j_16, j_17, j_18, j_19, j_20, j_21, j_22, j_23, j_24, j_25, j_26, j_27, j_28, j_29, j_30, j_31, j_32, j_33, j_34, j_35, j_36, j_37, j_38, j_39, j_40, j_41, j_42, j_43, j_44, j_45, j_46, j_47, j_48, j_49, j_50, j_51, j_52, j_57, j_59, j_63, j_74, j_75, j_93, j_97, j_99, j_100, j_122, j_200, j_255, j_300, j_465, j_496, j_900, j_999, j_1000, j_65536, j_65537, j_99999, j_252645135, j_858993459, j_1431655765, k_0, k_1, k_27, k_32, k_74, k_75, k_100, k_1000, k_65537, ↓bd_e (e1), e1, q1]
/-- what each way adds -/
def mhg (L : Lk) (S : Sk) (z : Int) (n code : Nat) : Int := lft (mcc S z code n).1 z - wgt L S z
def mdr (L : Lk) (S : Sk) (z : Int) (n code : Nat) : Int := if mhg L S z n code < 0 then 0 else shr (L 0 0) code n
def mhi (L : Lk) (S : Sk) (z : Int) (n code : Nat) : Int := shr (L 0 0) code n * mhg L S z n code
def mlo (L : Lk) (S : Sk) (z : Int) (n code : Nat) : Int := shr (L 0 0) code n * (mcc S z code n).2
theorem mhg_b {L : Lk} {S : Sk} {z : Int} (HL : LW L) (hW : CW 999 S) (h0 : 0 ≤ z) (h1 : z < L 1 0) (n code : Nat) : -249 ≤ mhg L S z n code ∧ mhg L S z n code ≤ 11988 := by
  have b1 := LW_h HL
  have := lft_b (mcc_p h0 (by omega) hW code n).1 h0 (by omega)
  have := wgt_b HL S h0 h1
  unfold mhg
  omega
theorem C_follow {a : Ab} {t : Nat} {h : Hp} {z : Int} {n : Nat} (HA : AW a) (H : CI a t h) (hz : inr z (qL a 1 0)) (hn' : n ≤ 4) : ∃ h', F_mo_follow 84 t 44 (J z) (J n) h = some h' ∧ Fm 84 88 h h' ∧ fL h' 84 0 = K (100 ^ n) ∧ fL h' 84 1 = K (sm (2 ^ n) (fun c => mdr (qL a) (qS a) z n c)) ∧ fL h' 84 2 = K (sm (2 ^ n) (fun c => mhi (qL a) (qS a) z n c)) ∧ fL h' 84 3 = K (sm (2 ^ n) (fun c => mlo (qL a) (qS a) z n c)) := by
  have V := H.1
  have o := XV_o V
  have b1 := LW_h HA.1
  have b0 := LW_mice HA.1
  have W := HA.2.1.1.1
  have gl := fun {h' : Hp} (V' : XV t h') (k : Nat) => gL_e (h := h') (a := 84) (ci := 4) (k := k) (OS_k (XV_m V'))
  have f0 : Fm 84 85 h (wG h 84 0 1) := fm_wG (by omega) (by omega)
  obtain ⟨y, h1, e1, f1, v1⟩ := lp_for (b := B_mo_follow_8 84 t 44 (J z) (J n)) (f := FU) (s := J 0) (h := wG h 84 0 1) (fun k s h' => s = J k ∧ Fm 84 85 h h' ∧ fL h' 84 0 = K (100 ^ k)) (fun _ h' => Fm 84 85 h h' ∧ fL h' 84 0 = K (100 ^ n)) n (by unfold FU; omega) ⟨rfl, f0, fLs _ _ _ _⟩ (fun k s h1 hk hI => by
      obtain ⟨rfl, f1, v1⟩ := hI
      have V1 := XV_fm f1 (by omega) V
      have g1 := gl V1 0
      rw [v1] at g1
      have ep : (100 : Int) ^ (k + 1) = 100 ^ k * 100 := Int.pow_succ _ _
      refine ⟨J (k + 1 : Nat), wG h1 84 0 (100 ^ (k + 1)), ?_, rfl, fm_tr f1 (fm_wG (by omega) (by omega)), fLs _ _ _ _⟩
      rw [ep]
      unfold B_mo_follow_8
      try simp only [j_0, j_1, j_2, j_3, j_4, j_5, j_6, j_7, j_8, j_9, j_10, j_11, j_12, j_13, j_14, j_15, j_16, j_17, j_18, j_19, j_20, j_21, j_22, j_23, j_24, j_25, j_26, j_27, j_28, j_29, j_30, j_31, j_32, j_33, j_34, j_35, j_36, j_37, j_38, j_39, j_40, j_41, j_42, j_43, j_44, j_45, j_46, j_47, j_48, j_49, j_50, j_51, j_52, j_57, j_59, j_63, j_74, j_75, j_93, j_97, j_99, j_100, j_122, j_200, j_255, j_300, j_465, j_496, j_900, j_999, j_1000, j_65536, j_65537, j_99999, j_252645135, j_858993459, j_1431655765, k_0, k_1, k_27, k_32, k_74, k_75, k_100, k_1000, k_65537]
      simp (disch := first | with_reducible assumption | omega | trivial) only [↓bn_s1, ↓bd_s1, ↓ei_l1, ↓ei_r1, ↓bn_if, ↓ilt_1, ↓ilt_0, ↓ieq_1, ↓ieq_0, bn_s1, bd_s1, ei_l1, ei_r1, J_add, J_sub, J_mul, J_neg, J_lt, J_le, J_eq, dv_J, rm_J, if_pos, if_neg, ↓reduceIte, bitJ, shlJ, orJ, j_0, j_1, j_2, j_3, j_4, j_5, j_6, j_7, j_8, j_9, j_10, j_11, j_12, j_13, j_14, j_15, j_16, j_17, j_18, j_19, j_20, j_21, j_22, j_23, j_24, j_25, j_26, j_27, j_28, j_29, j_30, j_31, j_32, j_33, j_34, j_35, j_36, j_37, j_38, j_39, j_40, j_41, j_42, j_43, j_44, j_45, j_46, j_47, j_48, j_49, j_50, j_51, j_52, j_57, j_59, j_63, j_74, j_75, j_93, j_97, j_99, j_100, j_122, j_200, j_255, j_300, j_465, j_496, j_900, j_999, j_1000, j_65536, j_65537, j_99999, j_252645135, j_858993459, j_1431655765, k_0, k_1, k_27, k_32, k_74, k_75, k_100, k_1000, k_65537, ↓bn_e (g1), g1, K_mul, ↓o_pl_b V1]
      rfl) (fun s h1 hI => by
      obtain ⟨rfl, f1, v1⟩ := hI
      refine ⟨(), h1, ?_, f1, v1⟩
      unfold B_mo_follow_8
      try simp only [j_0, j_1, j_2, j_3, j_4, j_5, j_6, j_7, j_8, j_9, j_10, j_11, j_12, j_13, j_14, j_15, j_16, j_17, j_18, j_19, j_20, j_21, j_22, j_23, j_24, j_25, j_26, j_27, j_28, j_29, j_30, j_31, j_32, j_33, j_34, j_35, j_36, j_37, j_38, j_39, j_40, j_41, j_42, j_43, j_44, j_45, j_46, j_47, j_48, j_49, j_50, j_51, j_52, j_57, j_59, j_63, j_74, j_75, j_93, j_97, j_99, j_100, j_122, j_200, j_255, j_300, j_465, j_496, j_900, j_999, j_1000, j_65536, j_65537, j_99999, j_252645135, j_858993459, j_1431655765, k_0, k_1, k_27, k_32, k_74, k_75, k_100, k_1000, k_65537]
      simp (disch := first | with_reducible assumption | omega | trivial) only [↓bn_s1, ↓bd_s1, ↓ei_l1, ↓ei_r1, ↓bn_if, ↓ilt_1, ↓ilt_0, ↓ieq_1, ↓ieq_0, bn_s1, bd_s1, ei_l1, ei_r1, J_add, J_sub, J_mul, J_neg, J_lt, J_le, J_eq, dv_J, rm_J, if_pos, if_neg, ↓reduceIte, bitJ, shlJ, orJ, j_0, j_1, j_2, j_3, j_4, j_5, j_6, j_7, j_8, j_9, j_10, j_11, j_12, j_13, j_14, j_15, j_16, j_17, j_18, j_19, j_20, j_21, j_22, j_23, j_24, j_25, j_26, j_27, j_28, j_29, j_30, j_31, j_32, j_33, j_34, j_35, j_36, j_37, j_38, j_39, j_40, j_41, j_42, j_43, j_44, j_45, j_46, j_47, j_48, j_49, j_50, j_51, j_52, j_57, j_59, j_63, j_74, j_75, j_93, j_97, j_99, j_100, j_122, j_200, j_255, j_300, j_465, j_496, j_900, j_999, j_1000, j_65536, j_65537, j_99999, j_252645135, j_858993459, j_1431655765, k_0, k_1, k_27, k_32, k_74, k_75, k_100, k_1000, k_65537])
  have V1 := XV_fm f1 (by omega) V
  obtain ⟨h2, hh2⟩ : ∃ h2, h2 = wG (wG (wG h1 84 1 0) 84 2 0) 84 3 0 := ⟨_, rfl⟩
  have fa : Fm 84 85 h1 (wG h1 84 1 0) := fm_wG (by omega) (by omega)
  have fb : Fm 84 85 (wG h1 84 1 0) (wG (wG h1 84 1 0) 84 2 0) := fm_wG (by omega) (by omega)
  have fc : Fm 84 85 (wG (wG h1 84 1 0) 84 2 0) h2 := by rw [hh2]; exact fm_wG (by omega) (by omega)
  have Va := XV_fm fa (by omega) V1
  have Vb := XV_fm fb (by omega) Va
  have f2 : Fm 84 88 h h2 := fm_wd (fm_tr f1 (fm_tr fa (fm_tr fb fc))) (by omega) (by omega)
  have V2 := XV_fm f2 (by omega) V
  have R2 := TR_fm f2 (by omega) H.2.1
  have S2 := SR_fm f2 (by omega) H.2.2.1
  have ew := C_weightAt HA.1 (XV_ts V2) R2 (XV_s44 V2) S2 hz.1 hz.2 HA.2.1.1.2.2.1
  have wb := wgt_b HA.1 (qS a) hz.1 hz.2
  have w0 : fL h2 84 0 = K (100 ^ n) := by rw [hh2, fLn (by omega), fLn (by omega), fLn (by omega)]; exact v1
  have w1 : fL h2 84 1 = K 0 := by rw [hh2, fLn (by omega), fLn (by omega)]; exact fLs _ _ _ _
  have w2 : fL h2 84 2 = K 0 := by rw [hh2, fLn (by omega)]; exact fLs _ _ _ _
  have w3 : fL h2 84 3 = K 0 := by rw [hh2]; exact fLs _ _ _ _
  have sh := shlJ (k := n) (by omega)
  have p16 : 2 ^ n ≤ 16 := by
    have : 2 ^ n ≤ 2 ^ 4 := Nat.pow_le_pow_right (by decide) hn'
    omega
  generalize 2 ^ n = P at sh p16 ⊢
  obtain ⟨y3, h3, e3, q3⟩ := lp_for (b := B_mo_follow_59 84 t 44 (J z) (J n) (J (wgt (qL a) (qS a) z))) (f := FU) (s := J 0) (h := h2) (fun i s h' => s = J i ∧ Fm 84 88 h h' ∧ fL h' 84 0 = K (100 ^ n) ∧ fL h' 84 1 = K (sm i (fun c => mdr (qL a) (qS a) z n c)) ∧ fL h' 84 2 = K (sm i (fun c => mhi (qL a) (qS a) z n c)) ∧ fL h' 84 3 = K (sm i (fun c => mlo (qL a) (qS a) z n c))) (fun _ h' => Fm 84 88 h h' ∧ fL h' 84 0 = K (100 ^ n) ∧ fL h' 84 1 = K (sm P (fun c => mdr (qL a) (qS a) z n c)) ∧ fL h' 84 2 = K (sm P (fun c => mhi (qL a) (qS a) z n c)) ∧ fL h' 84 3 = K (sm P (fun c => mlo (qL a) (qS a) z n c))) P (by unfold FU; omega) ⟨rfl, f2, w0, w1, w2, w3⟩ (fun i s h3 hi hI => by
      obtain ⟨rfl, f3, x0, x1, x2, x3⟩ := hI
      have V3 := XV_fm f3 (by omega) V
      have R3 := TR_fm f3 (by omega) H.2.1
      have S3 := SR_fm f3 (by omega) H.2.2.1
      have es := C_shareOf (m := qL a 0 0) (code := i) (n := n) b0.1 b0.2 (by omega) hn'
      have sb := shr_n b0.1 b0.2 i hn'
      have lg := lgc (a := shr (qL a 0 0) i n) (b := 0) (by omega) (by omega) (by omega) (by omega)
      have s1 : sm (i + 1) (fun c => mdr (qL a) (qS a) z n c) = sm i (fun c => mdr (qL a) (qS a) z n c) + mdr (qL a) (qS a) z n i := rfl
      have s2 : sm (i + 1) (fun c => mhi (qL a) (qS a) z n c) = sm i (fun c => mhi (qL a) (qS a) z n c) + mhi (qL a) (qS a) z n i := rfl
      have s3 : sm (i + 1) (fun c => mlo (qL a) (qS a) z n c) = sm i (fun c => mlo (qL a) (qS a) z n c) + mlo (qL a) (qS a) z n i := rfl
      by_cases c : 0 < shr (qL a 0 0) i n
      · rw [if_pos c] at lg
        obtain ⟨h4, e4, f4, S4⟩ := C_copyFrom HA.1 (XV_s85 V3) (XV_s44 V3) S3 (by omega) (by omega) (by omega)
        have V4 := XV_fm f4 (by omega) V3
        obtain ⟨h5, e5, f5, X5⟩ := C_lossBy (z := z) (code := i) (n := n) V4 S4.1 W hz.1 (by omega) (by omega) hn'
        have V5 := XV_fm f5 (by omega) V4
        have mp := mcc_p hz.1 (show z < 5 by omega) W i n
        have ll := J_long (a := (mcc (qS a) z i n).2) (by omega) (by omega)
        have hb := mhg_b HA.1 W hz.1 hz.2 n i
        have lh := J_long (a := mhg (qL a) (qS a) z n i) (by omega) (by omega)
        have g43 : gL h4 84 4 3 = some (K (sm i (fun c => mlo (qL a) (qS a) z n c))) := by rw [gl V4 3, fm_fL f4 (by omega), x3]
        obtain ⟨h6, hh6⟩ : ∃ h6, h6 = wG h5 84 3 (sm i (fun c => mlo (qL a) (qS a) z n c) + mlo (qL a) (qS a) z n i) := ⟨_, rfl⟩
        have f6 : Fm 84 88 h5 h6 := by rw [hh6]; exact fm_wG (by omega) (by omega)
        have V6 := XV_fm f6 (by omega) V5
        have X6 : ∀ j, 0 ≤ j → j < 25 → ia h6 86 j = (mcc (qS a) z i n).1 j := fun j j0 j1 => by rw [hh6]; exact X5 j j0 j1
        have e6 := C_liftUnder (XV_c V6) (XV_s85 V6) X6 hz.1 (show z < 5 by omega)
        have g62 : gL h6 84 4 2 = some (K (sm i (fun c => mhi (qL a) (qS a) z n c))) := by rw [gl V6 2, hh6, fLn (by omega), fm_fL f5 (by omega), fm_fL f4 (by omega), x2]
        obtain ⟨h7, hh7⟩ : ∃ h7, h7 = wG h6 84 2 (sm i (fun c => mhi (qL a) (qS a) z n c) + mhi (qL a) (qS a) z n i) := ⟨_, rfl⟩
        have f7 : Fm 84 88 h6 h7 := by rw [hh7]; exact fm_wG (by omega) (by omega)
        have V7 := XV_fm f7 (by omega) V6
        have g71 : gL h7 84 4 1 = some (K (sm i (fun c => mdr (qL a) (qS a) z n c))) := by rw [gl V7 1, hh7, fLn (by omega), hh6, fLn (by omega), fm_fL f5 (by omega), fm_fL f4 (by omega), x1]
        have f37 : Fm 84 88 h h7 := fm_tr f3 (fm_tr (fm_wd f4 (by omega) (by omega)) (fm_tr (fm_wd f5 (by omega) (by omega)) (fm_tr f6 f7)))
        have em : lft (mcc (qS a) z i n).1 z - wgt (qL a) (qS a) z = mhg (qL a) (qS a) z n i := rfl
        have el : shr (qL a 0 0) i n * (mcc (qS a) z i n).2 = mlo (qL a) (qS a) z n i := rfl
        have eh : shr (qL a 0 0) i n * mhg (qL a) (qS a) z n i = mhi (qL a) (qS a) z n i := rfl
        refine ⟨J (i + 1 : Nat), wG h7 84 1 (sm i (fun c => mdr (qL a) (qS a) z n c) + mdr (qL a) (qS a) z n i), ?_, rfl, fm_tr f37 (fm_wG (by omega) (by omega)), ?_, fLs _ _ _ _, ?_, ?_⟩
        · unfold B_mo_follow_59
          by_cases d : mhg (qL a) (qS a) z n i < 0
          · have md : mdr (qL a) (qS a) z n i = 0 := if_pos d
            rw [md]
            try simp only [j_0, j_1, j_2, j_3, j_4, j_5, j_6, j_7, j_8, j_9, j_10, j_11, j_12, j_13, j_14, j_15, j_16, j_17, j_18, j_19, j_20, j_21, j_22, j_23, j_24, j_25, j_26, j_27, j_28, j_29, j_30, j_31, j_32, j_33, j_34, j_35, j_36, j_37, j_38, j_39, j_40, j_41, j_42, j_43, j_44, j_45, j_46, j_47, j_48, j_49, j_50, j_51, j_52, j_57, j_59, j_63, j_74, j_75, j_93, j_97, j_99, j_100, j_122, j_200, j_255, j_300, j_465, j_496, j_900, j_999, j_1000, j_65536, j_65537, j_99999, j_252645135, j_858993459, j_1431655765, k_0, k_1, k_27, k_32, k_74, k_75, k_100, k_1000, k_65537]
            simp (disch := first | with_reducible assumption | omega | trivial) only [↓bn_s1, ↓bd_s1, ↓ei_l1, ↓ei_r1, ↓bn_if, ↓ilt_1, ↓ilt_0, ↓ieq_1, ↓ieq_0, bn_s1, bd_s1, ei_l1, ei_r1, J_add, J_sub, J_mul, J_neg, J_lt, J_le, J_eq, dv_J, rm_J, if_pos, if_neg, ↓reduceIte, bitJ, shlJ, orJ, j_0, j_1, j_2, j_3, j_4, j_5, j_6, j_7, j_8, j_9, j_10, j_11, j_12, j_13, j_14, j_15, j_16, j_17, j_18, j_19, j_20, j_21, j_22, j_23, j_24, j_25, j_26, j_27, j_28, j_29, j_30, j_31, j_32, j_33, j_34, j_35, j_36, j_37, j_38, j_39, j_40, j_41, j_42, j_43, j_44, j_45, j_46, j_47, j_48, j_49, j_50, j_51, j_52, j_57, j_59, j_63, j_74, j_75, j_93, j_97, j_99, j_100, j_122, j_200, j_255, j_300, j_465, j_496, j_900, j_999, j_1000, j_65536, j_65537, j_99999, j_252645135, j_858993459, j_1431655765, k_0, k_1, k_27, k_32, k_74, k_75, k_100, k_1000, k_65537, sh, ti_0 (XV_ts V3) R3, ↓ti_0_b (XV_ts V3) R3, ti_1 (XV_ts V3) R3, ↓ti_1_b (XV_ts V3) R3, ti_5 (XV_ts V3) R3, ↓ti_5_b (XV_ts V3) R3, ti_8 (XV_ts V3) R3, ↓ti_8_b (XV_ts V3) R3, ti_11 (XV_ts V3) R3, ↓ti_11_b (XV_ts V3) R3, ti_14 (XV_ts V3) R3, ↓ti_14_b (XV_ts V3) R3, ty_0 (XV_ts V3) R3, ↓ty_0_b (XV_ts V3) R3, ty_4 (XV_ts V3) R3, ↓ty_4_b (XV_ts V3) R3, trf_18 (XV_ts V3), ↓trf_18_b (XV_ts V3), trf_3 (XV_ts V3), ↓trf_3_b (XV_ts V3), trf_4 (XV_ts V3), ↓trf_4_b (XV_ts V3), trf_6 (XV_ts V3), ↓trf_6_b (XV_ts V3), trf_7 (XV_ts V3), ↓trf_7_b (XV_ts V3), trf_9 (XV_ts V3), ↓trf_9_b (XV_ts V3), trf_10 (XV_ts V3), ↓trf_10_b (XV_ts V3), trf_12 (XV_ts V3), ↓trf_12_b (XV_ts V3), trf_13 (XV_ts V3), ↓trf_13_b (XV_ts V3), trf_15 (XV_ts V3), ↓trf_15_b (XV_ts V3), trf_16 (XV_ts V3), ↓trf_16_b (XV_ts V3), trf_17 (XV_ts V3), ↓trf_17_b (XV_ts V3), try_1 (XV_ts V3), ↓try_1_b (XV_ts V3), try_2 (XV_ts V3), ↓try_2_b (XV_ts V3), try_3 (XV_ts V3), ↓try_3_b (XV_ts V3), try_5 (XV_ts V3), ↓try_5_b (XV_ts V3), try_6 (XV_ts V3), ↓try_6_b (XV_ts V3), ta_3 HA.1 (XV_ts V3) R3, ↓ta_3_b HA.1 (XV_ts V3) R3, ta_4 HA.1 (XV_ts V3) R3, ↓ta_4_b HA.1 (XV_ts V3) R3, ta_6 HA.1 (XV_ts V3) R3, ↓ta_6_b HA.1 (XV_ts V3) R3, ta_7 HA.1 (XV_ts V3) R3, ↓ta_7_b HA.1 (XV_ts V3) R3, ta_9 HA.1 (XV_ts V3) R3, ↓ta_9_b HA.1 (XV_ts V3) R3, ta_10 HA.1 (XV_ts V3) R3, ↓ta_10_b HA.1 (XV_ts V3) R3, ta_12 HA.1 (XV_ts V3) R3, ↓ta_12_b HA.1 (XV_ts V3) R3, ta_13 HA.1 (XV_ts V3) R3, ↓ta_13_b HA.1 (XV_ts V3) R3, ta_15 HA.1 (XV_ts V3) R3, ↓ta_15_b HA.1 (XV_ts V3) R3, ta_16 HA.1 (XV_ts V3) R3, ↓ta_16_b HA.1 (XV_ts V3) R3, ta_17 HA.1 (XV_ts V3) R3, ↓ta_17_b HA.1 (XV_ts V3) R3, tz_1 HA.1 (XV_ts V3) R3, ↓tz_1_b HA.1 (XV_ts V3) R3, tz_2 HA.1 (XV_ts V3) R3, ↓tz_2_b HA.1 (XV_ts V3) R3, tz_3 HA.1 (XV_ts V3) R3, ↓tz_3_b HA.1 (XV_ts V3) R3, tz_5 HA.1 (XV_ts V3) R3, ↓tz_5_b HA.1 (XV_ts V3) R3, tz_6 HA.1 (XV_ts V3) R3, ↓tz_6_b HA.1 (XV_ts V3) R3, ↓bn_e (es), es, lg, o_i V3, ↓o_i_b V3, o_p V3, ↓o_p_b V3, o_r4 V3, ↓o_r4_b V3, o_l V3, ↓o_l_b V3, o_pl V3, ↓o_pl_b V3, ↓bn_e (e4), e4, ↓bn_e (g43), g43, ↓bd_e (e5), e5, ll, K_mul, K_add, el, ↓o_pl_b V5, ← hh6, o_r4 V6, ↓o_r4_b V6, ↓bn_e (e6), e6, em, ↓bn_e (g62), g62, lh, eh, ↓o_pl_b V6, ← hh7, ↓bn_e (g71), g71, ↓o_pl_b V7]
            rfl
          · have md : mdr (qL a) (qS a) z n i = shr (qL a 0 0) i n := if_neg d
            rw [md]
            try simp only [j_0, j_1, j_2, j_3, j_4, j_5, j_6, j_7, j_8, j_9, j_10, j_11, j_12, j_13, j_14, j_15, j_16, j_17, j_18, j_19, j_20, j_21, j_22, j_23, j_24, j_25, j_26, j_27, j_28, j_29, j_30, j_31, j_32, j_33, j_34, j_35, j_36, j_37, j_38, j_39, j_40, j_41, j_42, j_43, j_44, j_45, j_46, j_47, j_48, j_49, j_50, j_51, j_52, j_57, j_59, j_63, j_74, j_75, j_93, j_97, j_99, j_100, j_122, j_200, j_255, j_300, j_465, j_496, j_900, j_999, j_1000, j_65536, j_65537, j_99999, j_252645135, j_858993459, j_1431655765, k_0, k_1, k_27, k_32, k_74, k_75, k_100, k_1000, k_65537]
            simp (disch := first | with_reducible assumption | omega | trivial) only [↓bn_s1, ↓bd_s1, ↓ei_l1, ↓ei_r1, ↓bn_if, ↓ilt_1, ↓ilt_0, ↓ieq_1, ↓ieq_0, bn_s1, bd_s1, ei_l1, ei_r1, J_add, J_sub, J_mul, J_neg, J_lt, J_le, J_eq, dv_J, rm_J, if_pos, if_neg, ↓reduceIte, bitJ, shlJ, orJ, j_0, j_1, j_2, j_3, j_4, j_5, j_6, j_7, j_8, j_9, j_10, j_11, j_12, j_13, j_14, j_15, j_16, j_17, j_18, j_19, j_20, j_21, j_22, j_23, j_24, j_25, j_26, j_27, j_28, j_29, j_30, j_31, j_32, j_33, j_34, j_35, j_36, j_37, j_38, j_39, j_40, j_41, j_42, j_43, j_44, j_45, j_46, j_47, j_48, j_49, j_50, j_51, j_52, j_57, j_59, j_63, j_74, j_75, j_93, j_97, j_99, j_100, j_122, j_200, j_255, j_300, j_465, j_496, j_900, j_999, j_1000, j_65536, j_65537, j_99999, j_252645135, j_858993459, j_1431655765, k_0, k_1, k_27, k_32, k_74, k_75, k_100, k_1000, k_65537, sh, ti_0 (XV_ts V3) R3, ↓ti_0_b (XV_ts V3) R3, ti_1 (XV_ts V3) R3, ↓ti_1_b (XV_ts V3) R3, ti_5 (XV_ts V3) R3, ↓ti_5_b (XV_ts V3) R3, ti_8 (XV_ts V3) R3, ↓ti_8_b (XV_ts V3) R3, ti_11 (XV_ts V3) R3, ↓ti_11_b (XV_ts V3) R3, ti_14 (XV_ts V3) R3, ↓ti_14_b (XV_ts V3) R3, ty_0 (XV_ts V3) R3, ↓ty_0_b (XV_ts V3) R3, ty_4 (XV_ts V3) R3, ↓ty_4_b (XV_ts V3) R3, trf_18 (XV_ts V3), ↓trf_18_b (XV_ts V3), trf_3 (XV_ts V3), ↓trf_3_b (XV_ts V3), trf_4 (XV_ts V3), ↓trf_4_b (XV_ts V3), trf_6 (XV_ts V3), ↓trf_6_b (XV_ts V3), trf_7 (XV_ts V3), ↓trf_7_b (XV_ts V3), trf_9 (XV_ts V3), ↓trf_9_b (XV_ts V3), trf_10 (XV_ts V3), ↓trf_10_b (XV_ts V3), trf_12 (XV_ts V3), ↓trf_12_b (XV_ts V3), trf_13 (XV_ts V3), ↓trf_13_b (XV_ts V3), trf_15 (XV_ts V3), ↓trf_15_b (XV_ts V3), trf_16 (XV_ts V3), ↓trf_16_b (XV_ts V3), trf_17 (XV_ts V3), ↓trf_17_b (XV_ts V3), try_1 (XV_ts V3), ↓try_1_b (XV_ts V3), try_2 (XV_ts V3), ↓try_2_b (XV_ts V3), try_3 (XV_ts V3), ↓try_3_b (XV_ts V3), try_5 (XV_ts V3), ↓try_5_b (XV_ts V3), try_6 (XV_ts V3), ↓try_6_b (XV_ts V3), ta_3 HA.1 (XV_ts V3) R3, ↓ta_3_b HA.1 (XV_ts V3) R3, ta_4 HA.1 (XV_ts V3) R3, ↓ta_4_b HA.1 (XV_ts V3) R3, ta_6 HA.1 (XV_ts V3) R3, ↓ta_6_b HA.1 (XV_ts V3) R3, ta_7 HA.1 (XV_ts V3) R3, ↓ta_7_b HA.1 (XV_ts V3) R3, ta_9 HA.1 (XV_ts V3) R3, ↓ta_9_b HA.1 (XV_ts V3) R3, ta_10 HA.1 (XV_ts V3) R3, ↓ta_10_b HA.1 (XV_ts V3) R3, ta_12 HA.1 (XV_ts V3) R3, ↓ta_12_b HA.1 (XV_ts V3) R3, ta_13 HA.1 (XV_ts V3) R3, ↓ta_13_b HA.1 (XV_ts V3) R3, ta_15 HA.1 (XV_ts V3) R3, ↓ta_15_b HA.1 (XV_ts V3) R3, ta_16 HA.1 (XV_ts V3) R3, ↓ta_16_b HA.1 (XV_ts V3) R3, ta_17 HA.1 (XV_ts V3) R3, ↓ta_17_b HA.1 (XV_ts V3) R3, tz_1 HA.1 (XV_ts V3) R3, ↓tz_1_b HA.1 (XV_ts V3) R3, tz_2 HA.1 (XV_ts V3) R3, ↓tz_2_b HA.1 (XV_ts V3) R3, tz_3 HA.1 (XV_ts V3) R3, ↓tz_3_b HA.1 (XV_ts V3) R3, tz_5 HA.1 (XV_ts V3) R3, ↓tz_5_b HA.1 (XV_ts V3) R3, tz_6 HA.1 (XV_ts V3) R3, ↓tz_6_b HA.1 (XV_ts V3) R3, ↓bn_e (es), es, lg, o_i V3, ↓o_i_b V3, o_p V3, ↓o_p_b V3, o_r4 V3, ↓o_r4_b V3, o_l V3, ↓o_l_b V3, o_pl V3, ↓o_pl_b V3, ↓bn_e (e4), e4, ↓bn_e (g43), g43, ↓bd_e (e5), e5, ll, K_mul, K_add, el, ↓o_pl_b V5, ← hh6, o_r4 V6, ↓o_r4_b V6, ↓bn_e (e6), e6, em, ↓bn_e (g62), g62, lh, eh, ↓o_pl_b V6, ← hh7, ↓bn_e (g71), g71, ↓o_pl_b V7]
            rfl
        · rw [fLn (by omega), hh7, fLn (by omega), hh6, fLn (by omega), fm_fL f5 (by omega), fm_fL f4 (by omega)]; exact x0
        · rw [fLn (by omega), hh7, fLs, s2]
        · rw [fLn (by omega), hh7, fLn (by omega), hh6, fLs, s3]
      · have z0 : shr (qL a 0 0) i n = 0 := by omega
        rw [if_neg c, if_pos z0] at lg
        have m1 : mdr (qL a) (qS a) z n i = 0 := by unfold mdr; rw [z0]; exact ite_self _
        have m2 : mhi (qL a) (qS a) z n i = 0 := by unfold mhi; rw [z0, Int.zero_mul]
        have m3 : mlo (qL a) (qS a) z n i = 0 := by unfold mlo; rw [z0, Int.zero_mul]
        refine ⟨J (i + 1 : Nat), h3, ?_, rfl, f3, x0, by rw [s1, m1, Int.add_zero]; exact x1, by rw [s2, m2, Int.add_zero]; exact x2, by rw [s3, m3, Int.add_zero]; exact x3⟩
        unfold B_mo_follow_59
        try simp only [j_0, j_1, j_2, j_3, j_4, j_5, j_6, j_7, j_8, j_9, j_10, j_11, j_12, j_13, j_14, j_15, j_16, j_17, j_18, j_19, j_20, j_21, j_22, j_23, j_24, j_25, j_26, j_27, j_28, j_29, j_30, j_31, j_32, j_33, j_34, j_35, j_36, j_37, j_38, j_39, j_40, j_41, j_42, j_43, j_44, j_45, j_46, j_47, j_48, j_49, j_50, j_51, j_52, j_57, j_59, j_63, j_74, j_75, j_93, j_97, j_99, j_100, j_122, j_200, j_255, j_300, j_465, j_496, j_900, j_999, j_1000, j_65536, j_65537, j_99999, j_252645135, j_858993459, j_1431655765, k_0, k_1, k_27, k_32, k_74, k_75, k_100, k_1000, k_65537]
        simp (disch := first | with_reducible assumption | omega | trivial) only [↓bn_s1, ↓bd_s1, ↓ei_l1, ↓ei_r1, ↓bn_if, ↓ilt_1, ↓ilt_0, ↓ieq_1, ↓ieq_0, bn_s1, bd_s1, ei_l1, ei_r1, J_add, J_sub, J_mul, J_neg, J_lt, J_le, J_eq, dv_J, rm_J, if_pos, if_neg, ↓reduceIte, bitJ, shlJ, orJ, j_0, j_1, j_2, j_3, j_4, j_5, j_6, j_7, j_8, j_9, j_10, j_11, j_12, j_13, j_14, j_15, j_16, j_17, j_18, j_19, j_20, j_21, j_22, j_23, j_24, j_25, j_26, j_27, j_28, j_29, j_30, j_31, j_32, j_33, j_34, j_35, j_36, j_37, j_38, j_39, j_40, j_41, j_42, j_43, j_44, j_45, j_46, j_47, j_48, j_49, j_50, j_51, j_52, j_57, j_59, j_63, j_74, j_75, j_93, j_97, j_99, j_100, j_122, j_200, j_255, j_300, j_465, j_496, j_900, j_999, j_1000, j_65536, j_65537, j_99999, j_252645135, j_858993459, j_1431655765, k_0, k_1, k_27, k_32, k_74, k_75, k_100, k_1000, k_65537, sh, ti_0 (XV_ts V3) R3, ↓ti_0_b (XV_ts V3) R3, ti_1 (XV_ts V3) R3, ↓ti_1_b (XV_ts V3) R3, ti_5 (XV_ts V3) R3, ↓ti_5_b (XV_ts V3) R3, ti_8 (XV_ts V3) R3, ↓ti_8_b (XV_ts V3) R3, ti_11 (XV_ts V3) R3, ↓ti_11_b (XV_ts V3) R3, ti_14 (XV_ts V3) R3, ↓ti_14_b (XV_ts V3) R3, ty_0 (XV_ts V3) R3, ↓ty_0_b (XV_ts V3) R3, ty_4 (XV_ts V3) R3, ↓ty_4_b (XV_ts V3) R3, trf_18 (XV_ts V3), ↓trf_18_b (XV_ts V3), trf_3 (XV_ts V3), ↓trf_3_b (XV_ts V3), trf_4 (XV_ts V3), ↓trf_4_b (XV_ts V3), trf_6 (XV_ts V3), ↓trf_6_b (XV_ts V3), trf_7 (XV_ts V3), ↓trf_7_b (XV_ts V3), trf_9 (XV_ts V3), ↓trf_9_b (XV_ts V3), trf_10 (XV_ts V3), ↓trf_10_b (XV_ts V3), trf_12 (XV_ts V3), ↓trf_12_b (XV_ts V3), trf_13 (XV_ts V3), ↓trf_13_b (XV_ts V3), trf_15 (XV_ts V3), ↓trf_15_b (XV_ts V3), trf_16 (XV_ts V3), ↓trf_16_b (XV_ts V3), trf_17 (XV_ts V3), ↓trf_17_b (XV_ts V3), try_1 (XV_ts V3), ↓try_1_b (XV_ts V3), try_2 (XV_ts V3), ↓try_2_b (XV_ts V3), try_3 (XV_ts V3), ↓try_3_b (XV_ts V3), try_5 (XV_ts V3), ↓try_5_b (XV_ts V3), try_6 (XV_ts V3), ↓try_6_b (XV_ts V3), ta_3 HA.1 (XV_ts V3) R3, ↓ta_3_b HA.1 (XV_ts V3) R3, ta_4 HA.1 (XV_ts V3) R3, ↓ta_4_b HA.1 (XV_ts V3) R3, ta_6 HA.1 (XV_ts V3) R3, ↓ta_6_b HA.1 (XV_ts V3) R3, ta_7 HA.1 (XV_ts V3) R3, ↓ta_7_b HA.1 (XV_ts V3) R3, ta_9 HA.1 (XV_ts V3) R3, ↓ta_9_b HA.1 (XV_ts V3) R3, ta_10 HA.1 (XV_ts V3) R3, ↓ta_10_b HA.1 (XV_ts V3) R3, ta_12 HA.1 (XV_ts V3) R3, ↓ta_12_b HA.1 (XV_ts V3) R3, ta_13 HA.1 (XV_ts V3) R3, ↓ta_13_b HA.1 (XV_ts V3) R3, ta_15 HA.1 (XV_ts V3) R3, ↓ta_15_b HA.1 (XV_ts V3) R3, ta_16 HA.1 (XV_ts V3) R3, ↓ta_16_b HA.1 (XV_ts V3) R3, ta_17 HA.1 (XV_ts V3) R3, ↓ta_17_b HA.1 (XV_ts V3) R3, tz_1 HA.1 (XV_ts V3) R3, ↓tz_1_b HA.1 (XV_ts V3) R3, tz_2 HA.1 (XV_ts V3) R3, ↓tz_2_b HA.1 (XV_ts V3) R3, tz_3 HA.1 (XV_ts V3) R3, ↓tz_3_b HA.1 (XV_ts V3) R3, tz_5 HA.1 (XV_ts V3) R3, ↓tz_5_b HA.1 (XV_ts V3) R3, tz_6 HA.1 (XV_ts V3) R3, ↓tz_6_b HA.1 (XV_ts V3) R3, ↓bn_e (es), es, lg]
        rfl) (fun s h3 hI => by
      obtain ⟨rfl, f3, x0, x1, x2, x3⟩ := hI
      refine ⟨(), h3, ?_, f3, x0, x1, x2, x3⟩
      unfold B_mo_follow_59
      try simp only [j_0, j_1, j_2, j_3, j_4, j_5, j_6, j_7, j_8, j_9, j_10, j_11, j_12, j_13, j_14, j_15, j_16, j_17, j_18, j_19, j_20, j_21, j_22, j_23, j_24, j_25, j_26, j_27, j_28, j_29, j_30, j_31, j_32, j_33, j_34, j_35, j_36, j_37, j_38, j_39, j_40, j_41, j_42, j_43, j_44, j_45, j_46, j_47, j_48, j_49, j_50, j_51, j_52, j_57, j_59, j_63, j_74, j_75, j_93, j_97, j_99, j_100, j_122, j_200, j_255, j_300, j_465, j_496, j_900, j_999, j_1000, j_65536, j_65537, j_99999, j_252645135, j_858993459, j_1431655765, k_0, k_1, k_27, k_32, k_74, k_75, k_100, k_1000, k_65537]
      simp (disch := first | with_reducible assumption | omega | trivial) only [↓bn_s1, ↓bd_s1, ↓ei_l1, ↓ei_r1, ↓bn_if, ↓ilt_1, ↓ilt_0, ↓ieq_1, ↓ieq_0, bn_s1, bd_s1, ei_l1, ei_r1, J_add, J_sub, J_mul, J_neg, J_lt, J_le, J_eq, dv_J, rm_J, if_pos, if_neg, ↓reduceIte, bitJ, shlJ, orJ, j_0, j_1, j_2, j_3, j_4, j_5, j_6, j_7, j_8, j_9, j_10, j_11, j_12, j_13, j_14, j_15, j_16, j_17, j_18, j_19, j_20, j_21, j_22, j_23, j_24, j_25, j_26, j_27, j_28, j_29, j_30, j_31, j_32, j_33, j_34, j_35, j_36, j_37, j_38, j_39, j_40, j_41, j_42, j_43, j_44, j_45, j_46, j_47, j_48, j_49, j_50, j_51, j_52, j_57, j_59, j_63, j_74, j_75, j_93, j_97, j_99, j_100, j_122, j_200, j_255, j_300, j_465, j_496, j_900, j_999, j_1000, j_65536, j_65537, j_99999, j_252645135, j_858993459, j_1431655765, k_0, k_1, k_27, k_32, k_74, k_75, k_100, k_1000, k_65537, sh])
  refine ⟨h3, ?_, q3⟩
  unfold F_mo_follow
  rw [ck_e (OS_k (XV_m V))]
  try simp only [j_0, j_1, j_2, j_3, j_4, j_5, j_6, j_7, j_8, j_9, j_10, j_11, j_12, j_13, j_14, j_15, j_16, j_17, j_18, j_19, j_20, j_21, j_22, j_23, j_24, j_25, j_26, j_27, j_28, j_29, j_30, j_31, j_32, j_33, j_34, j_35, j_36, j_37, j_38, j_39, j_40, j_41, j_42, j_43, j_44, j_45, j_46, j_47, j_48, j_49, j_50, j_51, j_52, j_57, j_59, j_63, j_74, j_75, j_93, j_97, j_99, j_100, j_122, j_200, j_255, j_300, j_465, j_496, j_900, j_999, j_1000, j_65536, j_65537, j_99999, j_252645135, j_858993459, j_1431655765, k_0, k_1, k_27, k_32, k_74, k_75, k_100, k_1000, k_65537]
  simp (disch := first | with_reducible assumption | omega | trivial) only [↓bn_s1, ↓bd_s1, ↓ei_l1, ↓ei_r1, ↓bn_if, ↓ilt_1, ↓ilt_0, ↓ieq_1, ↓ieq_0, bn_s1, bd_s1, ei_l1, ei_r1, J_add, J_sub, J_mul, J_neg, J_lt, J_le, J_eq, dv_J, rm_J, if_pos, if_neg, ↓reduceIte, bitJ, shlJ, orJ, j_0, j_1, j_2, j_3, j_4, j_5, j_6, j_7, j_8, j_9, j_10, j_11, j_12, j_13, j_14, j_15, j_16, j_17, j_18, j_19, j_20, j_21, j_22, j_23, j_24, j_25, j_26, j_27, j_28, j_29, j_30, j_31, j_32, j_33, j_34, j_35, j_36, j_37, j_38, j_39, j_40, j_41, j_42, j_43, j_44, j_45, j_46, j_47, j_48, j_49, j_50, j_51, j_52, j_57, j_59, j_63, j_74, j_75, j_93, j_97, j_99, j_100, j_122, j_200, j_255, j_300, j_465, j_496, j_900, j_999, j_1000, j_65536, j_65537, j_99999, j_252645135, j_858993459, j_1431655765, k_0, k_1, k_27, k_32, k_74, k_75, k_100, k_1000, k_65537, ↓o_pl_b V, ↓bd_e (e1), e1, ↓o_pl_b V1, ↓o_pl_b Va, ↓o_pl_b Vb, ← hh2, ↓bn_e (ew), ew, ↓bd_e (e3), e3]
