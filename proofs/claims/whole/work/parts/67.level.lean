/-! Rafts: firstOf, sizeOf, totalOf, level, measure -/
theorem fst_ex (p : Nat → Bool) (h : Nat) : ∃ m, m ≤ h ∧ (∀ j, j < m → p j = false) ∧ (m < h → p m = true) := by
  induction h with
  | zero => exact ⟨0, by omega, fun j hj => by omega, fun q => by omega⟩
  | succ h ih =>
    obtain ⟨m, h1, h2, h3⟩ := ih
    by_cases hm : m < h
    · exact ⟨m, by omega, h2, fun _ => h3 hm⟩
    · have : m = h := by omega
      subst this
      cases hp : p m with
      | true => exact ⟨m, by omega, h2, fun _ => hp⟩
      | false =>
        refine ⟨m + 1, by omega, fun j hj => ?_, fun q => by omega⟩
        by_cases hj' : j = m
        · rw [hj']; exact hp
        · exact h2 j (by omega)
theorem xneg {a b : Int} (h1 : -2147483648 ≤ a) (h2 : a < 2147483648) (h3 : 0 ≤ b) (h4 : b < 2147483648) : (J a ^^^ J b < J 0) = (a < 0) := by
  have e0 : (J 0).toInt = 0 := by decide
  rw [Int32.lt_iff_toInt_lt, e0]
  have m1 : (J a ^^^ J b).toBitVec.msb = (J a).toBitVec.msb := by
    rw [Int32.toBitVec_xor, BitVec.msb_xor]
    have : (J b).toBitVec.msb = false := by
      rw [BitVec.msb_eq_toInt]
      have : (J b).toBitVec.toInt = b := J_to (by omega) h4
      rw [this]
      exact decide_eq_false (by omega)
    rw [this, Bool.xor_false]
  rw [BitVec.msb_eq_toInt, BitVec.msb_eq_toInt] at m1
  have e1 : (J a).toBitVec.toInt = a := J_to h1 h2
  rw [e1] at m1
  apply propext
  have := decide_eq_decide.mp m1
  exact this
theorem fdiv_e {a b : Int} (h1 : -1000000 ≤ a) (h2 : a ≤ 1000000) (h3 : 1 ≤ b) (h4 : b ≤ 5) : F_ma_floorDiv (J a) (J b) = some (J (a / b)) := by
  unfold F_ma_floorDiv
  rw [dv_J (by omega) (by omega) (by omega) (by omega), bn_s1]
  have hx := xneg (a := a) (b := b) (by omega) (by omega) (by omega) (by omega)
  have hq : a.tdiv b = if 0 ≤ a then a / b else -((-a) / b) := by
    by_cases ha : 0 ≤ a
    · rw [if_pos ha, Int.tdiv_eq_ediv_of_nonneg ha]
    · rw [if_neg ha]
      have : a = -(-a) := by omega
      conv => lhs; rw [this]
      rw [Int.neg_tdiv, Int.tdiv_eq_ediv_of_nonneg (by omega)]
  simp only [j_0, hx, J_mul, j_1, J_sub]
  rw [hq]
  have hb : b = 1 ∨ b = 2 ∨ b = 3 ∨ b = 4 ∨ b = 5 := by omega
  by_cases ha : 0 ≤ a
  · rw [if_neg (by omega), if_pos ha]
  · rw [if_pos (by omega), if_neg ha]
    rcases hb with rfl | rfl | rfl | rfl | rfl
    all_goals
      simp (disch := omega) only [J_eq]
      split
      · congr 2; omega
      · congr 2; omega
theorem down_e {a b : Int} (h1 : -1000000 ≤ a) (h2 : a ≤ 1000000) (h3 : 1 ≤ b) (h4 : b ≤ 5) : F_md_down (J a) (J b) = some (J (a / b)) := by
  unfold F_md_down
  by_cases ha : 0 ≤ a
  · simp (disch := first | with_reducible assumption | omega | trivial) only [bn_s1, bd_s1, ei_l1, ei_r1, gI_J, gL_J, gR_J, aI_J, aL_J, sI_J, sL_J, pI_J, pL_J, J_add, J_sub, J_mul, J_neg, J_lt, J_le, J_eq, dv_J, rm_J, if_pos, if_neg, ↓reduceIte, bitJ, shlJ, orJ, j_0, j_1, j_2, j_3, j_4, j_5, j_6, j_7, j_8, j_9, j_10, j_11, j_12, j_13, j_14, j_15, j_16, j_17, j_18, j_19, j_20, j_21, j_22, j_23, j_24, j_25, j_26, j_27, j_28, j_29, j_30, j_31, j_32, j_33, j_34, j_35, j_36, j_37, j_38, j_39, j_40, j_41, j_42, j_43, j_44, j_45, j_46, j_47, j_48, j_49, j_50, j_51, j_52, j_57, j_59, j_63, j_74, j_75, j_93, j_97, j_99, j_100, j_122, j_200, j_255, j_300, j_465, j_496, j_900, j_999, j_1000, j_65536, j_65537, j_99999, j_252645135, j_858993459, j_1431655765, k_0, k_1, k_27, k_32, k_74, k_75, k_100, k_1000, k_65537]
    rw [Int.tdiv_eq_ediv_of_nonneg ha]
  · simp (disch := first | with_reducible assumption | omega | trivial) only [bn_s1, bd_s1, ei_l1, ei_r1, gI_J, gL_J, gR_J, aI_J, aL_J, sI_J, sL_J, pI_J, pL_J, J_add, J_sub, J_mul, J_neg, J_lt, J_le, J_eq, dv_J, rm_J, if_pos, if_neg, ↓reduceIte, bitJ, shlJ, orJ, j_0, j_1, j_2, j_3, j_4, j_5, j_6, j_7, j_8, j_9, j_10, j_11, j_12, j_13, j_14, j_15, j_16, j_17, j_18, j_19, j_20, j_21, j_22, j_23, j_24, j_25, j_26, j_27, j_28, j_29, j_30, j_31, j_32, j_33, j_34, j_35, j_36, j_37, j_38, j_39, j_40, j_41, j_42, j_43, j_44, j_45, j_46, j_47, j_48, j_49, j_50, j_51, j_52, j_57, j_59, j_63, j_74, j_75, j_93, j_97, j_99, j_100, j_122, j_200, j_255, j_300, j_465, j_496, j_900, j_999, j_1000, j_65536, j_65537, j_99999, j_252645135, j_858993459, j_1431655765, k_0, k_1, k_27, k_32, k_74, k_75, k_100, k_1000, k_65537]
    rw [Int.tdiv_eq_ediv_of_nonneg (by omega)]
    have hb : b = 1 ∨ b = 2 ∨ b = 3 ∨ b = 4 ∨ b = 5 := by omega
    rcases hb with rfl | rfl | rfl | rfl | rfl
    all_goals (congr 2; omega)
def OB (L : Lk) (o : Int → Int) : Prop := ∀ i, 0 ≤ i → i < L 1 0 → -100000 ≤ o i ∧ o i ≤ 100000
theorem tot_b {L : Lk} {o : Int → Int} (HL : LW L) (ho : OB L o) {n : Nat} (hn : n ≤ L 1 0) (x : Nat) : -500000 ≤ tot o n x ∧ tot o n x ≤ 500000 := by
  have b1 := LW_h HL
  have := sm_b (n := n) (f := fun i => if x.testBit i then o i else 0) (a := -100000) (b := 100000) (fun i hi => by
    have := ho i (by omega) (by omega)
    show -100000 ≤ (if x.testBit i = true then o i else 0) ∧ (if x.testBit i = true then o i else 0) ≤ 100000
    by_cases hc : x.testBit i = true
    · rw [if_pos hc]; exact this
    · rw [if_neg hc]; omega)
  unfold tot
  omega
theorem hgo_b {L : Lk} {o : Int → Int} (HL : LW L) (ho : OB L o) (c : Nat) {z : Int} (h0 : 0 ≤ z) (h1 : z < L 1 0) : -500000 ≤ hgo L o c z ∧ hgo L o c z ≤ 500000 := by
  have hp := raft_p HL c h0 h1
  have hb := tot_b HL ho (n := hn L) (by rw [hn_e HL]; omega) (raft L c z)
  unfold hgo
  generalize tot o (hn L) (raft L c z) = a at *
  have : pc5 (raft L c z) = 1 ∨ pc5 (raft L c z) = 2 ∨ pc5 (raft L c z) = 3 ∨ pc5 (raft L c z) = 4 ∨ pc5 (raft L c z) = 5 := by omega
  rcases this with e | e | e | e | e
  all_goals (rw [e]; omega)
theorem C_firstOf {L : Lk} {r : Nat} {h : Hp} {c : Nat} {z : Nat} (HL : LW L) (HX : RS r h) (HB : RB L c r h) (h1 : z < L 1 0) : ∃ m : Nat, F_ra_firstOf r (J z) h = some (J m) ∧ m ≤ z ∧ (∀ j, j < m → (raft L c z).testBit j = false) ∧ (m < z → (raft L c z).testBit m = true) := by
  obtain ⟨m, m1, m2, m3⟩ := fst_ex (fun i => (raft L c z).testBit i) z
  have b1 := LW_h HL
  have k := RS_k HX; have r2 := RS_r2 HX; have k2 := RS_k2 HX; have n2 := RS_n2 HX
  have hp := raft_p HL c (h := z) (by omega) h1
  have hb := HB z (by omega) h1
  refine ⟨m, ?_, m1, m2, m3⟩
  have st : ∀ i, i < m → B_ra_firstOf_2 r (J z) h (J i) = some (.inl (J (i + 1 : Nat))) := fun i hi => by
    have hc : (raft L c z).testBit i = false := m2 i hi
    unfold B_ra_firstOf_2
    simp (disch := first | with_reducible assumption | omega | trivial) only [bn_s1, bd_s1, ei_l1, ei_r1, gI_J, gL_J, gR_J, aI_J, aL_J, sI_J, sL_J, pI_J, pL_J, J_add, J_sub, J_mul, J_neg, J_lt, J_le, J_eq, dv_J, rm_J, if_pos, if_neg, ↓reduceIte, bitJ, shlJ, orJ, j_0, j_1, j_2, j_3, j_4, j_5, j_6, j_7, j_8, j_9, j_10, j_11, j_12, j_13, j_14, j_15, j_16, j_17, j_18, j_19, j_20, j_21, j_22, j_23, j_24, j_25, j_26, j_27, j_28, j_29, j_30, j_31, j_32, j_33, j_34, j_35, j_36, j_37, j_38, j_39, j_40, j_41, j_42, j_43, j_44, j_45, j_46, j_47, j_48, j_49, j_50, j_51, j_52, j_57, j_59, j_63, j_74, j_75, j_93, j_97, j_99, j_100, j_122, j_200, j_255, j_300, j_465, j_496, j_900, j_999, j_1000, j_65536, j_65537, j_99999, j_252645135, j_858993459, j_1431655765, k_0, k_1, k_27, k_32, k_74, k_75, k_100, k_1000, k_65537, r2, hb, hc]
    rfl
  unfold F_ra_firstOf
  rw [ck_e k]
  by_cases hm : m < z
  · have hc : (raft L c z).testBit m = true := m3 hm
    have e := lq_for (b := B_ra_firstOf_2 r (J z) h) (r := .inr (J m)) (f := FU) (s := J 0) (fun i => J i) m (by unfold FU; omega) rfl st (by
      unfold B_ra_firstOf_2
      simp (disch := first | with_reducible assumption | omega | trivial) only [bn_s1, bd_s1, ei_l1, ei_r1, gI_J, gL_J, gR_J, aI_J, aL_J, sI_J, sL_J, pI_J, pL_J, J_add, J_sub, J_mul, J_neg, J_lt, J_le, J_eq, dv_J, rm_J, if_pos, if_neg, ↓reduceIte, bitJ, shlJ, orJ, j_0, j_1, j_2, j_3, j_4, j_5, j_6, j_7, j_8, j_9, j_10, j_11, j_12, j_13, j_14, j_15, j_16, j_17, j_18, j_19, j_20, j_21, j_22, j_23, j_24, j_25, j_26, j_27, j_28, j_29, j_30, j_31, j_32, j_33, j_34, j_35, j_36, j_37, j_38, j_39, j_40, j_41, j_42, j_43, j_44, j_45, j_46, j_47, j_48, j_49, j_50, j_51, j_52, j_57, j_59, j_63, j_74, j_75, j_93, j_97, j_99, j_100, j_122, j_200, j_255, j_300, j_465, j_496, j_900, j_999, j_1000, j_65536, j_65537, j_99999, j_252645135, j_858993459, j_1431655765, k_0, k_1, k_27, k_32, k_74, k_75, k_100, k_1000, k_65537, r2, hb, hc])
    simp (disch := first | with_reducible assumption | omega | trivial) only [bn_s1, bd_s1, ei_l1, ei_r1, gI_J, gL_J, gR_J, aI_J, aL_J, sI_J, sL_J, pI_J, pL_J, J_add, J_sub, J_mul, J_neg, J_lt, J_le, J_eq, dv_J, rm_J, if_pos, if_neg, ↓reduceIte, bitJ, shlJ, orJ, j_0, j_1, j_2, j_3, j_4, j_5, j_6, j_7, j_8, j_9, j_10, j_11, j_12, j_13, j_14, j_15, j_16, j_17, j_18, j_19, j_20, j_21, j_22, j_23, j_24, j_25, j_26, j_27, j_28, j_29, j_30, j_31, j_32, j_33, j_34, j_35, j_36, j_37, j_38, j_39, j_40, j_41, j_42, j_43, j_44, j_45, j_46, j_47, j_48, j_49, j_50, j_51, j_52, j_57, j_59, j_63, j_74, j_75, j_93, j_97, j_99, j_100, j_122, j_200, j_255, j_300, j_465, j_496, j_900, j_999, j_1000, j_65536, j_65537, j_99999, j_252645135, j_858993459, j_1431655765, k_0, k_1, k_27, k_32, k_74, k_75, k_100, k_1000, k_65537, e]
  · have e := lq_for (b := B_ra_firstOf_2 r (J z) h) (r := .inl ()) (f := FU) (s := J 0) (fun i => J i) m (by unfold FU; omega) rfl st (by
      unfold B_ra_firstOf_2
      simp (disch := first | with_reducible assumption | omega | trivial) only [bn_s1, bd_s1, ei_l1, ei_r1, gI_J, gL_J, gR_J, aI_J, aL_J, sI_J, sL_J, pI_J, pL_J, J_add, J_sub, J_mul, J_neg, J_lt, J_le, J_eq, dv_J, rm_J, if_pos, if_neg, ↓reduceIte, bitJ, shlJ, orJ, j_0, j_1, j_2, j_3, j_4, j_5, j_6, j_7, j_8, j_9, j_10, j_11, j_12, j_13, j_14, j_15, j_16, j_17, j_18, j_19, j_20, j_21, j_22, j_23, j_24, j_25, j_26, j_27, j_28, j_29, j_30, j_31, j_32, j_33, j_34, j_35, j_36, j_37, j_38, j_39, j_40, j_41, j_42, j_43, j_44, j_45, j_46, j_47, j_48, j_49, j_50, j_51, j_52, j_57, j_59, j_63, j_74, j_75, j_93, j_97, j_99, j_100, j_122, j_200, j_255, j_300, j_465, j_496, j_900, j_999, j_1000, j_65536, j_65537, j_99999, j_252645135, j_858993459, j_1431655765, k_0, k_1, k_27, k_32, k_74, k_75, k_100, k_1000, k_65537, r2, hb])
    simp (disch := first | with_reducible assumption | omega | trivial) only [bn_s1, bd_s1, ei_l1, ei_r1, gI_J, gL_J, gR_J, aI_J, aL_J, sI_J, sL_J, pI_J, pL_J, J_add, J_sub, J_mul, J_neg, J_lt, J_le, J_eq, dv_J, rm_J, if_pos, if_neg, ↓reduceIte, bitJ, shlJ, orJ, j_0, j_1, j_2, j_3, j_4, j_5, j_6, j_7, j_8, j_9, j_10, j_11, j_12, j_13, j_14, j_15, j_16, j_17, j_18, j_19, j_20, j_21, j_22, j_23, j_24, j_25, j_26, j_27, j_28, j_29, j_30, j_31, j_32, j_33, j_34, j_35, j_36, j_37, j_38, j_39, j_40, j_41, j_42, j_43, j_44, j_45, j_46, j_47, j_48, j_49, j_50, j_51, j_52, j_57, j_59, j_63, j_74, j_75, j_93, j_97, j_99, j_100, j_122, j_200, j_255, j_300, j_465, j_496, j_900, j_999, j_1000, j_65536, j_65537, j_99999, j_252645135, j_858993459, j_1431655765, k_0, k_1, k_27, k_32, k_74, k_75, k_100, k_1000, k_65537, e]
    congr 2
    omega
theorem C_sizeOf {L : Lk} {r : Nat} {h : Hp} {c : Nat} {z : Int} (HL : LW L) (HX : RS r h) (HB : RB L c r h) (h0 : 0 ≤ z) (h1 : z < L 1 0) : F_ra_sizeOf r (J z) h = some (J (pc5 (raft L c z) : Nat)) := by
  have b1 := LW_h HL
  have k := RS_k HX; have r2 := RS_r2 HX; have k2 := RS_k2 HX; have n2 := RS_n2 HX
  have hp := raft_p HL c h0 h1
  unfold F_ra_sizeOf
  rw [ck_e k]
  simp (disch := first | with_reducible assumption | omega | trivial) only [bn_s1, bd_s1, ei_l1, ei_r1, gI_J, gL_J, gR_J, aI_J, aL_J, sI_J, sL_J, pI_J, pL_J, J_add, J_sub, J_mul, J_neg, J_lt, J_le, J_eq, dv_J, rm_J, if_pos, if_neg, ↓reduceIte, bitJ, shlJ, orJ, j_0, j_1, j_2, j_3, j_4, j_5, j_6, j_7, j_8, j_9, j_10, j_11, j_12, j_13, j_14, j_15, j_16, j_17, j_18, j_19, j_20, j_21, j_22, j_23, j_24, j_25, j_26, j_27, j_28, j_29, j_30, j_31, j_32, j_33, j_34, j_35, j_36, j_37, j_38, j_39, j_40, j_41, j_42, j_43, j_44, j_45, j_46, j_47, j_48, j_49, j_50, j_51, j_52, j_57, j_59, j_63, j_74, j_75, j_93, j_97, j_99, j_100, j_122, j_200, j_255, j_300, j_465, j_496, j_900, j_999, j_1000, j_65536, j_65537, j_99999, j_252645135, j_858993459, j_1431655765, k_0, k_1, k_27, k_32, k_74, k_75, k_100, k_1000, k_65537, r2, HB z h0 h1, bc_J _ hp.2.1]
theorem C_totalOf {L : Lk} {r : Nat} {h : Hp} {c : Nat} {o : Int → Int} {z : Int} (HL : LW L) (HX : RS r h) (hh : fi h r 0 = L 1 0) (HB : RB L c r h) (HO : ROw L o r h) (h0 : 0 ≤ z) (h1 : z < L 1 0) : F_ra_totalOf r (J z) h = some (J (tot o (hn L) (raft L c z))) := by
  have b1 := LW_h HL
  have k := RS_k HX; have r2 := RS_r2 HX; have k2 := RS_k2 HX; have n2 := RS_n2 HX; have r1 := RS_r1 HX; have k1 := RS_k1 HX; have n1 := RS_n1 HX
  have hp := raft_p HL c h0 h1
  have e := lq_for (b := B_ra_totalOf_4 r (J z) h) (r := J (tot o (hn L) (raft L c z))) (f := FU) (s := (J 0, J 0)) (fun i => (J (tot o i (raft L c z)), J i)) (hn L) (by have := hn_e HL; unfold FU; omega) rfl (fun i hi => by
    have hi' : (i : Int) < L 1 0 := by rw [← hn_e HL]; omega
    have e6 : tot o (i + 1) (raft L c z) = tot o i (raft L c z) + if (raft L c z).testBit i then o i else 0 := rfl
    unfold B_ra_totalOf_4
    by_cases hc : (raft L c z).testBit i = true
    · rw [if_pos hc] at e6
      simp (disch := first | with_reducible assumption | omega | trivial) only [bn_s1, bd_s1, ei_l1, ei_r1, gI_J, gL_J, gR_J, aI_J, aL_J, sI_J, sL_J, pI_J, pL_J, J_add, J_sub, J_mul, J_neg, J_lt, J_le, J_eq, dv_J, rm_J, if_pos, if_neg, ↓reduceIte, bitJ, shlJ, orJ, j_0, j_1, j_2, j_3, j_4, j_5, j_6, j_7, j_8, j_9, j_10, j_11, j_12, j_13, j_14, j_15, j_16, j_17, j_18, j_19, j_20, j_21, j_22, j_23, j_24, j_25, j_26, j_27, j_28, j_29, j_30, j_31, j_32, j_33, j_34, j_35, j_36, j_37, j_38, j_39, j_40, j_41, j_42, j_43, j_44, j_45, j_46, j_47, j_48, j_49, j_50, j_51, j_52, j_57, j_59, j_63, j_74, j_75, j_93, j_97, j_99, j_100, j_122, j_200, j_255, j_300, j_465, j_496, j_900, j_999, j_1000, j_65536, j_65537, j_99999, j_252645135, j_858993459, j_1431655765, k_0, k_1, k_27, k_32, k_74, k_75, k_100, k_1000, k_65537, hh, r2, HB z h0 h1, hc, r1, HO i (by omega) hi', e6]
      rfl
    · rw [if_neg hc, Int.add_zero] at e6
      simp (disch := first | with_reducible assumption | omega | trivial) only [bn_s1, bd_s1, ei_l1, ei_r1, gI_J, gL_J, gR_J, aI_J, aL_J, sI_J, sL_J, pI_J, pL_J, J_add, J_sub, J_mul, J_neg, J_lt, J_le, J_eq, dv_J, rm_J, if_pos, if_neg, ↓reduceIte, bitJ, shlJ, orJ, j_0, j_1, j_2, j_3, j_4, j_5, j_6, j_7, j_8, j_9, j_10, j_11, j_12, j_13, j_14, j_15, j_16, j_17, j_18, j_19, j_20, j_21, j_22, j_23, j_24, j_25, j_26, j_27, j_28, j_29, j_30, j_31, j_32, j_33, j_34, j_35, j_36, j_37, j_38, j_39, j_40, j_41, j_42, j_43, j_44, j_45, j_46, j_47, j_48, j_49, j_50, j_51, j_52, j_57, j_59, j_63, j_74, j_75, j_93, j_97, j_99, j_100, j_122, j_200, j_255, j_300, j_465, j_496, j_900, j_999, j_1000, j_65536, j_65537, j_99999, j_252645135, j_858993459, j_1431655765, k_0, k_1, k_27, k_32, k_74, k_75, k_100, k_1000, k_65537, hh, r2, HB z h0 h1, hc, e6]
      rfl) (by
    have := hn_e HL
    unfold B_ra_totalOf_4
    simp (disch := first | with_reducible assumption | omega | trivial) only [bn_s1, bd_s1, ei_l1, ei_r1, gI_J, gL_J, gR_J, aI_J, aL_J, sI_J, sL_J, pI_J, pL_J, J_add, J_sub, J_mul, J_neg, J_lt, J_le, J_eq, dv_J, rm_J, if_pos, if_neg, ↓reduceIte, bitJ, shlJ, orJ, j_0, j_1, j_2, j_3, j_4, j_5, j_6, j_7, j_8, j_9, j_10, j_11, j_12, j_13, j_14, j_15, j_16, j_17, j_18, j_19, j_20, j_21, j_22, j_23, j_24, j_25, j_26, j_27, j_28, j_29, j_30, j_31, j_32, j_33, j_34, j_35, j_36, j_37, j_38, j_39, j_40, j_41, j_42, j_43, j_44, j_45, j_46, j_47, j_48, j_49, j_50, j_51, j_52, j_57, j_59, j_63, j_74, j_75, j_93, j_97, j_99, j_100, j_122, j_200, j_255, j_300, j_465, j_496, j_900, j_999, j_1000, j_65536, j_65537, j_99999, j_252645135, j_858993459, j_1431655765, k_0, k_1, k_27, k_32, k_74, k_75, k_100, k_1000, k_65537, hh])
  unfold F_ra_totalOf
  rw [ck_e k]
  simp (disch := first | with_reducible assumption | omega | trivial) only [bn_s1, bd_s1, ei_l1, ei_r1, gI_J, gL_J, gR_J, aI_J, aL_J, sI_J, sL_J, pI_J, pL_J, J_add, J_sub, J_mul, J_neg, J_lt, J_le, J_eq, dv_J, rm_J, if_pos, if_neg, ↓reduceIte, bitJ, shlJ, orJ, j_0, j_1, j_2, j_3, j_4, j_5, j_6, j_7, j_8, j_9, j_10, j_11, j_12, j_13, j_14, j_15, j_16, j_17, j_18, j_19, j_20, j_21, j_22, j_23, j_24, j_25, j_26, j_27, j_28, j_29, j_30, j_31, j_32, j_33, j_34, j_35, j_36, j_37, j_38, j_39, j_40, j_41, j_42, j_43, j_44, j_45, j_46, j_47, j_48, j_49, j_50, j_51, j_52, j_57, j_59, j_63, j_74, j_75, j_93, j_97, j_99, j_100, j_122, j_200, j_255, j_300, j_465, j_496, j_900, j_999, j_1000, j_65536, j_65537, j_99999, j_252645135, j_858993459, j_1431655765, k_0, k_1, k_27, k_32, k_74, k_75, k_100, k_1000, k_65537, e]
theorem C_level {L : Lk} {r : Nat} {h : Hp} {c : Nat} {o : Int → Int} (HL : LW L) (HX : RS r h) (hh : fi h r 0 = L 1 0) (HB : RB L c r h) (HO : ROw L o r h) (ho : OB L o) (hr : r < 1000) : ∃ h', F_ra_level r h = some h' ∧ Fm (r + 3) (r + 4) h h' ∧ RH L o c r h' := by
  have k := RS_k HX
  have b1 := LW_h HL
  obtain ⟨y, h1, e1, q1⟩ := lp_for (b := B_ra_level_2 r) (f := FU) (s := J 0) (h := h) (fun i s h' => s = J i ∧ Fm (r + 3) (r + 4) h h' ∧ (∀ j : Int, 0 ≤ j → j < i → ia h' (r + 3) j = hgo L o c j)) (fun _ h' => Fm (r + 3) (r + 4) h h' ∧ RH L o c r h') (L 1 0).toNat (by unfold FU; omega) ⟨rfl, fm_rf _ _ _, fun j j0 j1 => by omega⟩ (fun i s h1 hi hI => by
      obtain ⟨rfl, f1, g1⟩ := hI
      have HX1 := RS_fm f1 HX
      have k1 := RS_k HX1; have r3 := RS_r3 HX1; have k13 := RS_k3 HX1; have n13 := RS_n3 HX1
      have e1 : fi h1 r 0 = L 1 0 := by rw [fm_fi f1 (by omega)]; exact hh
      have HB1 : RB L c r h1 := fun j j0 j1 => by rw [fm_ia f1 (by omega)]; exact HB j j0 j1
      have HO1 : ROw L o r h1 := fun j j0 j1 => by rw [fm_ia f1 (by omega)]; exact HO j j0 j1
      obtain ⟨m, e2, m1, m2, m3⟩ := C_firstOf HL HX1 HB1 (z := i) (by omega)
      have hp := raft_p HL c (h := i) (by omega) (by omega)
      have hb := hgo_b HL ho c (z := i) (by omega) (by omega)
      have fin : ∀ v, v = hgo L o c i → (∀ j : Int, 0 ≤ j → j < ((i + 1 : Nat) : Int) → ia (wA h1 (r + 3) i v) (r + 3) j = hgo L o c j) := by
        intro v hv j j0 j1
        by_cases hj : j = i
        · rw [hj, hv, ia_same (by omega) (by omega) (by omega) (by omega)]
        · rw [ia_ne (by omega) (by omega) hj, g1 j (by omega) (by omega)]
      by_cases hm : m < i
      · have g := g1 m (by omega) (by omega)
        have es : raft L c m = raft L c i := raft_s HL c (by omega) (by omega) (by omega) (by omega) (m3 hm)
        have eh : hgo L o c m = hgo L o c i := by unfold hgo; rw [es]
        refine ⟨J (i + 1), wA h1 (r + 3) i (hgo L o c i), ?_, rfl, fm_tr f1 (fm_wA (by omega) (by omega)), fin _ rfl⟩
        unfold B_ra_level_2
        simp (disch := first | with_reducible assumption | omega | trivial) only [bn_s1, bd_s1, ei_l1, ei_r1, gI_J, gL_J, gR_J, aI_J, aL_J, sI_J, sL_J, pI_J, pL_J, J_add, J_sub, J_mul, J_neg, J_lt, J_le, J_eq, dv_J, rm_J, if_pos, if_neg, ↓reduceIte, bitJ, shlJ, orJ, j_0, j_1, j_2, j_3, j_4, j_5, j_6, j_7, j_8, j_9, j_10, j_11, j_12, j_13, j_14, j_15, j_16, j_17, j_18, j_19, j_20, j_21, j_22, j_23, j_24, j_25, j_26, j_27, j_28, j_29, j_30, j_31, j_32, j_33, j_34, j_35, j_36, j_37, j_38, j_39, j_40, j_41, j_42, j_43, j_44, j_45, j_46, j_47, j_48, j_49, j_50, j_51, j_52, j_57, j_59, j_63, j_74, j_75, j_93, j_97, j_99, j_100, j_122, j_200, j_255, j_300, j_465, j_496, j_900, j_999, j_1000, j_65536, j_65537, j_99999, j_252645135, j_858993459, j_1431655765, k_0, k_1, k_27, k_32, k_74, k_75, k_100, k_1000, k_65537, e1, e2, r3, g, eh]
      · have ht := tot_b HL ho (n := hn L) (by rw [hn_e HL]; omega) (raft L c i)
        have ef := fdiv_e (a := tot o (hn L) (raft L c i)) (b := (pc5 (raft L c i) : Nat)) (by omega) (by omega) (by omega) (by omega)
        refine ⟨J (i + 1), wA h1 (r + 3) i (hgo L o c i), ?_, rfl, fm_tr f1 (fm_wA (by omega) (by omega)), fin _ rfl⟩
        have hx : tot o (hn L) (raft L c i) / (pc5 (raft L c i) : Nat) = hgo L o c i := rfl
        unfold B_ra_level_2
        simp (disch := first | with_reducible assumption | omega | trivial) only [bn_s1, bd_s1, ei_l1, ei_r1, gI_J, gL_J, gR_J, aI_J, aL_J, sI_J, sL_J, pI_J, pL_J, J_add, J_sub, J_mul, J_neg, J_lt, J_le, J_eq, dv_J, rm_J, if_pos, if_neg, ↓reduceIte, bitJ, shlJ, orJ, j_0, j_1, j_2, j_3, j_4, j_5, j_6, j_7, j_8, j_9, j_10, j_11, j_12, j_13, j_14, j_15, j_16, j_17, j_18, j_19, j_20, j_21, j_22, j_23, j_24, j_25, j_26, j_27, j_28, j_29, j_30, j_31, j_32, j_33, j_34, j_35, j_36, j_37, j_38, j_39, j_40, j_41, j_42, j_43, j_44, j_45, j_46, j_47, j_48, j_49, j_50, j_51, j_52, j_57, j_59, j_63, j_74, j_75, j_93, j_97, j_99, j_100, j_122, j_200, j_255, j_300, j_465, j_496, j_900, j_999, j_1000, j_65536, j_65537, j_99999, j_252645135, j_858993459, j_1431655765, k_0, k_1, k_27, k_32, k_74, k_75, k_100, k_1000, k_65537, e1, e2, r3, C_sizeOf HL HX1 HB1, C_totalOf HL HX1 e1 HB1 HO1, ef, hx]) (fun s h1 hI => by
      obtain ⟨rfl, f1, g1⟩ := hI
      have k1 := RS_k (RS_fm f1 HX)
      have e1 : fi h1 r 0 = L 1 0 := by rw [fm_fi f1 (by omega)]; exact hh
      refine ⟨(), h1, ?_, f1, fun i i0 i1 => g1 i i0 (by omega)⟩
      unfold B_ra_level_2
      simp (disch := first | with_reducible assumption | omega | trivial) only [bn_s1, bd_s1, ei_l1, ei_r1, gI_J, gL_J, gR_J, aI_J, aL_J, sI_J, sL_J, pI_J, pL_J, J_add, J_sub, J_mul, J_neg, J_lt, J_le, J_eq, dv_J, rm_J, if_pos, if_neg, ↓reduceIte, bitJ, shlJ, orJ, j_0, j_1, j_2, j_3, j_4, j_5, j_6, j_7, j_8, j_9, j_10, j_11, j_12, j_13, j_14, j_15, j_16, j_17, j_18, j_19, j_20, j_21, j_22, j_23, j_24, j_25, j_26, j_27, j_28, j_29, j_30, j_31, j_32, j_33, j_34, j_35, j_36, j_37, j_38, j_39, j_40, j_41, j_42, j_43, j_44, j_45, j_46, j_47, j_48, j_49, j_50, j_51, j_52, j_57, j_59, j_63, j_74, j_75, j_93, j_97, j_99, j_100, j_122, j_200, j_255, j_300, j_465, j_496, j_900, j_999, j_1000, j_65536, j_65537, j_99999, j_252645135, j_858993459, j_1431655765, k_0, k_1, k_27, k_32, k_74, k_75, k_100, k_1000, k_65537, e1])
  refine ⟨h1, ?_, q1⟩
  unfold F_ra_level
  rw [ck_e k]
  simp (disch := first | with_reducible assumption | omega | trivial) only [bn_s1, bd_s1, ei_l1, ei_r1, gI_J, gL_J, gR_J, aI_J, aL_J, sI_J, sL_J, pI_J, pL_J, J_add, J_sub, J_mul, J_neg, J_lt, J_le, J_eq, dv_J, rm_J, if_pos, if_neg, ↓reduceIte, bitJ, shlJ, orJ, j_0, j_1, j_2, j_3, j_4, j_5, j_6, j_7, j_8, j_9, j_10, j_11, j_12, j_13, j_14, j_15, j_16, j_17, j_18, j_19, j_20, j_21, j_22, j_23, j_24, j_25, j_26, j_27, j_28, j_29, j_30, j_31, j_32, j_33, j_34, j_35, j_36, j_37, j_38, j_39, j_40, j_41, j_42, j_43, j_44, j_45, j_46, j_47, j_48, j_49, j_50, j_51, j_52, j_57, j_59, j_63, j_74, j_75, j_93, j_97, j_99, j_100, j_122, j_200, j_255, j_300, j_465, j_496, j_900, j_999, j_1000, j_65536, j_65537, j_99999, j_252645135, j_858993459, j_1431655765, k_0, k_1, k_27, k_32, k_74, k_75, k_100, k_1000, k_65537, e1]
/-- what a Rafts object holds when measured -/
def RM (L : Lk) (o : Int → Int) (c : Nat) (r : Nat) (h : Hp) : Prop := fi h r 0 = L 1 0 ∧ ROw L o r h ∧ RB L c r h ∧ RH L o c r h
theorem net_ob {m : Int} {L : Lk} (H : LW L) {S : Sk} (HS : CW m S) (hm : m ≤ 5000) : OB L (net L S) := by
  intro i i0 i1
  have := net_b H HS i0 i1
  omega
theorem C_measure {L : Lk} {r t b : Nat} {h : Hp} {S : Sk} {m : Int} (HL : LW L) (HC : CR h) (HX : RS r h) (HT : TS t h) (HR : TR L t h) (H : SS b h) (HS : SR L b S h) (hg : gok L S) (hS : CW m S) (hm : m ≤ 5000) (hc0 : 0 ≤ S 28) (hc : (S 28).toNat < 2 ^ rn L) (d1 : t + 18 ≤ r ∨ r + 4 ≤ t) (d2 : b + 3 ≤ r ∨ r + 4 ≤ b) (hr : r < 1000) : ∃ h', F_ra_measure r t b h = some h' ∧ Fm r (r + 4) h h' ∧ RM L (net L S) (S 28).toNat r h' := by
  obtain ⟨h1, e1, f1, g1, o1, _⟩ := C_weigh HL HC HX HT HR H HS hg hS hm d1 d2 hr
  have HX1 := RS_fm f1 HX
  have HT1 := TS_fm f1 HT
  have HR1 := TR_fm f1 d1 HR
  obtain ⟨h2, e2, f2, o2⟩ := C_join HL HX1 HT1 HR1 g1 hc d1 hr
  have HX2 := RS_fm f2 HX1
  have g2 : fi h2 r 0 = L 1 0 := by rw [fm_fi f2 (by omega)]; exact g1
  have p2 : ROw L (net L S) r h2 := fun j j0 j1 => by rw [fm_ia f2 (by omega)]; exact o1 j j0 j1
  obtain ⟨h3, e3, f3, o3⟩ := C_level HL HX2 g2 o2 p2 (net_ob HL hS hm) hr
  have k := RS_k HX
  have sk := SS_k (SS_fm f1 H)
  have et : fi h1 b 2 = 2 ^ rn L - 1 - ((S 28).toNat : Int) := by
    rw [fm_fi f1 (by omega), HS.2.2.1]
    congr 1
    omega
  refine ⟨h3, ?_, fm_tr f1 (fm_tr (fm_wd f2 (by omega) (by omega)) (fm_wd f3 (by omega) (by omega))), ?_, ?_, ?_, o3⟩
  · unfold F_ra_measure
    rw [ck_e k]
    simp (disch := first | with_reducible assumption | omega | trivial) only [bn_s1, bd_s1, ei_l1, ei_r1, gI_J, gL_J, gR_J, aI_J, aL_J, sI_J, sL_J, pI_J, pL_J, J_add, J_sub, J_mul, J_neg, J_lt, J_le, J_eq, dv_J, rm_J, if_pos, if_neg, ↓reduceIte, bitJ, shlJ, orJ, j_0, j_1, j_2, j_3, j_4, j_5, j_6, j_7, j_8, j_9, j_10, j_11, j_12, j_13, j_14, j_15, j_16, j_17, j_18, j_19, j_20, j_21, j_22, j_23, j_24, j_25, j_26, j_27, j_28, j_29, j_30, j_31, j_32, j_33, j_34, j_35, j_36, j_37, j_38, j_39, j_40, j_41, j_42, j_43, j_44, j_45, j_46, j_47, j_48, j_49, j_50, j_51, j_52, j_57, j_59, j_63, j_74, j_75, j_93, j_97, j_99, j_100, j_122, j_200, j_255, j_300, j_465, j_496, j_900, j_999, j_1000, j_65536, j_65537, j_99999, j_252645135, j_858993459, j_1431655765, k_0, k_1, k_27, k_32, k_74, k_75, k_100, k_1000, k_65537, e1, et, e2, e3]
  · rw [fm_fi f3 (by omega)]; exact g2
  · intro j j0 j1; rw [fm_ia f3 (by omega)]; exact p2 j j0 j1
  · intro j j0 j1; rw [fm_ia f3 (by omega)]; exact o2 j j0 j1
