/-! the reference: weeks, mice, as told -/
def sfn (L : Lk) (S : Sk) : Nat → Sk
  | 0 => S
  | n + 1 => sft (sfn L S n) (hn L)
theorem sfn_sw {m : Int} {L : Lk} {S : Sk} (HL : LW L) (hm : 0 ≤ m) (H : SW m L S) : ∀ n, SW m L (sfn L S n) := by
  intro n
  induction n with
  | zero => exact H
  | succ n ih => exact sft_sw HL hm ih
theorem D_softensAll {L : Lk} {b : Nat} {h : Hp} {S : Sk} {n : Nat} (HL : LW L) (HC : RC L b h) (HX : XR S h) (hn' : n ≤ 100) : ∃ h', F_md_softensAll 88 (J n) h = some h' ∧ Fm 91 92 h h' ∧ XR (sfn L S n) h' := by
  have k := MS_k HC.1
  obtain ⟨y, h1, e1, q⟩ := lp_for (b := B_md_softensAll_2 88 (J n)) (f := FU) (s := J 0) (h := h) (fun i s h' => s = J i ∧ Fm 91 92 h h' ∧ XR (sfn L S i) h') (fun _ h' => Fm 91 92 h h' ∧ XR (sfn L S n) h') n (by unfold FU; omega) ⟨rfl, fm_rf _ _ _, HX⟩ (fun i s h1 hi hI => by
      obtain ⟨rfl, f1, g1⟩ := hI
      obtain ⟨h2, e2, f2, g2⟩ := D_softens HL (RC_fm f1 (by omega) HC) g1
      refine ⟨J (i + 1), h2, ?_, rfl, fm_tr f1 f2, g2⟩
      unfold B_md_softensAll_2
      simp (disch := first | with_reducible assumption | omega | trivial) only [bn_s1, bd_s1, ei_l1, ei_r1, gI_J, gL_J, gR_J, aI_J, aL_J, sI_J, sL_J, pI_J, pL_J, J_add, J_sub, J_mul, J_neg, J_lt, J_le, J_eq, dv_J, rm_J, if_pos, if_neg, ↓reduceIte, bitJ, shlJ, orJ, j_0, j_1, j_2, j_3, j_4, j_5, j_6, j_7, j_8, j_9, j_10, j_11, j_12, j_13, j_14, j_15, j_16, j_17, j_18, j_19, j_20, j_21, j_22, j_23, j_24, j_25, j_26, j_27, j_28, j_29, j_30, j_31, j_32, j_33, j_34, j_35, j_36, j_37, j_38, j_39, j_40, j_41, j_42, j_43, j_44, j_45, j_46, j_47, j_48, j_49, j_50, j_51, j_52, j_57, j_59, j_63, j_74, j_75, j_93, j_97, j_99, j_100, j_122, j_200, j_255, j_300, j_465, j_496, j_900, j_999, j_1000, j_65536, j_65537, j_99999, j_252645135, j_858993459, j_1431655765, k_0, k_1, k_27, k_32, k_74, k_75, k_100, k_1000, k_65537, e2]) (fun s h1 hI => by
      obtain ⟨rfl, f1, g1⟩ := hI
      refine ⟨(), h1, ?_, f1, g1⟩
      unfold B_md_softensAll_2
      simp (disch := first | with_reducible assumption | omega | trivial) only [bn_s1, bd_s1, ei_l1, ei_r1, gI_J, gL_J, gR_J, aI_J, aL_J, sI_J, sL_J, pI_J, pL_J, J_add, J_sub, J_mul, J_neg, J_lt, J_le, J_eq, dv_J, rm_J, if_pos, if_neg, ↓reduceIte, bitJ, shlJ, orJ, j_0, j_1, j_2, j_3, j_4, j_5, j_6, j_7, j_8, j_9, j_10, j_11, j_12, j_13, j_14, j_15, j_16, j_17, j_18, j_19, j_20, j_21, j_22, j_23, j_24, j_25, j_26, j_27, j_28, j_29, j_30, j_31, j_32, j_33, j_34, j_35, j_36, j_37, j_38, j_39, j_40, j_41, j_42, j_43, j_44, j_45, j_46, j_47, j_48, j_49, j_50, j_51, j_52, j_57, j_59, j_63, j_74, j_75, j_93, j_97, j_99, j_100, j_122, j_200, j_255, j_300, j_465, j_496, j_900, j_999, j_1000, j_65536, j_65537, j_99999, j_252645135, j_858993459, j_1431655765, k_0, k_1, k_27, k_32, k_74, k_75, k_100, k_1000, k_65537])
  refine ⟨h1, ?_, q⟩
  unfold F_md_softensAll
  rw [ck_e k]
  simp (disch := first | with_reducible assumption | omega | trivial) only [bn_s1, bd_s1, ei_l1, ei_r1, gI_J, gL_J, gR_J, aI_J, aL_J, sI_J, sL_J, pI_J, pL_J, J_add, J_sub, J_mul, J_neg, J_lt, J_le, J_eq, dv_J, rm_J, if_pos, if_neg, ↓reduceIte, bitJ, shlJ, orJ, j_0, j_1, j_2, j_3, j_4, j_5, j_6, j_7, j_8, j_9, j_10, j_11, j_12, j_13, j_14, j_15, j_16, j_17, j_18, j_19, j_20, j_21, j_22, j_23, j_24, j_25, j_26, j_27, j_28, j_29, j_30, j_31, j_32, j_33, j_34, j_35, j_36, j_37, j_38, j_39, j_40, j_41, j_42, j_43, j_44, j_45, j_46, j_47, j_48, j_49, j_50, j_51, j_52, j_57, j_59, j_63, j_74, j_75, j_93, j_97, j_99, j_100, j_122, j_200, j_255, j_300, j_465, j_496, j_900, j_999, j_1000, j_65536, j_65537, j_99999, j_252645135, j_858993459, j_1431655765, k_0, k_1, k_27, k_32, k_74, k_75, k_100, k_1000, k_65537, e1]
def rbk (S : Sk) (z : Int) : Nat → Int
  | 0 => -1
  | i + 1 => if 0 < S (5 * z + i) then (if rbk S z i = -1 then i else if lfk i < lfk (rbk S z i) then i else rbk S z i) else rbk S z i
theorem rbk_b (S : Sk) (z : Int) (i : Nat) : -1 ≤ rbk S z i ∧ rbk S z i < i := by
  induction i with
  | zero => show -1 ≤ (-1 : Int) ∧ (-1 : Int) < 0; omega
  | succ i ih =>
    unfold rbk
    split
    · split
      · omega
      · split <;> omega
    · omega
def rbs (q : Int) (i : Int) (p : Bool) : Int := if p = true then (if q = -1 then i else if lfk i < lfk q then i else q) else q
theorem rb_tab : ∀ p0 p1 p2 p3 p4 : Bool, rbs (rbs (rbs (rbs (rbs (-1) 0 p0) 1 p1) 2 p2) 3 p3) 4 p4 = (if p2 = true then 2 else if p1 = true then 1 else if p3 = true then 3 else if p0 = true then 0 else if p4 = true then 4 else -1) := by decide +kernel
theorem rbk_s (S : Sk) (z : Int) (i : Nat) : rbk S z (i + 1) = rbs (rbk S z i) i (decide (0 < S (5 * z + i))) := by
  unfold rbs
  simp only [decide_eq_true_eq]
  rfl
theorem rbk_e (S : Sk) (z : Int) : rbk S z 5 = bk S z := by
  have t := rb_tab (decide (0 < S (5 * z + (0 : Nat)))) (decide (0 < S (5 * z + (1 : Nat)))) (decide (0 < S (5 * z + (2 : Nat)))) (decide (0 < S (5 * z + (3 : Nat)))) (decide (0 < S (5 * z + (4 : Nat))))
  rw [rbk_s S z 4, rbk_s S z 3, rbk_s S z 2, rbk_s S z 1, rbk_s S z 0]
  refine Eq.trans t ?_
  simp only [decide_eq_true_eq]
  unfold bk
  have e : 5 * z + ((0 : Nat) : Int) = 5 * z := Int.add_zero _
  rw [e]
  rfl
theorem D_loses {L : Lk} {b : Nat} {h : Hp} {S : Sk} {z : Int} (HC : RC L b h) (HX : XR S h) (hW : CW 5000 S) (h0 : 0 ≤ z) (h1 : z < 5) : ∃ h', F_md_loses 88 (J z) h = some (J (if bk S z = -1 then 0 else 1), h') ∧ Fm 91 92 h h' ∧ XR (lse S z) h' := by
  have HM := HC.1
  have k := MS_k HM; have r := MS_r16 HM; have k1 := MS_k16 HM; have n1 := MS_n16 HM
  have e := lq_for (b := B_md_loses_4 88 (J z) h) (r := J (bk S z)) (f := FU) (s := (J (-1), J 0)) (fun i => (J (rbk S z i), J i)) 5 (by decide) rfl (fun i hi => by
      have e2 := HX (5 * z + i) (by omega) (by omega)
      have w := hW (5 * z + i) (by omega) (by omega)
      have rb := rbk_b S z i
      have u : rbk S z (i + 1) = if 0 < S (5 * z + i) then (if rbk S z i = -1 then (i : Int) else if lfk i < lfk (rbk S z i) then (i : Int) else rbk S z i) else rbk S z i := rfl
      have lb : ∀ q : Int, 0 ≤ lfk q ∧ lfk q ≤ 4 := by
        intro q; unfold lfk; split
        · omega
        · split
          · omega
          · split <;> omega
      have lb1 := lb i
      have lb2 := lb (rbk S z i)
      unfold B_md_loses_4
      by_cases c : 0 < S (5 * z + i)
      · rw [if_pos c] at u
        by_cases c2 : rbk S z i = -1
        · rw [if_pos c2] at u
          simp (disch := first | with_reducible assumption | omega | trivial) only [bn_s1, bd_s1, ei_l1, ei_r1, gI_J, gL_J, gR_J, aI_J, aL_J, sI_J, sL_J, pI_J, pL_J, J_add, J_sub, J_mul, J_neg, J_lt, J_le, J_eq, dv_J, rm_J, if_pos, if_neg, ↓reduceIte, bitJ, shlJ, orJ, j_0, j_1, j_2, j_3, j_4, j_5, j_6, j_7, j_8, j_9, j_10, j_11, j_12, j_13, j_14, j_15, j_16, j_17, j_18, j_19, j_20, j_21, j_22, j_23, j_24, j_25, j_26, j_27, j_28, j_29, j_30, j_31, j_32, j_33, j_34, j_35, j_36, j_37, j_38, j_39, j_40, j_41, j_42, j_43, j_44, j_45, j_46, j_47, j_48, j_49, j_50, j_51, j_52, j_57, j_59, j_63, j_74, j_75, j_93, j_97, j_99, j_100, j_122, j_200, j_255, j_300, j_465, j_496, j_900, j_999, j_1000, j_65536, j_65537, j_99999, j_252645135, j_858993459, j_1431655765, k_0, k_1, k_27, k_32, k_74, k_75, k_100, k_1000, k_65537, r, cell_e, e2, u]
          rfl
        · rw [if_neg c2] at u
          by_cases c3 : lfk i < lfk (rbk S z i)
          · rw [if_pos c3] at u
            simp (disch := first | with_reducible assumption | omega | trivial) only [bn_s1, bd_s1, ei_l1, ei_r1, gI_J, gL_J, gR_J, aI_J, aL_J, sI_J, sL_J, pI_J, pL_J, J_add, J_sub, J_mul, J_neg, J_lt, J_le, J_eq, dv_J, rm_J, if_pos, if_neg, ↓reduceIte, bitJ, shlJ, orJ, j_0, j_1, j_2, j_3, j_4, j_5, j_6, j_7, j_8, j_9, j_10, j_11, j_12, j_13, j_14, j_15, j_16, j_17, j_18, j_19, j_20, j_21, j_22, j_23, j_24, j_25, j_26, j_27, j_28, j_29, j_30, j_31, j_32, j_33, j_34, j_35, j_36, j_37, j_38, j_39, j_40, j_41, j_42, j_43, j_44, j_45, j_46, j_47, j_48, j_49, j_50, j_51, j_52, j_57, j_59, j_63, j_74, j_75, j_93, j_97, j_99, j_100, j_122, j_200, j_255, j_300, j_465, j_496, j_900, j_999, j_1000, j_65536, j_65537, j_99999, j_252645135, j_858993459, j_1431655765, k_0, k_1, k_27, k_32, k_74, k_75, k_100, k_1000, k_65537, r, cell_e, e2, lifts_e, u]
            rfl
          · rw [if_neg c3] at u
            simp (disch := first | with_reducible assumption | omega | trivial) only [bn_s1, bd_s1, ei_l1, ei_r1, gI_J, gL_J, gR_J, aI_J, aL_J, sI_J, sL_J, pI_J, pL_J, J_add, J_sub, J_mul, J_neg, J_lt, J_le, J_eq, dv_J, rm_J, if_pos, if_neg, ↓reduceIte, bitJ, shlJ, orJ, j_0, j_1, j_2, j_3, j_4, j_5, j_6, j_7, j_8, j_9, j_10, j_11, j_12, j_13, j_14, j_15, j_16, j_17, j_18, j_19, j_20, j_21, j_22, j_23, j_24, j_25, j_26, j_27, j_28, j_29, j_30, j_31, j_32, j_33, j_34, j_35, j_36, j_37, j_38, j_39, j_40, j_41, j_42, j_43, j_44, j_45, j_46, j_47, j_48, j_49, j_50, j_51, j_52, j_57, j_59, j_63, j_74, j_75, j_93, j_97, j_99, j_100, j_122, j_200, j_255, j_300, j_465, j_496, j_900, j_999, j_1000, j_65536, j_65537, j_99999, j_252645135, j_858993459, j_1431655765, k_0, k_1, k_27, k_32, k_74, k_75, k_100, k_1000, k_65537, r, cell_e, e2, lifts_e, u]
            rfl
      · rw [if_neg c] at u
        simp (disch := first | with_reducible assumption | omega | trivial) only [bn_s1, bd_s1, ei_l1, ei_r1, gI_J, gL_J, gR_J, aI_J, aL_J, sI_J, sL_J, pI_J, pL_J, J_add, J_sub, J_mul, J_neg, J_lt, J_le, J_eq, dv_J, rm_J, if_pos, if_neg, ↓reduceIte, bitJ, shlJ, orJ, j_0, j_1, j_2, j_3, j_4, j_5, j_6, j_7, j_8, j_9, j_10, j_11, j_12, j_13, j_14, j_15, j_16, j_17, j_18, j_19, j_20, j_21, j_22, j_23, j_24, j_25, j_26, j_27, j_28, j_29, j_30, j_31, j_32, j_33, j_34, j_35, j_36, j_37, j_38, j_39, j_40, j_41, j_42, j_43, j_44, j_45, j_46, j_47, j_48, j_49, j_50, j_51, j_52, j_57, j_59, j_63, j_74, j_75, j_93, j_97, j_99, j_100, j_122, j_200, j_255, j_300, j_465, j_496, j_900, j_999, j_1000, j_65536, j_65537, j_99999, j_252645135, j_858993459, j_1431655765, k_0, k_1, k_27, k_32, k_74, k_75, k_100, k_1000, k_65537, r, cell_e, e2, u]
        rfl) (by
      unfold B_md_loses_4
      simp (disch := first | with_reducible assumption | omega | trivial) only [bn_s1, bd_s1, ei_l1, ei_r1, gI_J, gL_J, gR_J, aI_J, aL_J, sI_J, sL_J, pI_J, pL_J, J_add, J_sub, J_mul, J_neg, J_lt, J_le, J_eq, dv_J, rm_J, if_pos, if_neg, ↓reduceIte, bitJ, shlJ, orJ, j_0, j_1, j_2, j_3, j_4, j_5, j_6, j_7, j_8, j_9, j_10, j_11, j_12, j_13, j_14, j_15, j_16, j_17, j_18, j_19, j_20, j_21, j_22, j_23, j_24, j_25, j_26, j_27, j_28, j_29, j_30, j_31, j_32, j_33, j_34, j_35, j_36, j_37, j_38, j_39, j_40, j_41, j_42, j_43, j_44, j_45, j_46, j_47, j_48, j_49, j_50, j_51, j_52, j_57, j_59, j_63, j_74, j_75, j_93, j_97, j_99, j_100, j_122, j_200, j_255, j_300, j_465, j_496, j_900, j_999, j_1000, j_65536, j_65537, j_99999, j_252645135, j_858993459, j_1431655765, k_0, k_1, k_27, k_32, k_74, k_75, k_100, k_1000, k_65537, rbk_e])
  have bb := bk_b S z
  by_cases c : bk S z = -1
  · refine ⟨h, ?_, fm_rf _ _ _, fun i i0 i1 => ?_⟩
    · unfold F_md_loses
      rw [ck_e k]
      simp (disch := first | with_reducible assumption | omega | trivial) only [bn_s1, bd_s1, ei_l1, ei_r1, gI_J, gL_J, gR_J, aI_J, aL_J, sI_J, sL_J, pI_J, pL_J, J_add, J_sub, J_mul, J_neg, J_lt, J_le, J_eq, dv_J, rm_J, if_pos, if_neg, ↓reduceIte, bitJ, shlJ, orJ, j_0, j_1, j_2, j_3, j_4, j_5, j_6, j_7, j_8, j_9, j_10, j_11, j_12, j_13, j_14, j_15, j_16, j_17, j_18, j_19, j_20, j_21, j_22, j_23, j_24, j_25, j_26, j_27, j_28, j_29, j_30, j_31, j_32, j_33, j_34, j_35, j_36, j_37, j_38, j_39, j_40, j_41, j_42, j_43, j_44, j_45, j_46, j_47, j_48, j_49, j_50, j_51, j_52, j_57, j_59, j_63, j_74, j_75, j_93, j_97, j_99, j_100, j_122, j_200, j_255, j_300, j_465, j_496, j_900, j_999, j_1000, j_65536, j_65537, j_99999, j_252645135, j_858993459, j_1431655765, k_0, k_1, k_27, k_32, k_74, k_75, k_100, k_1000, k_65537, e, c]
    · unfold lse
      rw [if_neg (fun q => q.1 c)]
      exact HX i i0 i1
  · have e2 := HX (5 * z + bk S z) (by omega) (by omega)
    have w := hW (5 * z + bk S z) (by omega) (by omega)
    refine ⟨wA h 91 (5 * z + bk S z) (S (5 * z + bk S z) - 1), ?_, fm_wA (by omega) (by omega), fun i i0 i1 => ?_⟩
    · unfold F_md_loses
      rw [ck_e k]
      simp (disch := first | with_reducible assumption | omega | trivial) only [bn_s1, bd_s1, ei_l1, ei_r1, gI_J, gL_J, gR_J, aI_J, aL_J, sI_J, sL_J, pI_J, pL_J, J_add, J_sub, J_mul, J_neg, J_lt, J_le, J_eq, dv_J, rm_J, if_pos, if_neg, ↓reduceIte, bitJ, shlJ, orJ, j_0, j_1, j_2, j_3, j_4, j_5, j_6, j_7, j_8, j_9, j_10, j_11, j_12, j_13, j_14, j_15, j_16, j_17, j_18, j_19, j_20, j_21, j_22, j_23, j_24, j_25, j_26, j_27, j_28, j_29, j_30, j_31, j_32, j_33, j_34, j_35, j_36, j_37, j_38, j_39, j_40, j_41, j_42, j_43, j_44, j_45, j_46, j_47, j_48, j_49, j_50, j_51, j_52, j_57, j_59, j_63, j_74, j_75, j_93, j_97, j_99, j_100, j_122, j_200, j_255, j_300, j_465, j_496, j_900, j_999, j_1000, j_65536, j_65537, j_99999, j_252645135, j_858993459, j_1431655765, k_0, k_1, k_27, k_32, k_74, k_75, k_100, k_1000, k_65537, e, r, cell_e, e2, c]
    · unfold lse
      rw [ia_if (by omega) i0 (by omega) (by omega) (by omega), HX i i0 i1]
      by_cases d : i = 5 * z + bk S z
      · rw [if_pos d, if_pos ⟨c, d⟩, d]
      · rw [if_neg d, if_neg (fun x => d x.2)]
def Fw (h h' : Hp) : Prop := Fm 88 92 h h' ∧ (∀ k, k ≠ 36 → fi h' 88 k = fi h 88 k) ∧ (∀ a, a < 91 → a ≠ 88 → iA h' a = iA h a)
theorem fw_91 {h h' : Hp} (x : Fm 91 92 h h') : Fw h h' := ⟨fm_wd x (by omega) (by omega), fun k _ => fm_fi x (by omega) k, fun a h1 _ => (x.2.2.2.2.2.2 a (by omega)).2.2.1⟩
theorem fw_tr {h h1 h2 : Hp} (x : Fw h h1) (y : Fw h1 h2) : Fw h h2 := ⟨fm_tr x.1 y.1, fun k hk => (y.2.1 k hk).trans (x.2.1 k hk), fun a a1 a2 => (y.2.2 a a1 a2).trans (x.2.2 a a1 a2)⟩
theorem fw_36 (h : Hp) (v : Int) : Fw h (wF h 88 36 v) := ⟨fm_wF (by omega) (by omega), fun k hk => fi_ne (Or.inr hk), fun _ _ _ => rfl⟩
theorem K_int (z : Int) : (K z).toInt32 = J z := Int64.toInt32_ofInt
theorem sdK {S : Sk} (h0 : 0 ≤ S 30) (h1 : S 30 ≤ 65536) : rm64 ((75 : Int64) * (J (S 30)).toInt64 + (74 : Int64)) (65537 : Int64) = some (K (sd S)) := by
  rw [k_75, k_74, k_65537, J_long (by omega) (by omega), K_mul, K_add, rm_K (by omega) (by omega) (by omega) (by omega), Int.tmod_eq_emod_of_nonneg (by omega)]
  rfl
theorem D_aWeek {L : Lk} {b : Nat} {h : Hp} {S : Sk} {m e0 : Int} (HL : LW L) (HC : RC L b h) (HX : XR S h) (HW : SW m L S) (hm : 0 ≤ m ∧ m ≤ 5000) (he : fi h 88 36 = e0) (he0 : 0 ≤ e0 ∧ e0 ≤ 100000) : ∃ h', F_md_aWeek 88 h = some h' ∧ Fw h h' ∧ XR (wkm L S).1 h' ∧ fi h' 88 36 = e0 + (wkm L S).2 := by
  have k := MS_k HC.1
  have b1 := LW_h HL
  have b0 := LW_mice HL
  have hne := hn_e HL
  obtain ⟨h1, e1, f1, g1⟩ := D_softens HL HC HX
  have W1 := sft_sw HL hm.1 HW
  obtain ⟨y, h2, e2, f2, g2, v2⟩ := lp_for (b := B_md_aWeek_6 88) (f := FU) (s := J 0) (h := h1) (fun i s h' => s = J i ∧ Fw h h' ∧ XR (mws L (sft S (hn L), 0) i).1 h' ∧ fi h' 88 36 = e0 + (mws L (sft S (hn L), 0) i).2) (fun _ h' => Fw h h' ∧ XR (wkm L S).1 h' ∧ fi h' 88 36 = e0 + (wkm L S).2) (hn L) (by unfold FU; omega) ⟨rfl, fw_91 f1, g1, by rw [fm_fi f1 (by omega), he]; exact (Int.add_zero _).symm⟩ (fun i s h2 hi hI => by
      obtain ⟨rfl, f2, g2, v2⟩ := hI
      have W2 : SW m L (mws L (sft S (hn L), 0) i).1 := mws_sw HL W1 i (by omega)
      have HC2 := RC_fm f2.1 (by omega) HC
      have rb := HC2.2.1
      have HY := HC2.2.2.1
      have HR := HC2.2.2.2.1
      have yk := YS_k HY; have yr9 := YS_r9 HY; have yk9 := YS_k9 HY; have yn9 := YS_n9 HY
      have ch := HR.1.2.1
      have cm := HR.1.1
      have HM := HC2.1
      have k2 := MS_k HM; have r16 := MS_r16 HM; have k16 := MS_k16 HM; have n16 := MS_n16 HM
      have x9 := (HR.2.1 i (by omega) (by omega)).1
      have l9 := (LW_hs HL i (by omega) (by omega)).1
      have em : mws L (sft S (hn L), 0) (i + 1) = mst L (mws L (sft S (hn L), 0) i) i := rfl
      have hgb := mws_g (L := L) (p := (sft S (hn L), 0)) (by show (0 : Int) ≤ 0; omega) i
      have hgb2 : (mws L (sft S (hn L), 0) i).2 ≤ 0 + i := hgb.2
      generalize mws L (sft S (hn L), 0) i = p at g2 W2 em hgb hgb2 v2 ⊢
      rw [em]
      have q6 := W2.2.2.2.2.2.1
      have q7 := W2.2.2.2.2.2.2
      have sb := sd_b q6
      have v30 := g2 30 (by omega) (by omega)
      by_cases c : L 9 i = 0
      · have es := sdK q6 q7
        have es2 := sdJ2 sb.1 sb.2
        obtain ⟨w, hw⟩ : ∃ w, w = sd p.1 := ⟨_, rfl⟩
        rw [← hw] at es es2 sb
        have fa : Fm 91 92 h2 (wA h2 91 30 w) := fm_wA (by omega) (by omega)
        have HC3 := RC_fm fa (by omega) HC2
        have rb3 := HC3.2.1
        have yk3 := YS_k HC3.2.2.1
        have cm3 := HC3.2.2.2.1.1.1
        have HM3 := HC3.1
        have k3 := MS_k HM3; have r36 := MS_r16 HM3; have k36 := MS_k16 HM3; have n36 := MS_n16 HM3
        have X3 : XR (upS p.1 30 w) (wA h2 91 30 w) := by
          intro j j0 j1
          rw [ia_if (by omega) j0 (by omega) (by omega) (by omega), g2 j j0 j1]
          rfl
        have w30 : ia (wA h2 91 30 w) 91 30 = w := ia_same (by omega) (by omega) (by omega) (by omega)
        by_cases c2 : w % 100 < L 0 0
        · have cw : CW 5000 (upS p.1 30 w) := fun i i0 i1 => by
            unfold upS; rw [if_neg (by omega)]
            have := W2.1 i i0 i1
            omega
          obtain ⟨h4, e4, f4, g4⟩ := D_loses HC3 X3 cw (z := i) (by omega) (by omega)
          have em3 : mst L p i = (lse (upS p.1 30 w) i, p.2 + (if bk (upS p.1 30 w) i = -1 then 0 else 1)) := by unfold mst; rw [if_pos c, ← hw, if_pos c2]
          rw [em3]
          have k4 : kd h4 88 = 13 := by rw [fm_kd f4]; exact k3
          have v4 : fi h4 88 36 = e0 + p.2 := by rw [fm_fi f4 (by omega), fm_fi fa (by omega)]; exact v2
          by_cases c3 : bk (upS p.1 30 w) i = -1
          · rw [if_pos c3] at e4 ⊢
            refine ⟨J (i + 1), h4, ?_, rfl, fw_tr f2 (fw_tr (fw_91 fa) (fw_91 f4)), g4, by rw [v4]; show _ = e0 + (p.2 + 0); omega⟩
            unfold B_md_aWeek_6
            simp (disch := first | with_reducible assumption | omega | trivial) only [bn_s1, gI_J, gR_J, r16, j_30, aI_J, v30, es]
            simp (disch := first | with_reducible assumption | omega | trivial) only [bn_s1, bd_s1, ei_l1, ei_r1, gI_J, gL_J, gR_J, aI_J, aL_J, sI_J, sL_J, pI_J, pL_J, J_add, J_sub, J_mul, J_neg, J_lt, J_le, J_eq, dv_J, if_pos, if_neg, ↓reduceIte, bitJ, shlJ, orJ, j_0, j_1, j_2, j_3, j_4, j_5, j_6, j_7, j_8, j_9, j_10, j_11, j_12, j_13, j_14, j_15, j_16, j_17, j_18, j_19, j_20, j_21, j_22, j_23, j_24, j_25, j_26, j_27, j_28, j_29, j_30, j_31, j_32, j_33, j_34, j_35, j_36, j_37, j_38, j_39, j_40, j_41, j_42, j_43, j_44, j_45, j_46, j_47, j_48, j_49, j_50, j_51, j_52, j_57, j_59, j_63, j_74, j_75, j_93, j_97, j_99, j_100, j_122, j_200, j_255, j_300, j_465, j_496, j_900, j_999, j_1000, j_65536, j_65537, j_99999, j_252645135, j_858993459, j_1431655765, k_0, k_1, k_27, k_32, k_74, k_75, k_100, k_1000, k_65537, rb, ch, yr9, x9, K_int, r36, w30, es2, rb3, cm3, e4]
          · rw [if_neg c3] at e4 ⊢
            refine ⟨J (i + 1), wF h4 88 36 (e0 + p.2 + 1), ?_, rfl, fw_tr f2 (fw_tr (fw_91 fa) (fw_tr (fw_91 f4) (fw_36 _ _))), g4, by rw [fi_same (by omega) (by omega)]; show _ = e0 + (p.2 + 1); omega⟩
            unfold B_md_aWeek_6
            simp (disch := first | with_reducible assumption | omega | trivial) only [bn_s1, gI_J, gR_J, r16, j_30, aI_J, v30, es]
            simp (disch := first | with_reducible assumption | omega | trivial) only [bn_s1, bd_s1, ei_l1, ei_r1, gI_J, gL_J, gR_J, aI_J, aL_J, sI_J, sL_J, pI_J, pL_J, J_add, J_sub, J_mul, J_neg, J_lt, J_le, J_eq, dv_J, if_pos, if_neg, ↓reduceIte, bitJ, shlJ, orJ, j_0, j_1, j_2, j_3, j_4, j_5, j_6, j_7, j_8, j_9, j_10, j_11, j_12, j_13, j_14, j_15, j_16, j_17, j_18, j_19, j_20, j_21, j_22, j_23, j_24, j_25, j_26, j_27, j_28, j_29, j_30, j_31, j_32, j_33, j_34, j_35, j_36, j_37, j_38, j_39, j_40, j_41, j_42, j_43, j_44, j_45, j_46, j_47, j_48, j_49, j_50, j_51, j_52, j_57, j_59, j_63, j_74, j_75, j_93, j_97, j_99, j_100, j_122, j_200, j_255, j_300, j_465, j_496, j_900, j_999, j_1000, j_65536, j_65537, j_99999, j_252645135, j_858993459, j_1431655765, k_0, k_1, k_27, k_32, k_74, k_75, k_100, k_1000, k_65537, rb, ch, yr9, x9, K_int, r36, w30, es2, rb3, cm3, e4, v4]
        · have em3 : mst L p i = (upS p.1 30 w, p.2) := by unfold mst; rw [if_pos c, ← hw, if_neg c2]
          rw [em3]
          refine ⟨J (i + 1), wA h2 91 30 w, ?_, rfl, fw_tr f2 (fw_91 fa), X3, by rw [fm_fi fa (by omega)]; exact v2⟩
          unfold B_md_aWeek_6
          simp (disch := first | with_reducible assumption | omega | trivial) only [bn_s1, gI_J, gR_J, r16, j_30, aI_J, v30, es]
          simp (disch := first | with_reducible assumption | omega | trivial) only [bn_s1, bd_s1, ei_l1, ei_r1, gI_J, gL_J, gR_J, aI_J, aL_J, sI_J, sL_J, pI_J, pL_J, J_add, J_sub, J_mul, J_neg, J_lt, J_le, J_eq, dv_J, if_pos, if_neg, ↓reduceIte, bitJ, shlJ, orJ, j_0, j_1, j_2, j_3, j_4, j_5, j_6, j_7, j_8, j_9, j_10, j_11, j_12, j_13, j_14, j_15, j_16, j_17, j_18, j_19, j_20, j_21, j_22, j_23, j_24, j_25, j_26, j_27, j_28, j_29, j_30, j_31, j_32, j_33, j_34, j_35, j_36, j_37, j_38, j_39, j_40, j_41, j_42, j_43, j_44, j_45, j_46, j_47, j_48, j_49, j_50, j_51, j_52, j_57, j_59, j_63, j_74, j_75, j_93, j_97, j_99, j_100, j_122, j_200, j_255, j_300, j_465, j_496, j_900, j_999, j_1000, j_65536, j_65537, j_99999, j_252645135, j_858993459, j_1431655765, k_0, k_1, k_27, k_32, k_74, k_75, k_100, k_1000, k_65537, rb, ch, yr9, x9, K_int, r36, w30, es2, rb3, cm3]
      · have c1 : L 9 i = 1 := by omega
        have em3 : mst L p i = p := by unfold mst; rw [if_neg c]
        rw [em3]
        refine ⟨J (i + 1), h2, ?_, rfl, f2, g2, v2⟩
        unfold B_md_aWeek_6
        simp (disch := first | with_reducible assumption | omega | trivial) only [bn_s1, bd_s1, ei_l1, ei_r1, gI_J, gL_J, gR_J, aI_J, aL_J, sI_J, sL_J, pI_J, pL_J, J_add, J_sub, J_mul, J_neg, J_lt, J_le, J_eq, dv_J, rm_J, if_pos, if_neg, ↓reduceIte, bitJ, shlJ, orJ, j_0, j_1, j_2, j_3, j_4, j_5, j_6, j_7, j_8, j_9, j_10, j_11, j_12, j_13, j_14, j_15, j_16, j_17, j_18, j_19, j_20, j_21, j_22, j_23, j_24, j_25, j_26, j_27, j_28, j_29, j_30, j_31, j_32, j_33, j_34, j_35, j_36, j_37, j_38, j_39, j_40, j_41, j_42, j_43, j_44, j_45, j_46, j_47, j_48, j_49, j_50, j_51, j_52, j_57, j_59, j_63, j_74, j_75, j_93, j_97, j_99, j_100, j_122, j_200, j_255, j_300, j_465, j_496, j_900, j_999, j_1000, j_65536, j_65537, j_99999, j_252645135, j_858993459, j_1431655765, k_0, k_1, k_27, k_32, k_74, k_75, k_100, k_1000, k_65537, rb, ch, yr9, x9]) (fun s h2 hI => by
      obtain ⟨rfl, f2, g2, v2⟩ := hI
      have HC2 := RC_fm f2.1 (by omega) HC
      have rb := HC2.2.1
      have yk := YS_k HC2.2.2.1
      have ch := HC2.2.2.2.1.1.2.1
      have k2 := MS_k HC2.1
      refine ⟨(), h2, ?_, f2, g2, v2⟩
      unfold B_md_aWeek_6
      simp (disch := first | with_reducible assumption | omega | trivial) only [bn_s1, bd_s1, ei_l1, ei_r1, gI_J, gL_J, gR_J, aI_J, aL_J, sI_J, sL_J, pI_J, pL_J, J_add, J_sub, J_mul, J_neg, J_lt, J_le, J_eq, dv_J, rm_J, if_pos, if_neg, ↓reduceIte, bitJ, shlJ, orJ, j_0, j_1, j_2, j_3, j_4, j_5, j_6, j_7, j_8, j_9, j_10, j_11, j_12, j_13, j_14, j_15, j_16, j_17, j_18, j_19, j_20, j_21, j_22, j_23, j_24, j_25, j_26, j_27, j_28, j_29, j_30, j_31, j_32, j_33, j_34, j_35, j_36, j_37, j_38, j_39, j_40, j_41, j_42, j_43, j_44, j_45, j_46, j_47, j_48, j_49, j_50, j_51, j_52, j_57, j_59, j_63, j_74, j_75, j_93, j_97, j_99, j_100, j_122, j_200, j_255, j_300, j_465, j_496, j_900, j_999, j_1000, j_65536, j_65537, j_99999, j_252645135, j_858993459, j_1431655765, k_0, k_1, k_27, k_32, k_74, k_75, k_100, k_1000, k_65537, rb, ch])
  refine ⟨h2, ?_, f2, g2, v2⟩
  unfold F_md_aWeek
  rw [ck_e k]
  simp (disch := first | with_reducible assumption | omega | trivial) only [bn_s1, bd_s1, ei_l1, ei_r1, gI_J, gL_J, gR_J, aI_J, aL_J, sI_J, sL_J, pI_J, pL_J, J_add, J_sub, J_mul, J_neg, J_lt, J_le, J_eq, dv_J, rm_J, if_pos, if_neg, ↓reduceIte, bitJ, shlJ, orJ, j_0, j_1, j_2, j_3, j_4, j_5, j_6, j_7, j_8, j_9, j_10, j_11, j_12, j_13, j_14, j_15, j_16, j_17, j_18, j_19, j_20, j_21, j_22, j_23, j_24, j_25, j_26, j_27, j_28, j_29, j_30, j_31, j_32, j_33, j_34, j_35, j_36, j_37, j_38, j_39, j_40, j_41, j_42, j_43, j_44, j_45, j_46, j_47, j_48, j_49, j_50, j_51, j_52, j_57, j_59, j_63, j_74, j_75, j_93, j_97, j_99, j_100, j_122, j_200, j_255, j_300, j_465, j_496, j_900, j_999, j_1000, j_65536, j_65537, j_99999, j_252645135, j_858993459, j_1431655765, k_0, k_1, k_27, k_32, k_74, k_75, k_100, k_1000, k_65537, e1, e2]
