/-! aunt -/
def w_au (q T w : Int) : Nat := fsi (fun i => decide (¬ (i * q < w - T))) 301
theorem lfk_r (k : Int) : lfk k = 1 ∨ lfk k = 2 ∨ lfk k = 3 ∨ lfk k = 4 := by
  unfold lfk
  split
  · omega
  · split
    · omega
    · split <;> omega
theorem aun_c {q T w : Int} (hq : q = 1 ∨ q = 2 ∨ q = 3 ∨ q = 4) (hT : -500000 ≤ T ∧ T ≤ 500000) (hw : 0 ≤ w ∧ w ≤ 99) : lq (B_cs_aunt_72 (J (w - T)) (J q)) FU (J 0) = some (if w_au q T w < 301 then Sum.inr (J (w_au q T w : Nat)) else Sum.inl ()) := by
  obtain ⟨m1, m2, m3⟩ := fsi_p (fun i => decide (¬ (i * q < w - T))) 301
  have wl : w_au q T w ≤ 301 := m1
  have wb : ∀ i : Nat, i ≤ 301 → 0 ≤ (i : Int) * q ∧ (i : Int) * q ≤ 1204 := by
    intro i hi
    rcases hq with rfl | rfl | rfl | rfl <;> omega
  have st : ∀ i, i < w_au q T w → B_cs_aunt_72 (J (w - T)) (J q) (J i) = some (.inl (J (i + 1 : Nat))) := fun i hi => by
    have nn : (i : Int) * q < w - T := by
      have := of_decide_eq_false (m2 i hi)
      exact Decidable.not_not.mp this
    have bb := wb i (by omega)
    unfold B_cs_aunt_72
    simp (disch := first | with_reducible assumption | omega | trivial) only [bn_s1, bd_s1, ei_l1, ei_r1, gI_J, gL_J, gR_J, aI_J, aL_J, sI_J, sL_J, pI_J, pL_J, J_add, J_sub, J_mul, J_neg, J_lt, J_le, J_eq, dv_J, rm_J, if_pos, if_neg, ↓reduceIte, bitJ, shlJ, orJ, j_0, j_1, j_2, j_3, j_4, j_5, j_6, j_7, j_8, j_9, j_10, j_11, j_12, j_13, j_14, j_15, j_16, j_17, j_18, j_19, j_20, j_21, j_22, j_23, j_24, j_25, j_26, j_27, j_28, j_29, j_30, j_31, j_32, j_33, j_34, j_35, j_36, j_37, j_38, j_39, j_40, j_41, j_42, j_43, j_44, j_45, j_46, j_47, j_48, j_49, j_50, j_51, j_52, j_57, j_59, j_63, j_74, j_75, j_93, j_97, j_99, j_100, j_122, j_200, j_255, j_300, j_465, j_496, j_900, j_999, j_1000, j_65536, j_65537, j_99999, j_252645135, j_858993459, j_1431655765, k_0, k_1, k_27, k_32, k_74, k_75, k_100, k_1000, k_65537]
    rfl
  by_cases cm : w_au q T w < 301
  · rw [if_pos cm]
    have yy : ¬ ((w_au q T w : Nat) : Int) * q < w - T := of_decide_eq_true (m3 cm)
    have bb := wb (w_au q T w) (by omega)
    refine lq_for (fun i => J i) (w_au q T w) (by unfold FU; omega) rfl st ?_
    unfold B_cs_aunt_72
    simp (disch := first | with_reducible assumption | omega | trivial) only [bn_s1, bd_s1, ei_l1, ei_r1, gI_J, gL_J, gR_J, aI_J, aL_J, sI_J, sL_J, pI_J, pL_J, J_add, J_sub, J_mul, J_neg, J_lt, J_le, J_eq, dv_J, rm_J, if_pos, if_neg, ↓reduceIte, bitJ, shlJ, orJ, j_0, j_1, j_2, j_3, j_4, j_5, j_6, j_7, j_8, j_9, j_10, j_11, j_12, j_13, j_14, j_15, j_16, j_17, j_18, j_19, j_20, j_21, j_22, j_23, j_24, j_25, j_26, j_27, j_28, j_29, j_30, j_31, j_32, j_33, j_34, j_35, j_36, j_37, j_38, j_39, j_40, j_41, j_42, j_43, j_44, j_45, j_46, j_47, j_48, j_49, j_50, j_51, j_52, j_57, j_59, j_63, j_74, j_75, j_93, j_97, j_99, j_100, j_122, j_200, j_255, j_300, j_465, j_496, j_900, j_999, j_1000, j_65536, j_65537, j_99999, j_252645135, j_858993459, j_1431655765, k_0, k_1, k_27, k_32, k_74, k_75, k_100, k_1000, k_65537]
  · rw [if_neg cm]
    refine lq_for (fun i => J i) (w_au q T w) (by unfold FU; omega) rfl st ?_
    unfold B_cs_aunt_72
    simp (disch := first | with_reducible assumption | omega | trivial) only [bn_s1, bd_s1, ei_l1, ei_r1, gI_J, gL_J, gR_J, aI_J, aL_J, sI_J, sL_J, pI_J, pL_J, J_add, J_sub, J_mul, J_neg, J_lt, J_le, J_eq, dv_J, rm_J, if_pos, if_neg, ↓reduceIte, bitJ, shlJ, orJ, j_0, j_1, j_2, j_3, j_4, j_5, j_6, j_7, j_8, j_9, j_10, j_11, j_12, j_13, j_14, j_15, j_16, j_17, j_18, j_19, j_20, j_21, j_22, j_23, j_24, j_25, j_26, j_27, j_28, j_29, j_30, j_31, j_32, j_33, j_34, j_35, j_36, j_37, j_38, j_39, j_40, j_41, j_42, j_43, j_44, j_45, j_46, j_47, j_48, j_49, j_50, j_51, j_52, j_57, j_59, j_63, j_74, j_75, j_93, j_97, j_99, j_100, j_122, j_200, j_255, j_300, j_465, j_496, j_900, j_999, j_1000, j_65536, j_65537, j_99999, j_252645135, j_858993459, j_1431655765, k_0, k_1, k_27, k_32, k_74, k_75, k_100, k_1000, k_65537]
def ttl (a : Ab) (z : Int) : Int := tot (net (qL a) (qS a)) (hn (qL a)) (raft (qL a) (qS a 28).toNat z)
def v_aun (a : Ab) (z w k : Int) : Int := if inr z (qL a 1 0) ∧ ((0 ≤ w ∧ w ≤ 99) ∧ (0 ≤ k ∧ k ≤ 4)) then (if w_au (lfk k) (ttl a z) w < 301 then (w_au (lfk k) (ttl a z) w : Int) else -2) else -1
theorem nk_e {k : Int} (hk : rng k) : F_cs_noKind (J k) = some (J (if 0 ≤ k ∧ k ≤ 4 then 0 else 1)) := by
  unfold F_cs_noKind
  by_cases d : 0 ≤ k ∧ k ≤ 4
  · rw [if_pos d, j_0, show (4 : Int32) = J 4 from j_4, out_0 hk (by omega) (by omega) (by omega) (by omega) d, bn_s1, if_pos rv_0]
  · rw [if_neg d, j_0, show (4 : Int32) = J 4 from j_4, out_1 hk (by omega) (by omega) (by omega) (by omega) d, bn_s1, if_pos rv_1]
theorem lok_e {h : Hp} {k : Int} (H : CR h) (h0 : 0 ≤ k) (h1 : k ≤ 4) : F_st_liftOfKind (J k) h = some (J (lfk k)) := by
  have n5 : aN h 1000001 = some (J 5) := aN_J H.1 (by rw [H.2.1]; rfl)
  have e := lif_e H h0 (show k < 5 by omega)
  unfold F_st_liftOfKind
  simp (disch := first | with_reducible assumption | omega | trivial) only [bn_s1, bd_s1, ei_l1, ei_r1, gI_J, gL_J, gR_J, aI_J, aL_J, sI_J, sL_J, pI_J, pL_J, J_add, J_sub, J_mul, J_neg, J_lt, J_le, J_eq, dv_J, rm_J, if_pos, if_neg, ↓reduceIte, bitJ, shlJ, orJ, j_0, j_1, j_2, j_3, j_4, j_5, j_6, j_7, j_8, j_9, j_10, j_11, j_12, j_13, j_14, j_15, j_16, j_17, j_18, j_19, j_20, j_21, j_22, j_23, j_24, j_25, j_26, j_27, j_28, j_29, j_30, j_31, j_32, j_33, j_34, j_35, j_36, j_37, j_38, j_39, j_40, j_41, j_42, j_43, j_44, j_45, j_46, j_47, j_48, j_49, j_50, j_51, j_52, j_57, j_59, j_63, j_74, j_75, j_93, j_97, j_99, j_100, j_122, j_200, j_255, j_300, j_465, j_496, j_900, j_999, j_1000, j_65536, j_65537, j_99999, j_252645135, j_858993459, j_1431655765, k_0, k_1, k_27, k_32, k_74, k_75, k_100, k_1000, k_65537, n5, e]
theorem c_aun {a : Ab} {t : Nat} {h : Hp} {z w k : Int} (HA : AW a) (H : CI a t h) (hz : rng z) (hw : rng w) (hk : rng k) : Cq (F_cs_aunt 0 (J z) (J w) (J k) h) h (v_aun a z w k) (t_2 (inr z (qL a 1 0)) ((0 ≤ w ∧ w ≤ 99) ∧ (0 ≤ k ∧ k ≤ 4))) := by
  have kx := XS_k (XV_x H.1)
  have b1 := LW_h HA.1
  have ek := nk_e hk
  unfold v_aun t_2
  by_cases c : inr z (qL a 1 0)
  · by_cases d : (0 ≤ w ∧ w ≤ 99) ∧ (0 ≤ k ∧ k ≤ 4)
    · have cd : inr z (qL a 1 0) ∧ ((0 ≤ w ∧ w ≤ 99) ∧ (0 ≤ k ∧ k ≤ 4)) := ⟨c, d⟩
      rw [if_pos cd, if_pos c, if_pos d]
      rw [if_pos d.2] at ek
      have eo := out_0 (lo := 0) (hi := 99) hw (by omega) (by omega) (by omega) (by omega) d.1
      have H1 := CI_w (v := 0) (by omega) H
      obtain ⟨h1, e1, s1, g1, m1⟩ := C_meas (AW_w (v := 0) (by omega) HA) H1
      have V1 := XV_fm s1.1 (by omega) H1.1
      have X1 := XV_x H1.1; have X2 := XV_x V1
      have k1 := XS_k X1; have r6 := XS_r6 X1; have rt := XV_t H1.1; have r4 := XS_r4 X1; have k2 := XS_k X2; have r6' := XS_r6 X2
      have et : F_ra_totalOf 50 (J z) h1 = some (J (ttl a z)) := C_totalOf HA.1 (XV_r50 V1) m1.1 m1.2.2.1 m1.2.1 c.1 c.2
      have hne := hn_e HA.1
      have tb : -500000 ≤ ttl a z ∧ ttl a z ≤ 500000 := tot_b HA.1 (nob HA) (n := hn (qL a)) (by omega) _
      have el := lok_e (XV_c V1) d.2.1 d.2.2
      have ea := aun_c (lfk_r k) tb d.1
      refine ⟨h1, ?_, sc_tr (sc_w h 0) s1, by rw [g1]; exact fi12 h (by omega)⟩
      unfold F_cs_aunt
      rw [ck_e kx]
      by_cases cm : w_au (lfk k) (ttl a z) w < 301
      · rw [if_pos cm] at ea ⊢
        simp (disch := first | with_reducible assumption | omega | trivial) only [bn_s1, bd_s1, ei_l1, ei_r1, gI_J, gL_J, gR_J, aI_J, aL_J, sI_J, sL_J, pI_J, pL_J, J_add, J_sub, J_mul, J_neg, J_lt, J_le, J_eq, dv_J, rm_J, if_pos, if_neg, ↓reduceIte, bitJ, shlJ, orJ, j_0, j_1, j_2, j_3, j_4, j_5, j_6, j_7, j_8, j_9, j_10, j_11, j_12, j_13, j_14, j_15, j_16, j_17, j_18, j_19, j_20, j_21, j_22, j_23, j_24, j_25, j_26, j_27, j_28, j_29, j_30, j_31, j_32, j_33, j_34, j_35, j_36, j_37, j_38, j_39, j_40, j_41, j_42, j_43, j_44, j_45, j_46, j_47, j_48, j_49, j_50, j_51, j_52, j_57, j_59, j_63, j_74, j_75, j_93, j_97, j_99, j_100, j_122, j_200, j_255, j_300, j_465, j_496, j_900, j_999, j_1000, j_65536, j_65537, j_99999, j_252645135, j_858993459, j_1431655765, k_0, k_1, k_27, k_32, k_74, k_75, k_100, k_1000, k_65537, n1_0 HA H hz c, eo, ek, ref_0 kx, r6, rt, r4, e1, r6', et, el, ea]
      · rw [if_neg cm] at ea ⊢
        simp (disch := first | with_reducible assumption | omega | trivial) only [bn_s1, bd_s1, ei_l1, ei_r1, gI_J, gL_J, gR_J, aI_J, aL_J, sI_J, sL_J, pI_J, pL_J, J_add, J_sub, J_mul, J_neg, J_lt, J_le, J_eq, dv_J, rm_J, if_pos, if_neg, ↓reduceIte, bitJ, shlJ, orJ, j_0, j_1, j_2, j_3, j_4, j_5, j_6, j_7, j_8, j_9, j_10, j_11, j_12, j_13, j_14, j_15, j_16, j_17, j_18, j_19, j_20, j_21, j_22, j_23, j_24, j_25, j_26, j_27, j_28, j_29, j_30, j_31, j_32, j_33, j_34, j_35, j_36, j_37, j_38, j_39, j_40, j_41, j_42, j_43, j_44, j_45, j_46, j_47, j_48, j_49, j_50, j_51, j_52, j_57, j_59, j_63, j_74, j_75, j_93, j_97, j_99, j_100, j_122, j_200, j_255, j_300, j_465, j_496, j_900, j_999, j_1000, j_65536, j_65537, j_99999, j_252645135, j_858993459, j_1431655765, k_0, k_1, k_27, k_32, k_74, k_75, k_100, k_1000, k_65537, n1_0 HA H hz c, eo, ek, ref_0 kx, r6, rt, r4, e1, r6', et, el, ea]
    · have cd : ¬ (inr z (qL a 1 0) ∧ ((0 ≤ w ∧ w ≤ 99) ∧ (0 ≤ k ∧ k ≤ 4))) := fun x => d x.2
      rw [if_neg cd, if_pos c, if_neg d]
      refine ⟨wF h 0 12 2, ?_, sc_w h 2, fi12 h (by omega)⟩
      unfold F_cs_aunt
      rw [ck_e kx]
      by_cases dw : 0 ≤ w ∧ w ≤ 99
      · have eo := out_0 (lo := 0) (hi := 99) hw (by omega) (by omega) (by omega) (by omega) dw
        have dk : ¬ (0 ≤ k ∧ k ≤ 4) := fun x => d ⟨dw, x⟩
        rw [if_neg dk] at ek
        simp (disch := first | with_reducible assumption | omega | trivial) only [bn_s1, bd_s1, ei_l1, ei_r1, gI_J, gL_J, gR_J, aI_J, aL_J, sI_J, sL_J, pI_J, pL_J, J_add, J_sub, J_mul, J_neg, J_lt, J_le, J_eq, dv_J, rm_J, if_pos, if_neg, ↓reduceIte, bitJ, shlJ, orJ, j_0, j_1, j_2, j_3, j_4, j_5, j_6, j_7, j_8, j_9, j_10, j_11, j_12, j_13, j_14, j_15, j_16, j_17, j_18, j_19, j_20, j_21, j_22, j_23, j_24, j_25, j_26, j_27, j_28, j_29, j_30, j_31, j_32, j_33, j_34, j_35, j_36, j_37, j_38, j_39, j_40, j_41, j_42, j_43, j_44, j_45, j_46, j_47, j_48, j_49, j_50, j_51, j_52, j_57, j_59, j_63, j_74, j_75, j_93, j_97, j_99, j_100, j_122, j_200, j_255, j_300, j_465, j_496, j_900, j_999, j_1000, j_65536, j_65537, j_99999, j_252645135, j_858993459, j_1431655765, k_0, k_1, k_27, k_32, k_74, k_75, k_100, k_1000, k_65537, n1_0 HA H hz c, eo, ek, ref_2 kx]
      · have eo := out_1 (lo := 0) (hi := 99) hw (by omega) (by omega) (by omega) (by omega) dw
        simp (disch := first | with_reducible assumption | omega | trivial) only [bn_s1, bd_s1, ei_l1, ei_r1, gI_J, gL_J, gR_J, aI_J, aL_J, sI_J, sL_J, pI_J, pL_J, J_add, J_sub, J_mul, J_neg, J_lt, J_le, J_eq, dv_J, rm_J, if_pos, if_neg, ↓reduceIte, bitJ, shlJ, orJ, j_0, j_1, j_2, j_3, j_4, j_5, j_6, j_7, j_8, j_9, j_10, j_11, j_12, j_13, j_14, j_15, j_16, j_17, j_18, j_19, j_20, j_21, j_22, j_23, j_24, j_25, j_26, j_27, j_28, j_29, j_30, j_31, j_32, j_33, j_34, j_35, j_36, j_37, j_38, j_39, j_40, j_41, j_42, j_43, j_44, j_45, j_46, j_47, j_48, j_49, j_50, j_51, j_52, j_57, j_59, j_63, j_74, j_75, j_93, j_97, j_99, j_100, j_122, j_200, j_255, j_300, j_465, j_496, j_900, j_999, j_1000, j_65536, j_65537, j_99999, j_252645135, j_858993459, j_1431655765, k_0, k_1, k_27, k_32, k_74, k_75, k_100, k_1000, k_65537, n1_0 HA H hz c, eo, ref_2 kx]
  · have cd : ¬ (inr z (qL a 1 0) ∧ ((0 ≤ w ∧ w ≤ 99) ∧ (0 ≤ k ∧ k ≤ 4))) := fun x => c x.1
    rw [if_neg cd, if_neg c]
    refine ⟨wF h 0 12 1, ?_, sc_w h 1, fi12 h (by omega)⟩
    unfold F_cs_aunt
    rw [ck_e kx]
    by_cases dw : 0 ≤ w ∧ w ≤ 99
    · have eo := out_0 (lo := 0) (hi := 99) hw (by omega) (by omega) (by omega) (by omega) dw
      by_cases dk : 0 ≤ k ∧ k ≤ 4
      · rw [if_pos dk] at ek
        simp (disch := first | with_reducible assumption | omega | trivial) only [bn_s1, bd_s1, ei_l1, ei_r1, gI_J, gL_J, gR_J, aI_J, aL_J, sI_J, sL_J, pI_J, pL_J, J_add, J_sub, J_mul, J_neg, J_lt, J_le, J_eq, dv_J, rm_J, if_pos, if_neg, ↓reduceIte, bitJ, shlJ, orJ, j_0, j_1, j_2, j_3, j_4, j_5, j_6, j_7, j_8, j_9, j_10, j_11, j_12, j_13, j_14, j_15, j_16, j_17, j_18, j_19, j_20, j_21, j_22, j_23, j_24, j_25, j_26, j_27, j_28, j_29, j_30, j_31, j_32, j_33, j_34, j_35, j_36, j_37, j_38, j_39, j_40, j_41, j_42, j_43, j_44, j_45, j_46, j_47, j_48, j_49, j_50, j_51, j_52, j_57, j_59, j_63, j_74, j_75, j_93, j_97, j_99, j_100, j_122, j_200, j_255, j_300, j_465, j_496, j_900, j_999, j_1000, j_65536, j_65537, j_99999, j_252645135, j_858993459, j_1431655765, k_0, k_1, k_27, k_32, k_74, k_75, k_100, k_1000, k_65537, n1_1 HA H hz c, eo, ek, ref_1 kx]
      · rw [if_neg dk] at ek
        simp (disch := first | with_reducible assumption | omega | trivial) only [bn_s1, bd_s1, ei_l1, ei_r1, gI_J, gL_J, gR_J, aI_J, aL_J, sI_J, sL_J, pI_J, pL_J, J_add, J_sub, J_mul, J_neg, J_lt, J_le, J_eq, dv_J, rm_J, if_pos, if_neg, ↓reduceIte, bitJ, shlJ, orJ, j_0, j_1, j_2, j_3, j_4, j_5, j_6, j_7, j_8, j_9, j_10, j_11, j_12, j_13, j_14, j_15, j_16, j_17, j_18, j_19, j_20, j_21, j_22, j_23, j_24, j_25, j_26, j_27, j_28, j_29, j_30, j_31, j_32, j_33, j_34, j_35, j_36, j_37, j_38, j_39, j_40, j_41, j_42, j_43, j_44, j_45, j_46, j_47, j_48, j_49, j_50, j_51, j_52, j_57, j_59, j_63, j_74, j_75, j_93, j_97, j_99, j_100, j_122, j_200, j_255, j_300, j_465, j_496, j_900, j_999, j_1000, j_65536, j_65537, j_99999, j_252645135, j_858993459, j_1431655765, k_0, k_1, k_27, k_32, k_74, k_75, k_100, k_1000, k_65537, n1_1 HA H hz c, eo, ek, ref_1 kx]
    · have eo := out_1 (lo := 0) (hi := 99) hw (by omega) (by omega) (by omega) (by omega) dw
      simp (disch := first | with_reducible assumption | omega | trivial) only [bn_s1, bd_s1, ei_l1, ei_r1, gI_J, gL_J, gR_J, aI_J, aL_J, sI_J, sL_J, pI_J, pL_J, J_add, J_sub, J_mul, J_neg, J_lt, J_le, J_eq, dv_J, rm_J, if_pos, if_neg, ↓reduceIte, bitJ, shlJ, orJ, j_0, j_1, j_2, j_3, j_4, j_5, j_6, j_7, j_8, j_9, j_10, j_11, j_12, j_13, j_14, j_15, j_16, j_17, j_18, j_19, j_20, j_21, j_22, j_23, j_24, j_25, j_26, j_27, j_28, j_29, j_30, j_31, j_32, j_33, j_34, j_35, j_36, j_37, j_38, j_39, j_40, j_41, j_42, j_43, j_44, j_45, j_46, j_47, j_48, j_49, j_50, j_51, j_52, j_57, j_59, j_63, j_74, j_75, j_93, j_97, j_99, j_100, j_122, j_200, j_255, j_300, j_465, j_496, j_900, j_999, j_1000, j_65536, j_65537, j_99999, j_252645135, j_858993459, j_1431655765, k_0, k_1, k_27, k_32, k_74, k_75, k_100, k_1000, k_65537, n1_1 HA H hz c, eo, ref_1 kx]
theorem d_aun {a : Ab} {h : Hp} {z w k : Int} (HA : AW a) (H : RI a h) (hz : rng z) (hw : rng w) (hk : rng k) : Dq (F_md_aunt 88 (J z) (J w) (J k) h) h (v_aun a z w k) (t_2 (inr z (qL a 1 0)) ((0 ≤ w ∧ w ≤ 99) ∧ (0 ≤ k ∧ k ≤ 4))) := by
  have kx := MS_k H.1
  have H1 := RI_0 H
  have k1 := MS_k H1.1
  have b1 := LW_h HA.1
  unfold v_aun t_2
  by_cases c : inr z (qL a 1 0)
  · have i1 := im1_1 HA H1 hz c
    by_cases d : (0 ≤ w ∧ w ≤ 99) ∧ (0 ≤ k ∧ k ≤ 4)
    · have cd : inr z (qL a 1 0) ∧ ((0 ≤ w ∧ w ≤ 99) ∧ (0 ≤ k ∧ k ≤ 4)) := ⟨c, d⟩
      rw [if_pos cd, if_pos c, if_pos d]
      have ew := in_1 (lo := 0) (hi := 99) hw (by omega) (by omega) (by omega) (by omega) d.1
      have ek := in_1 (lo := 0) (hi := 4) hk (by omega) (by omega) (by omega) (by omega) d.2
      obtain ⟨b, C1⟩ := lk_1 H1 (by omega)
      obtain ⟨h2, e2, q2, x2, s2⟩ := wrk HA H1
      have C2 := RC_qr q2 C1
      have ez : ((z.toNat : Nat) : Int) = z := by omega
      have er := D_raftOf HA.1 C2 x2 s2.2.1 s2.2.2.1 (z := z.toNat) (by omega)
      rw [ez] at er
      have hp := raft_p HA.1 (qS a 28).toNat c.1 c.2
      have en : F_md_netOfAll 88 (J (raft (qL a) (qS a 28).toNat z : Nat)) h2 = some (J (ttl a z)) := D_netOfAll HA.1 C2 x2 s2.1 hp.2.1
      have hne := hn_e HA.1
      have tb : -500000 ≤ ttl a z ∧ ttl a z ≤ 500000 := tot_b HA.1 (nob HA) (n := hn (qL a)) (by omega) _
      have el := lifts_e d.2.1 (show k < 5 by omega)
      have hq := lfk_r k
      generalize lfk k = q at el hq ⊢
      generalize ttl a z = T at en tb ⊢
      obtain ⟨m1, m2, m3⟩ := fsi_p (fun i => decide (¬ (i * q < w - T))) 301
      have wl : w_au q T w ≤ 301 := m1
      have wb : ∀ i : Nat, i ≤ 301 → 0 ≤ (i : Int) * q ∧ (i : Int) * q ≤ 1204 := by
        intro i hi
        rcases hq with rfl | rfl | rfl | rfl <;> omega
      have st : ∀ i, i < w_au q T w → B_md_aunt_64 88 (J k) (J (T - w)) (J i) h2 = some (.inl (J (i + 1 : Nat)), h2) := fun i hi => by
        have nn : (i : Int) * q < w - T := by
          have := of_decide_eq_false (m2 i hi)
          exact Decidable.not_not.mp this
        have bb := wb i (by omega)
        unfold B_md_aunt_64
        simp (disch := first | with_reducible assumption | omega | trivial) only [bn_s1, bd_s1, ei_l1, ei_r1, gI_J, gL_J, gR_J, aI_J, aL_J, sI_J, sL_J, pI_J, pL_J, J_add, J_sub, J_mul, J_neg, J_lt, J_le, J_eq, dv_J, rm_J, if_pos, if_neg, ↓reduceIte, bitJ, shlJ, orJ, j_0, j_1, j_2, j_3, j_4, j_5, j_6, j_7, j_8, j_9, j_10, j_11, j_12, j_13, j_14, j_15, j_16, j_17, j_18, j_19, j_20, j_21, j_22, j_23, j_24, j_25, j_26, j_27, j_28, j_29, j_30, j_31, j_32, j_33, j_34, j_35, j_36, j_37, j_38, j_39, j_40, j_41, j_42, j_43, j_44, j_45, j_46, j_47, j_48, j_49, j_50, j_51, j_52, j_57, j_59, j_63, j_74, j_75, j_93, j_97, j_99, j_100, j_122, j_200, j_255, j_300, j_465, j_496, j_900, j_999, j_1000, j_65536, j_65537, j_99999, j_252645135, j_858993459, j_1431655765, k_0, k_1, k_27, k_32, k_74, k_75, k_100, k_1000, k_65537, el]
        rfl
      by_cases cm : w_au q T w < 301
      · rw [if_pos cm]
        have yy : ¬ ((w_au q T w : Nat) : Int) * q < w - T := of_decide_eq_true (m3 cm)
        have bb := wb (w_au q T w) (by omega)
        obtain ⟨h3, e3, q3, f3⟩ := good_e (h := h2) (v := (w_au q T w : Nat)) C2.1
        have e := lp_fin (b := B_md_aunt_64 88 (J k) (J (T - w))) (r := .inr (J (w_au q T w : Nat))) (f := FU) (s := J 0) (h := h2) (h' := h3) (fun i => J i) (w_au q T w) (by unfold FU; omega) rfl st (by
          unfold B_md_aunt_64
          simp (disch := first | with_reducible assumption | omega | trivial) only [bn_s1, bd_s1, ei_l1, ei_r1, gI_J, gL_J, gR_J, aI_J, aL_J, sI_J, sL_J, pI_J, pL_J, J_add, J_sub, J_mul, J_neg, J_lt, J_le, J_eq, dv_J, rm_J, if_pos, if_neg, ↓reduceIte, bitJ, shlJ, orJ, j_0, j_1, j_2, j_3, j_4, j_5, j_6, j_7, j_8, j_9, j_10, j_11, j_12, j_13, j_14, j_15, j_16, j_17, j_18, j_19, j_20, j_21, j_22, j_23, j_24, j_25, j_26, j_27, j_28, j_29, j_30, j_31, j_32, j_33, j_34, j_35, j_36, j_37, j_38, j_39, j_40, j_41, j_42, j_43, j_44, j_45, j_46, j_47, j_48, j_49, j_50, j_51, j_52, j_57, j_59, j_63, j_74, j_75, j_93, j_97, j_99, j_100, j_122, j_200, j_255, j_300, j_465, j_496, j_900, j_999, j_1000, j_65536, j_65537, j_99999, j_252645135, j_858993459, j_1431655765, k_0, k_1, k_27, k_32, k_74, k_75, k_100, k_1000, k_65537, el, e3])
        refine ⟨h3, ?_, qr_tr (q00 h) (qr_tr q2 q3), f3⟩
        unfold F_md_aunt
        rw [ck_e kx]
        simp (disch := first | with_reducible assumption | omega | trivial) only [bn_s1, bd_s1, ei_l1, ei_r1, gI_J, gL_J, gR_J, aI_J, aL_J, sI_J, sL_J, pI_J, pL_J, J_add, J_sub, J_mul, J_neg, J_lt, J_le, J_eq, dv_J, rm_J, if_pos, if_neg, ↓reduceIte, bitJ, shlJ, orJ, j_0, j_1, j_2, j_3, j_4, j_5, j_6, j_7, j_8, j_9, j_10, j_11, j_12, j_13, j_14, j_15, j_16, j_17, j_18, j_19, j_20, j_21, j_22, j_23, j_24, j_25, j_26, j_27, j_28, j_29, j_30, j_31, j_32, j_33, j_34, j_35, j_36, j_37, j_38, j_39, j_40, j_41, j_42, j_43, j_44, j_45, j_46, j_47, j_48, j_49, j_50, j_51, j_52, j_57, j_59, j_63, j_74, j_75, j_93, j_97, j_99, j_100, j_122, j_200, j_255, j_300, j_465, j_496, j_900, j_999, j_1000, j_65536, j_65537, j_99999, j_252645135, j_858993459, j_1431655765, k_0, k_1, k_27, k_32, k_74, k_75, k_100, k_1000, k_65537, i1, ew, ek, e2, er, en, e]
      · rw [if_neg cm]
        have e := lp_fin (b := B_md_aunt_64 88 (J k) (J (T - w))) (r := .inl ()) (f := FU) (s := J 0) (h := h2) (h' := h2) (fun i => J i) (w_au q T w) (by unfold FU; omega) rfl st (by
          unfold B_md_aunt_64
          simp (disch := first | with_reducible assumption | omega | trivial) only [bn_s1, bd_s1, ei_l1, ei_r1, gI_J, gL_J, gR_J, aI_J, aL_J, sI_J, sL_J, pI_J, pL_J, J_add, J_sub, J_mul, J_neg, J_lt, J_le, J_eq, dv_J, rm_J, if_pos, if_neg, ↓reduceIte, bitJ, shlJ, orJ, j_0, j_1, j_2, j_3, j_4, j_5, j_6, j_7, j_8, j_9, j_10, j_11, j_12, j_13, j_14, j_15, j_16, j_17, j_18, j_19, j_20, j_21, j_22, j_23, j_24, j_25, j_26, j_27, j_28, j_29, j_30, j_31, j_32, j_33, j_34, j_35, j_36, j_37, j_38, j_39, j_40, j_41, j_42, j_43, j_44, j_45, j_46, j_47, j_48, j_49, j_50, j_51, j_52, j_57, j_59, j_63, j_74, j_75, j_93, j_97, j_99, j_100, j_122, j_200, j_255, j_300, j_465, j_496, j_900, j_999, j_1000, j_65536, j_65537, j_99999, j_252645135, j_858993459, j_1431655765, k_0, k_1, k_27, k_32, k_74, k_75, k_100, k_1000, k_65537])
        obtain ⟨h3, e3, q3, f3⟩ := good_e (h := h2) (v := -2) C2.1
        refine ⟨h3, ?_, qr_tr (q00 h) (qr_tr q2 q3), f3⟩
        unfold F_md_aunt
        rw [ck_e kx]
        simp (disch := first | with_reducible assumption | omega | trivial) only [bn_s1, bd_s1, ei_l1, ei_r1, gI_J, gL_J, gR_J, aI_J, aL_J, sI_J, sL_J, pI_J, pL_J, J_add, J_sub, J_mul, J_neg, J_lt, J_le, J_eq, dv_J, rm_J, if_pos, if_neg, ↓reduceIte, bitJ, shlJ, orJ, j_0, j_1, j_2, j_3, j_4, j_5, j_6, j_7, j_8, j_9, j_10, j_11, j_12, j_13, j_14, j_15, j_16, j_17, j_18, j_19, j_20, j_21, j_22, j_23, j_24, j_25, j_26, j_27, j_28, j_29, j_30, j_31, j_32, j_33, j_34, j_35, j_36, j_37, j_38, j_39, j_40, j_41, j_42, j_43, j_44, j_45, j_46, j_47, j_48, j_49, j_50, j_51, j_52, j_57, j_59, j_63, j_74, j_75, j_93, j_97, j_99, j_100, j_122, j_200, j_255, j_300, j_465, j_496, j_900, j_999, j_1000, j_65536, j_65537, j_99999, j_252645135, j_858993459, j_1431655765, k_0, k_1, k_27, k_32, k_74, k_75, k_100, k_1000, k_65537, i1, ew, ek, e2, er, en, e, e3]
    · have cd : ¬ (inr z (qL a 1 0) ∧ ((0 ≤ w ∧ w ≤ 99) ∧ (0 ≤ k ∧ k ≤ 4))) := fun x => d x.2
      rw [if_neg cd, if_pos c, if_neg d]
      obtain ⟨h2, e2, q2, f2⟩ := ref_e (y := 2) H1.1 (by omega)
      refine ⟨h2, ?_, qr_tr (q00 h) q2, f2⟩
      unfold F_md_aunt
      rw [ck_e kx]
      by_cases dw : 0 ≤ w ∧ w ≤ 99
      · have ew := in_1 (lo := 0) (hi := 99) hw (by omega) (by omega) (by omega) (by omega) dw
        have ek := in_0 (lo := 0) (hi := 4) hk (by omega) (by omega) (by omega) (by omega) (fun x => d ⟨dw, x⟩)
        simp (disch := first | with_reducible assumption | omega | trivial) only [bn_s1, bd_s1, ei_l1, ei_r1, gI_J, gL_J, gR_J, aI_J, aL_J, sI_J, sL_J, pI_J, pL_J, J_add, J_sub, J_mul, J_neg, J_lt, J_le, J_eq, dv_J, rm_J, if_pos, if_neg, ↓reduceIte, bitJ, shlJ, orJ, j_0, j_1, j_2, j_3, j_4, j_5, j_6, j_7, j_8, j_9, j_10, j_11, j_12, j_13, j_14, j_15, j_16, j_17, j_18, j_19, j_20, j_21, j_22, j_23, j_24, j_25, j_26, j_27, j_28, j_29, j_30, j_31, j_32, j_33, j_34, j_35, j_36, j_37, j_38, j_39, j_40, j_41, j_42, j_43, j_44, j_45, j_46, j_47, j_48, j_49, j_50, j_51, j_52, j_57, j_59, j_63, j_74, j_75, j_93, j_97, j_99, j_100, j_122, j_200, j_255, j_300, j_465, j_496, j_900, j_999, j_1000, j_65536, j_65537, j_99999, j_252645135, j_858993459, j_1431655765, k_0, k_1, k_27, k_32, k_74, k_75, k_100, k_1000, k_65537, i1, ew, ek, e2]
      · have ew := in_0 (lo := 0) (hi := 99) hw (by omega) (by omega) (by omega) (by omega) dw
        simp (disch := first | with_reducible assumption | omega | trivial) only [bn_s1, bd_s1, ei_l1, ei_r1, gI_J, gL_J, gR_J, aI_J, aL_J, sI_J, sL_J, pI_J, pL_J, J_add, J_sub, J_mul, J_neg, J_lt, J_le, J_eq, dv_J, rm_J, if_pos, if_neg, ↓reduceIte, bitJ, shlJ, orJ, j_0, j_1, j_2, j_3, j_4, j_5, j_6, j_7, j_8, j_9, j_10, j_11, j_12, j_13, j_14, j_15, j_16, j_17, j_18, j_19, j_20, j_21, j_22, j_23, j_24, j_25, j_26, j_27, j_28, j_29, j_30, j_31, j_32, j_33, j_34, j_35, j_36, j_37, j_38, j_39, j_40, j_41, j_42, j_43, j_44, j_45, j_46, j_47, j_48, j_49, j_50, j_51, j_52, j_57, j_59, j_63, j_74, j_75, j_93, j_97, j_99, j_100, j_122, j_200, j_255, j_300, j_465, j_496, j_900, j_999, j_1000, j_65536, j_65537, j_99999, j_252645135, j_858993459, j_1431655765, k_0, k_1, k_27, k_32, k_74, k_75, k_100, k_1000, k_65537, i1, ew, e2]
  · have cd : ¬ (inr z (qL a 1 0) ∧ ((0 ≤ w ∧ w ≤ 99) ∧ (0 ≤ k ∧ k ≤ 4))) := fun x => c x.1
    rw [if_neg cd, if_neg c]
    obtain ⟨h2, e2, q2, f2⟩ := ref_e (y := 1) H1.1 (by omega)
    refine ⟨h2, ?_, qr_tr (q00 h) q2, f2⟩
    unfold F_md_aunt
    rw [ck_e kx]
    simp (disch := first | with_reducible assumption | omega | trivial) only [bn_s1, bd_s1, ei_l1, ei_r1, gI_J, gL_J, gR_J, aI_J, aL_J, sI_J, sL_J, pI_J, pL_J, J_add, J_sub, J_mul, J_neg, J_lt, J_le, J_eq, dv_J, rm_J, if_pos, if_neg, ↓reduceIte, bitJ, shlJ, orJ, j_0, j_1, j_2, j_3, j_4, j_5, j_6, j_7, j_8, j_9, j_10, j_11, j_12, j_13, j_14, j_15, j_16, j_17, j_18, j_19, j_20, j_21, j_22, j_23, j_24, j_25, j_26, j_27, j_28, j_29, j_30, j_31, j_32, j_33, j_34, j_35, j_36, j_37, j_38, j_39, j_40, j_41, j_42, j_43, j_44, j_45, j_46, j_47, j_48, j_49, j_50, j_51, j_52, j_57, j_59, j_63, j_74, j_75, j_93, j_97, j_99, j_100, j_122, j_200, j_255, j_300, j_465, j_496, j_900, j_999, j_1000, j_65536, j_65537, j_99999, j_252645135, j_858993459, j_1431655765, k_0, k_1, k_27, k_32, k_74, k_75, k_100, k_1000, k_65537, im1_0 HA H1 hz c, e2]
