/-! feed -/
def bv (x : Int32) (s : Int) : Int := ((x >>> (J s &&& J 31)).toInt8.toInt32.toInt8.toInt32).toInt
theorem bv_J (x : Int32) (s : Int) : (x >>> (J s &&& J 31)).toInt8.toInt32.toInt8.toInt32 = J (bv x s) := (J_of _).symm
theorem bv_b (x : Int32) (s : Int) : -128 ≤ bv x s ∧ bv x s ≤ 127 := by
  unfold bv
  rw [Int8.toInt_toInt32]
  have := Int8.le_toInt (x >>> (J s &&& J 31)).toInt8.toInt32.toInt8
  have := Int8.toInt_lt (x >>> (J s &&& J 31)).toInt8.toInt32.toInt8
  omega
theorem C_put {t : Nat} {h : Hp} {x : Int32} {p : Int} (V : XV t h) (hp : fi h 0 1 = p) (h0 : 0 ≤ p) (h1 : p + 4 ≤ 1000) : ∃ h', F_cs_putOnTape 0 x h = some h' ∧ Fm 0 2 h h' ∧ fi h' 0 1 = p + 4 ∧ (∀ k, k ≠ 1 → fi h' 0 k = fi h 0 k) ∧ ∀ i, 0 ≤ i → ia h' 1 i = if p ≤ i ∧ i < p + 4 then bv x (24 - 8 * (i - p)) else ia h 1 i := by
  obtain ⟨y, h2, e2, q2⟩ := lp_for (b := B_cs_putOnTape_3 0 x) (f := FU) (s := J 24) (h := h) (fun q s h' => s = J (24 - 8 * q) ∧ Fm 0 2 h h' ∧ fi h' 0 1 = p + q ∧ (∀ k, k ≠ 1 → fi h' 0 k = fi h 0 k) ∧ ∀ i, 0 ≤ i → ia h' 1 i = if p ≤ i ∧ i < p + q then bv x (24 - 8 * (i - p)) else ia h 1 i) (fun _ h' => Fm 0 2 h h' ∧ fi h' 0 1 = p + 4 ∧ (∀ k, k ≠ 1 → fi h' 0 k = fi h 0 k) ∧ ∀ i, 0 ≤ i → ia h' 1 i = if p ≤ i ∧ i < p + 4 then bv x (24 - 8 * (i - p)) else ia h 1 i) 4 (by unfold FU; omega) ⟨rfl, fm_rf _ _ _, by rw [hp]; exact (Int.add_zero p).symm, fun _ _ => rfl, fun i i0 => by rw [if_neg (by omega)]⟩ (fun q s h2 hq hI => by
      obtain ⟨rfl, f2, v2, k2, x2⟩ := hI
      have V2 := XV_fm f2 (by omega) V
      have n : (iA h2 1).length = 1000 := XS_n0 (XV_x V2)
      have kk : kd h2 1 = 101 := XS_k0 (XV_x V2)
      have bb := bv_b x (24 - 8 * q)
      have si := sI_J (h := h2) (kk := 101) (a := 1) (z := p + q) (v := bv x (24 - 8 * q)) kk (by omega) (by omega) (by omega) (by omega)
      have f3 : Fm 0 2 h2 (wA h2 1 (p + q) (bv x (24 - 8 * q))) := fm_wA (by omega) (by omega)
      have V3 := XV_fm f3 (by omega) V2
      have v3 : fi (wA h2 1 (p + q) (bv x (24 - 8 * q))) 0 1 = p + q := v2
      have em8 : (-8 : Int32) = J (-8) := by decide +kernel
      refine ⟨J (24 - 8 * (q + 1 : Nat)), wF (wA h2 1 (p + q) (bv x (24 - 8 * q))) 0 1 (p + q + 1), ?_, rfl, fm_tr f2 (fm_tr f3 (fm_wF (by omega) (by omega))), ?_, fun k hk => ?_, fun i i0 => ?_⟩
      · unfold B_cs_putOnTape_3
        rw [em8]
        have e8 : 24 - 8 * (q : Int) + -8 = 24 - 8 * ((q + 1 : Nat) : Int) := by omega
        try simp only [j_0, j_1, j_2, j_3, j_4, j_5, j_6, j_7, j_8, j_9, j_10, j_11, j_12, j_13, j_14, j_15, j_16, j_17, j_18, j_19, j_20, j_21, j_22, j_23, j_24, j_25, j_26, j_27, j_28, j_29, j_30, j_31, j_32, j_33, j_34, j_35, j_36, j_37, j_38, j_39, j_40, j_41, j_42, j_43, j_44, j_45, j_46, j_47, j_48, j_49, j_50, j_51, j_52, j_57, j_59, j_63, j_74, j_75, j_93, j_97, j_99, j_100, j_122, j_200, j_255, j_300, j_465, j_496, j_900, j_999, j_1000, j_65536, j_65537, j_99999, j_252645135, j_858993459, j_1431655765, k_0, k_1, k_27, k_32, k_74, k_75, k_100, k_1000, k_65537]
        simp (disch := first | with_reducible assumption | omega | trivial) only [↓bn_s1, ↓bd_s1, ↓ei_l1, ↓ei_r1, ↓bn_if, ↓ilt_1, ↓ilt_0, ↓ieq_1, ↓ieq_0, bn_s1, bd_s1, ei_l1, ei_r1, J_add, J_sub, J_mul, J_neg, J_lt, J_le, J_eq, dv_J, rm_J, if_pos, if_neg, ↓reduceIte, bitJ, shlJ, orJ, j_0, j_1, j_2, j_3, j_4, j_5, j_6, j_7, j_8, j_9, j_10, j_11, j_12, j_13, j_14, j_15, j_16, j_17, j_18, j_19, j_20, j_21, j_22, j_23, j_24, j_25, j_26, j_27, j_28, j_29, j_30, j_31, j_32, j_33, j_34, j_35, j_36, j_37, j_38, j_39, j_40, j_41, j_42, j_43, j_44, j_45, j_46, j_47, j_48, j_49, j_50, j_51, j_52, j_57, j_59, j_63, j_74, j_75, j_93, j_97, j_99, j_100, j_122, j_200, j_255, j_300, j_465, j_496, j_900, j_999, j_1000, j_65536, j_65537, j_99999, j_252645135, j_858993459, j_1431655765, k_0, k_1, k_27, k_32, k_74, k_75, k_100, k_1000, k_65537, vr_0 V2, ↓vr_0_b V2, vr_2 V2, ↓vr_2_b V2, vr_4 V2, ↓vr_4_b V2, vr_5 V2, ↓vr_5_b V2, vr_6 V2, ↓vr_6_b V2, vr_7 V2, ↓vr_7_b V2, vr_8 V2, ↓vr_8_b V2, vr_9 V2, ↓vr_9_b V2, vr_10 V2, ↓vr_10_b V2, vr_11 V2, ↓vr_11_b V2, vr_3 V2, ↓vr_3_b V2, v0i V2, ↓v0i_b V2, v0p V2, ↓v0p_b V2, v2, bv_J, ↓bn_e (si), si, vr_0 V3, ↓vr_0_b V3, vr_2 V3, ↓vr_2_b V3, vr_4 V3, ↓vr_4_b V3, vr_5 V3, ↓vr_5_b V3, vr_6 V3, ↓vr_6_b V3, vr_7 V3, ↓vr_7_b V3, vr_8 V3, ↓vr_8_b V3, vr_9 V3, ↓vr_9_b V3, vr_10 V3, ↓vr_10_b V3, vr_11 V3, ↓vr_11_b V3, vr_3 V3, ↓vr_3_b V3, v0i V3, ↓v0i_b V3, v0p V3, ↓v0p_b V3, v3, e8]
      · rw [fi_same (by omega) (by omega)]; omega
      · rw [fi_ne (Or.inr hk)]; exact k2 k hk
      · show ia (wA h2 1 (p + q) (bv x (24 - 8 * q))) 1 i = _
        rw [ia_if (by omega) i0 (by omega) (by omega) (by omega)]
        by_cases e : i = p + q
        · rw [if_pos e, if_pos (by omega), e]
          congr 1
          omega
        · rw [if_neg e, x2 i i0]
          by_cases e' : p ≤ i ∧ i < p + q
          · rw [if_pos e', if_pos (by omega)]
          · rw [if_neg e', if_neg (by omega)]) (fun s h2 hI => by
      obtain ⟨rfl, f2, v2, k2, x2⟩ := hI
      refine ⟨(), h2, ?_, f2, v2, k2, x2⟩
      unfold B_cs_putOnTape_3
      try simp only [j_0, j_1, j_2, j_3, j_4, j_5, j_6, j_7, j_8, j_9, j_10, j_11, j_12, j_13, j_14, j_15, j_16, j_17, j_18, j_19, j_20, j_21, j_22, j_23, j_24, j_25, j_26, j_27, j_28, j_29, j_30, j_31, j_32, j_33, j_34, j_35, j_36, j_37, j_38, j_39, j_40, j_41, j_42, j_43, j_44, j_45, j_46, j_47, j_48, j_49, j_50, j_51, j_52, j_57, j_59, j_63, j_74, j_75, j_93, j_97, j_99, j_100, j_122, j_200, j_255, j_300, j_465, j_496, j_900, j_999, j_1000, j_65536, j_65537, j_99999, j_252645135, j_858993459, j_1431655765, k_0, k_1, k_27, k_32, k_74, k_75, k_100, k_1000, k_65537]
      simp (disch := first | with_reducible assumption | omega | trivial) only [↓bn_s1, ↓bd_s1, ↓ei_l1, ↓ei_r1, ↓bn_if, ↓ilt_1, ↓ilt_0, ↓ieq_1, ↓ieq_0, bn_s1, bd_s1, ei_l1, ei_r1, J_add, J_sub, J_mul, J_neg, J_lt, J_le, J_eq, dv_J, rm_J, if_pos, if_neg, ↓reduceIte, bitJ, shlJ, orJ, j_0, j_1, j_2, j_3, j_4, j_5, j_6, j_7, j_8, j_9, j_10, j_11, j_12, j_13, j_14, j_15, j_16, j_17, j_18, j_19, j_20, j_21, j_22, j_23, j_24, j_25, j_26, j_27, j_28, j_29, j_30, j_31, j_32, j_33, j_34, j_35, j_36, j_37, j_38, j_39, j_40, j_41, j_42, j_43, j_44, j_45, j_46, j_47, j_48, j_49, j_50, j_51, j_52, j_57, j_59, j_63, j_74, j_75, j_93, j_97, j_99, j_100, j_122, j_200, j_255, j_300, j_465, j_496, j_900, j_999, j_1000, j_65536, j_65537, j_99999, j_252645135, j_858993459, j_1431655765, k_0, k_1, k_27, k_32, k_74, k_75, k_100, k_1000, k_65537])
  refine ⟨h2, ?_, q2⟩
  unfold F_cs_putOnTape
  rw [ck_e (XS_k (XV_x V))]
  try simp only [j_0, j_1, j_2, j_3, j_4, j_5, j_6, j_7, j_8, j_9, j_10, j_11, j_12, j_13, j_14, j_15, j_16, j_17, j_18, j_19, j_20, j_21, j_22, j_23, j_24, j_25, j_26, j_27, j_28, j_29, j_30, j_31, j_32, j_33, j_34, j_35, j_36, j_37, j_38, j_39, j_40, j_41, j_42, j_43, j_44, j_45, j_46, j_47, j_48, j_49, j_50, j_51, j_52, j_57, j_59, j_63, j_74, j_75, j_93, j_97, j_99, j_100, j_122, j_200, j_255, j_300, j_465, j_496, j_900, j_999, j_1000, j_65536, j_65537, j_99999, j_252645135, j_858993459, j_1431655765, k_0, k_1, k_27, k_32, k_74, k_75, k_100, k_1000, k_65537]
  simp (disch := first | with_reducible assumption | omega | trivial) only [↓bn_s1, ↓bd_s1, ↓ei_l1, ↓ei_r1, ↓bn_if, ↓ilt_1, ↓ilt_0, ↓ieq_1, ↓ieq_0, bn_s1, bd_s1, ei_l1, ei_r1, J_add, J_sub, J_mul, J_neg, J_lt, J_le, J_eq, dv_J, rm_J, if_pos, if_neg, ↓reduceIte, bitJ, shlJ, orJ, j_0, j_1, j_2, j_3, j_4, j_5, j_6, j_7, j_8, j_9, j_10, j_11, j_12, j_13, j_14, j_15, j_16, j_17, j_18, j_19, j_20, j_21, j_22, j_23, j_24, j_25, j_26, j_27, j_28, j_29, j_30, j_31, j_32, j_33, j_34, j_35, j_36, j_37, j_38, j_39, j_40, j_41, j_42, j_43, j_44, j_45, j_46, j_47, j_48, j_49, j_50, j_51, j_52, j_57, j_59, j_63, j_74, j_75, j_93, j_97, j_99, j_100, j_122, j_200, j_255, j_300, j_465, j_496, j_900, j_999, j_1000, j_65536, j_65537, j_99999, j_252645135, j_858993459, j_1431655765, k_0, k_1, k_27, k_32, k_74, k_75, k_100, k_1000, k_65537, ↓bd_e (e2), e2]
def fdv (x0 x1 x2 x3 x4 : Int32) (k : Int) : Int := bv (if k < 4 then x0 else if k < 8 then x1 else if k < 12 then x2 else if k < 16 then x3 else x4) (24 - 8 * (k % 4))
def fdT (a : Ab) (x0 x1 x2 x3 x4 : Int32) : Int → Int := fun i => if qtp a ≤ i ∧ i < qtp a + 20 then fdv x0 x1 x2 x3 x4 (i - qtp a) else qT a i
def a_fed (a : Ab) (x0 x1 x2 x3 x4 : Int32) : Ab := if qtp a + 20 ≤ 1000 then (qL a, qS a, qP a, qn a, qG a, qm a, fdT a x0 x1 x2 x3 x4, qtp a + 20, qtr a, qfa a, qpl a) else a
def v_fed (a : Ab) : Int := if qtp a + 20 ≤ 1000 then qtp a + 20 else -1
theorem AW_fed {a : Ab} {x0 x1 x2 x3 x4 : Int32} (HA : AW a) : AW (a_fed a x0 x1 x2 x3 x4) := by
  unfold a_fed
  by_cases c : qtp a + 20 ≤ 1000
  · rw [if_pos c]
    obtain ⟨a1, a2, a3, a4, a5, a6, a7, a8, a9⟩ := HA
    refine ⟨a1, a2, a3, a4, ⟨?_, c⟩, a6, a7, a8, fun i => ?_⟩
    · show 0 ≤ qtp a + 20; omega
    · show -128 ≤ fdT a x0 x1 x2 x3 x4 i ∧ fdT a x0 x1 x2 x3 x4 i ≤ 127
      unfold fdT
      by_cases d : qtp a ≤ i ∧ i < qtp a + 20
      · rw [if_pos d]; exact bv_b _ _
      · rw [if_neg d]; exact a9 i
  · rw [if_neg c]; exact HA
theorem CI_t {a : Ab} {t : Nat} {h h' : Hp} {T : Int → Int} {p : Int} (x : Fm 0 2 h h') (f1 : fi h' 0 1 = p) (fk : ∀ k, k ≠ 1 → fi h' 0 k = fi h 0 k) (tp : ∀ i, 0 ≤ i → i < p → ia h' 1 i = T i) (H : CI a t h) : CI (qL a, qS a, qP a, qn a, qG a, qm a, T, p, qtr a, qfa a, qpl a) t h' := by
  obtain ⟨a1, a2, a3, a4, a5, a6, a7, a8, a9⟩ := H
  have o := XV_o a1
  refine ⟨XV_fm x (by omega) a1, TR_fm x (by omega) a2, SR_fm x (by omega) a3, MR_fm x (by omega) a4, f1, ?_, ?_, ?_, tp⟩
  · rw [fk 12 (by omega)]; exact a6
  · rw [fm_fi x (by omega)]; exact a7
  · rw [fm_fi x (by omega)]; exact a8
theorem c_fed {a : Ab} {t : Nat} {h : Hp} {x0 x1 x2 x3 x4 : Int32} (HA : AW a) (H : CI a t h) : Ca (F_cs_feed 0 x0 x1 x2 x3 x4 h) h (v_fed a) (a_fed a x0 x1 x2 x3 x4) t := by
  have V := H.1
  have kx := XS_k (XV_x V)
  have v1 := H.2.2.2.2.1
  have tb := HA.2.2.2.2.1
  unfold F_cs_feed v_fed a_fed
  rw [ck_e kx, jm1]
  by_cases c : qtp a + 20 ≤ 1000
  · rw [if_pos c, if_pos c]
    obtain ⟨h1, e1, f1, p1, k1, y1⟩ := C_put (x := x0) V v1 (by omega) (by omega)
    have V1 := XV_fm f1 (by omega) V
    obtain ⟨h2, e2, f2, p2, k2, y2⟩ := C_put (x := x1) V1 p1 (by omega) (by omega)
    have V2 := XV_fm f2 (by omega) V1
    obtain ⟨h3, e3, f3, p3, k3, y3⟩ := C_put (x := x2) V2 p2 (by omega) (by omega)
    have V3 := XV_fm f3 (by omega) V2
    obtain ⟨h4, e4, f4, p4, k4, y4⟩ := C_put (x := x3) V3 p3 (by omega) (by omega)
    have V4 := XV_fm f4 (by omega) V3
    obtain ⟨h5, e5, f5, p5, k5, y5⟩ := C_put (x := x4) V4 p4 (by omega) (by omega)
    have V5 := XV_fm f5 (by omega) V4
    have p5' : fi h5 0 1 = qtp a + 20 := by rw [p5]; omega
    have f05 : Fm 0 2 h h5 := fm_tr f1 (fm_tr f2 (fm_tr f3 (fm_tr f4 f5)))
    refine ⟨h5, ?_, fm_wd f05 (by omega) (by omega), CI_t f05 p5' (fun k hk => by rw [k5 k hk, k4 k hk, k3 k hk, k2 k hk, k1 k hk]) (fun i i0 i1 => ?_) H⟩
    · try simp only [j_0, j_1, j_2, j_3, j_4, j_5, j_6, j_7, j_8, j_9, j_10, j_11, j_12, j_13, j_14, j_15, j_16, j_17, j_18, j_19, j_20, j_21, j_22, j_23, j_24, j_25, j_26, j_27, j_28, j_29, j_30, j_31, j_32, j_33, j_34, j_35, j_36, j_37, j_38, j_39, j_40, j_41, j_42, j_43, j_44, j_45, j_46, j_47, j_48, j_49, j_50, j_51, j_52, j_57, j_59, j_63, j_74, j_75, j_93, j_97, j_99, j_100, j_122, j_200, j_255, j_300, j_465, j_496, j_900, j_999, j_1000, j_65536, j_65537, j_99999, j_252645135, j_858993459, j_1431655765, k_0, k_1, k_27, k_32, k_74, k_75, k_100, k_1000, k_65537]
      simp (disch := first | with_reducible assumption | omega | trivial) only [↓bn_s1, ↓bd_s1, ↓ei_l1, ↓ei_r1, ↓bn_if, ↓ilt_1, ↓ilt_0, ↓ieq_1, ↓ieq_0, bn_s1, bd_s1, ei_l1, ei_r1, J_add, J_sub, J_mul, J_neg, J_lt, J_le, J_eq, dv_J, rm_J, if_pos, if_neg, ↓reduceIte, bitJ, shlJ, orJ, j_0, j_1, j_2, j_3, j_4, j_5, j_6, j_7, j_8, j_9, j_10, j_11, j_12, j_13, j_14, j_15, j_16, j_17, j_18, j_19, j_20, j_21, j_22, j_23, j_24, j_25, j_26, j_27, j_28, j_29, j_30, j_31, j_32, j_33, j_34, j_35, j_36, j_37, j_38, j_39, j_40, j_41, j_42, j_43, j_44, j_45, j_46, j_47, j_48, j_49, j_50, j_51, j_52, j_57, j_59, j_63, j_74, j_75, j_93, j_97, j_99, j_100, j_122, j_200, j_255, j_300, j_465, j_496, j_900, j_999, j_1000, j_65536, j_65537, j_99999, j_252645135, j_858993459, j_1431655765, k_0, k_1, k_27, k_32, k_74, k_75, k_100, k_1000, k_65537, vr_0 V, ↓vr_0_b V, vr_2 V, ↓vr_2_b V, vr_4 V, ↓vr_4_b V, vr_5 V, ↓vr_5_b V, vr_6 V, ↓vr_6_b V, vr_7 V, ↓vr_7_b V, vr_8 V, ↓vr_8_b V, vr_9 V, ↓vr_9_b V, vr_10 V, ↓vr_10_b V, vr_11 V, ↓vr_11_b V, vr_3 V, ↓vr_3_b V, v0i V, ↓v0i_b V, v0p V, ↓v0p_b V, v1, ↓bn_e (e1), e1, ↓bn_e (e2), e2, ↓bn_e (e3), e3, ↓bn_e (e4), e4, ↓bn_e (e5), e5, vr_0 V5, ↓vr_0_b V5, vr_2 V5, ↓vr_2_b V5, vr_4 V5, ↓vr_4_b V5, vr_5 V5, ↓vr_5_b V5, vr_6 V5, ↓vr_6_b V5, vr_7 V5, ↓vr_7_b V5, vr_8 V5, ↓vr_8_b V5, vr_9 V5, ↓vr_9_b V5, vr_10 V5, ↓vr_10_b V5, vr_11 V5, ↓vr_11_b V5, vr_3 V5, ↓vr_3_b V5, v0i V5, ↓v0i_b V5, v0p V5, ↓v0p_b V5, p5']
    · unfold fdT fdv
      rw [y5 i i0, y4 i i0, y3 i i0, y2 i i0, y1 i i0]
      by_cases d : qtp a ≤ i
      · rw [if_pos (show qtp a ≤ i ∧ i < qtp a + 20 from ⟨d, i1⟩)]
        have cs : i - qtp a < 4 ∨ (4 ≤ i - qtp a ∧ i - qtp a < 8) ∨ (8 ≤ i - qtp a ∧ i - qtp a < 12) ∨ (12 ≤ i - qtp a ∧ i - qtp a < 16) ∨ 16 ≤ i - qtp a := by omega
        rcases cs with e | e | e | e | e
        all_goals (
          simp (disch := omega) only [if_pos, if_neg]
          congr 1
          omega)
      · rw [if_neg (by omega)]
        simp (disch := omega) only [if_neg]
        exact H.2.2.2.2.2.2.2.2 i i0 (by omega)
  · rw [if_neg c, if_neg c]
    refine ⟨h, ?_, fm_rf _ _ _, H⟩
    try simp only [j_0, j_1, j_2, j_3, j_4, j_5, j_6, j_7, j_8, j_9, j_10, j_11, j_12, j_13, j_14, j_15, j_16, j_17, j_18, j_19, j_20, j_21, j_22, j_23, j_24, j_25, j_26, j_27, j_28, j_29, j_30, j_31, j_32, j_33, j_34, j_35, j_36, j_37, j_38, j_39, j_40, j_41, j_42, j_43, j_44, j_45, j_46, j_47, j_48, j_49, j_50, j_51, j_52, j_57, j_59, j_63, j_74, j_75, j_93, j_97, j_99, j_100, j_122, j_200, j_255, j_300, j_465, j_496, j_900, j_999, j_1000, j_65536, j_65537, j_99999, j_252645135, j_858993459, j_1431655765, k_0, k_1, k_27, k_32, k_74, k_75, k_100, k_1000, k_65537]
    simp (disch := first | with_reducible assumption | omega | trivial) only [↓bn_s1, ↓bd_s1, ↓ei_l1, ↓ei_r1, ↓bn_if, ↓ilt_1, ↓ilt_0, ↓ieq_1, ↓ieq_0, bn_s1, bd_s1, ei_l1, ei_r1, J_add, J_sub, J_mul, J_neg, J_lt, J_le, J_eq, dv_J, rm_J, if_pos, if_neg, ↓reduceIte, bitJ, shlJ, orJ, j_0, j_1, j_2, j_3, j_4, j_5, j_6, j_7, j_8, j_9, j_10, j_11, j_12, j_13, j_14, j_15, j_16, j_17, j_18, j_19, j_20, j_21, j_22, j_23, j_24, j_25, j_26, j_27, j_28, j_29, j_30, j_31, j_32, j_33, j_34, j_35, j_36, j_37, j_38, j_39, j_40, j_41, j_42, j_43, j_44, j_45, j_46, j_47, j_48, j_49, j_50, j_51, j_52, j_57, j_59, j_63, j_74, j_75, j_93, j_97, j_99, j_100, j_122, j_200, j_255, j_300, j_465, j_496, j_900, j_999, j_1000, j_65536, j_65537, j_99999, j_252645135, j_858993459, j_1431655765, k_0, k_1, k_27, k_32, k_74, k_75, k_100, k_1000, k_65537, vr_0 V, ↓vr_0_b V, vr_2 V, ↓vr_2_b V, vr_4 V, ↓vr_4_b V, vr_5 V, ↓vr_5_b V, vr_6 V, ↓vr_6_b V, vr_7 V, ↓vr_7_b V, vr_8 V, ↓vr_8_b V, vr_9 V, ↓vr_9_b V, vr_10 V, ↓vr_10_b V, vr_11 V, ↓vr_11_b V, vr_3 V, ↓vr_3_b V, v0i V, ↓v0i_b V, v0p V, ↓v0p_b V, v1]
theorem d_fed {a : Ab} {h : Hp} {x0 x1 x2 x3 x4 : Int32} (HA : AW a) (H : RI a h) : Da (F_md_feed 88 x0 x1 x2 x3 x4 h) h (v_fed a) (a_fed a x0 x1 x2 x3 x4) := by
  have kx := MS_k H.1
  have H1 := RI_0 H
  have M1 := H1.1
  have f0 : Fm 88 102 h (wF h 88 0 0) := fm_wF (by omega) (by omega)
  have v6 := H1.2.2.2.2.2.1.1
  have tb := HA.2.2.2.2.1
  unfold F_md_feed v_fed a_fed
  rw [ck_e kx, jm1]
  by_cases c : qtp a + 20 ≤ 1000
  · rw [if_pos c, if_pos c]
    obtain ⟨y, h2, e2, f2, w2, k2, i2, y2⟩ := lp_for (b := B_md_feed_23 88 x0 x1 x2 x3 x4) (f := FU) (s := J 0) (h := wF h 88 0 0) (fun k s h' => s = J k ∧ Fm 88 90 (wF h 88 0 0) h' ∧ fi h' 88 6 = qtp a + k ∧ (∀ j, j ≠ 6 → fi h' 88 j = fi (wF h 88 0 0) 88 j) ∧ (∀ y, y ≠ 89 → ∀ z, ia h' y z = ia (wF h 88 0 0) y z) ∧ ∀ i, 0 ≤ i → ia h' 89 i = if qtp a ≤ i ∧ i < qtp a + k then fdv x0 x1 x2 x3 x4 (i - qtp a) else ia (wF h 88 0 0) 89 i) (fun _ h' => Fm 88 90 (wF h 88 0 0) h' ∧ fi h' 88 6 = qtp a + 20 ∧ (∀ j, j ≠ 6 → fi h' 88 j = fi (wF h 88 0 0) 88 j) ∧ (∀ y, y ≠ 89 → ∀ z, ia h' y z = ia (wF h 88 0 0) y z) ∧ ∀ i, 0 ≤ i → ia h' 89 i = if qtp a ≤ i ∧ i < qtp a + 20 then fdv x0 x1 x2 x3 x4 (i - qtp a) else ia (wF h 88 0 0) 89 i) 20 (by unfold FU; omega) ⟨rfl, fm_rf _ _ _, by rw [v6]; exact (Int.add_zero _).symm, fun _ _ => rfl, fun _ _ _ => rfl, fun i i0 => by rw [if_neg (by omega)]⟩ (fun k s h2 hk hI => by
        obtain ⟨rfl, f2, w2, k2, i2, y2⟩ := hI
        have M2 := MS_fm f2 M1
        have n : (iA h2 89).length = 1000 := MS_n5 M2
        have kk : kd h2 89 = 101 := MS_k5 M2
        obtain ⟨xx, hxx⟩ : ∃ xx, xx = (if (k : Int) < 4 then x0 else if (k : Int) < 8 then x1 else if (k : Int) < 12 then x2 else if (k : Int) < 16 then x3 else x4) := ⟨_, rfl⟩
        have ef : fdv x0 x1 x2 x3 x4 k = bv xx (24 - 8 * ((k : Int) % 4)) := by unfold fdv; rw [← hxx]
        have bb := bv_b xx (24 - 8 * ((k : Int) % 4))
        have si := sI_J (h := h2) (kk := 101) (a := 89) (z := qtp a + k) (v := bv xx (24 - 8 * ((k : Int) % 4))) kk (by omega) (by omega) (by omega) (by omega)
        have f3 : Fm 88 90 h2 (wA h2 89 (qtp a + k) (bv xx (24 - 8 * ((k : Int) % 4)))) := fm_wA (by omega) (by omega)
        have M3 := MS_fm f3 M2
        have w3 : fi (wA h2 89 (qtp a + k) (bv xx (24 - 8 * ((k : Int) % 4)))) 88 6 = qtp a + k := w2
        have rr : gR h2 88 13 5 = some 89 := gR_e (MS_k M2) (MS_r5 M2)
        have rm : rm32 (J k) (J 4) = some (J ((k : Int) % 4)) := by rw [rm_J (by omega) (by omega) (by omega) (by omega), Int.tmod_eq_emod_of_nonneg (by omega)]
        refine ⟨J (k + 1 : Nat), wF (wA h2 89 (qtp a + k) (bv xx (24 - 8 * ((k : Int) % 4)))) 88 6 (qtp a + k + 1), ?_, rfl, fm_tr f2 (fm_tr f3 (fm_wF (by omega) (by omega))), ?_, fun j hj => ?_, fun y hy z => ?_, fun i i0 => ?_⟩
        · unfold B_md_feed_23
          have cs : (k : Int) < 4 ∨ (4 ≤ (k : Int) ∧ (k : Int) < 8) ∨ (8 ≤ (k : Int) ∧ (k : Int) < 12) ∨ (12 ≤ (k : Int) ∧ (k : Int) < 16) ∨ 16 ≤ (k : Int) := by omega
          rcases cs with e | e | e | e | e
          all_goals (
            simp (disch := omega) only [if_pos, if_neg] at hxx
            subst hxx
            try simp only [j_0, j_1, j_2, j_3, j_4, j_5, j_6, j_7, j_8, j_9, j_10, j_11, j_12, j_13, j_14, j_15, j_16, j_17, j_18, j_19, j_20, j_21, j_22, j_23, j_24, j_25, j_26, j_27, j_28, j_29, j_30, j_31, j_32, j_33, j_34, j_35, j_36, j_37, j_38, j_39, j_40, j_41, j_42, j_43, j_44, j_45, j_46, j_47, j_48, j_49, j_50, j_51, j_52, j_57, j_59, j_63, j_74, j_75, j_93, j_97, j_99, j_100, j_122, j_200, j_255, j_300, j_465, j_496, j_900, j_999, j_1000, j_65536, j_65537, j_99999, j_252645135, j_858993459, j_1431655765, k_0, k_1, k_27, k_32, k_74, k_75, k_100, k_1000, k_65537]
            simp (disch := first | with_reducible assumption | omega | trivial) only [↓bn_s1, ↓bd_s1, ↓ei_l1, ↓ei_r1, ↓bn_if, ↓ilt_1, ↓ilt_0, ↓ieq_1, ↓ieq_0, bn_s1, bd_s1, ei_l1, ei_r1, J_add, J_sub, J_mul, J_neg, J_lt, J_le, J_eq, dv_J, if_pos, if_neg, ↓reduceIte, bitJ, shlJ, orJ, j_0, j_1, j_2, j_3, j_4, j_5, j_6, j_7, j_8, j_9, j_10, j_11, j_12, j_13, j_14, j_15, j_16, j_17, j_18, j_19, j_20, j_21, j_22, j_23, j_24, j_25, j_26, j_27, j_28, j_29, j_30, j_31, j_32, j_33, j_34, j_35, j_36, j_37, j_38, j_39, j_40, j_41, j_42, j_43, j_44, j_45, j_46, j_47, j_48, j_49, j_50, j_51, j_52, j_57, j_59, j_63, j_74, j_75, j_93, j_97, j_99, j_100, j_122, j_200, j_255, j_300, j_465, j_496, j_900, j_999, j_1000, j_65536, j_65537, j_99999, j_252645135, j_858993459, j_1431655765, k_0, k_1, k_27, k_32, k_74, k_75, k_100, k_1000, k_65537, ↓bn_e (rr), rr, m_i M2, ↓m_i_b M2, m_p M2, ↓m_p_b M2, m_l M2, ↓m_l_b M2, m_pl M2, ↓m_pl_b M2, mr_15 M2, ↓mr_15_b M2, mr_16 M2, ↓mr_16_b M2, mr_17 M2, ↓mr_17_b M2, mr_18 M2, ↓mr_18_b M2, mr_21 M2, ↓mr_21_b M2, mr_22 M2, ↓mr_22_b M2, mr_23 M2, ↓mr_23_b M2, mr_24 M2, ↓mr_24_b M2, mr_25 M2, ↓mr_25_b M2, mr_30 M2, ↓mr_30_b M2, mr_31 M2, ↓mr_31_b M2, m90a M2, ↓m90a_b M2, m90s M2, ↓m90s_b M2, m91a M2, ↓m91a_b M2, m91s M2, ↓m91s_b M2, m92a M2, ↓m92a_b M2, m92s M2, ↓m92s_b M2, m93a M2, ↓m93a_b M2, m93s M2, ↓m93s_b M2, m94a M2, ↓m94a_b M2, m94s M2, ↓m94s_b M2, m95a M2, ↓m95a_b M2, m95s M2, ↓m95s_b M2, m96a M2, ↓m96a_b M2, m96s M2, ↓m96s_b M2, m97a M2, ↓m97a_b M2, m97s M2, ↓m97s_b M2, m98a M2, ↓m98a_b M2, m98s M2, ↓m98s_b M2, m99a M2, ↓m99a_b M2, m99s M2, ↓m99s_b M2, m100a M2, ↓m100a_b M2, m100s M2, ↓m100s_b M2, w2, ↓bn_e (rm), rm, bv_J, ↓bn_e (si), si, m_i M3, ↓m_i_b M3, m_p M3, ↓m_p_b M3, m_l M3, ↓m_l_b M3, m_pl M3, ↓m_pl_b M3, mr_15 M3, ↓mr_15_b M3, mr_16 M3, ↓mr_16_b M3, mr_17 M3, ↓mr_17_b M3, mr_18 M3, ↓mr_18_b M3, mr_21 M3, ↓mr_21_b M3, mr_22 M3, ↓mr_22_b M3, mr_23 M3, ↓mr_23_b M3, mr_24 M3, ↓mr_24_b M3, mr_25 M3, ↓mr_25_b M3, mr_30 M3, ↓mr_30_b M3, mr_31 M3, ↓mr_31_b M3, m90a M3, ↓m90a_b M3, m90s M3, ↓m90s_b M3, m91a M3, ↓m91a_b M3, m91s M3, ↓m91s_b M3, m92a M3, ↓m92a_b M3, m92s M3, ↓m92s_b M3, m93a M3, ↓m93a_b M3, m93s M3, ↓m93s_b M3, m94a M3, ↓m94a_b M3, m94s M3, ↓m94s_b M3, m95a M3, ↓m95a_b M3, m95s M3, ↓m95s_b M3, m96a M3, ↓m96a_b M3, m96s M3, ↓m96s_b M3, m97a M3, ↓m97a_b M3, m97s M3, ↓m97s_b M3, m98a M3, ↓m98a_b M3, m98s M3, ↓m98s_b M3, m99a M3, ↓m99a_b M3, m99s M3, ↓m99s_b M3, m100a M3, ↓m100a_b M3, m100s M3, ↓m100s_b M3, w3]
            rfl)
        · rw [fi_same (by omega) (by omega)]; omega
        · rw [fi_ne (Or.inr hj)]; exact k2 j hj
        · show ia (wA h2 89 (qtp a + k) (bv xx (24 - 8 * ((k : Int) % 4)))) y z = _
          rw [ia_wA hy]; exact i2 y hy z
        · show ia (wA h2 89 (qtp a + k) (bv xx (24 - 8 * ((k : Int) % 4)))) 89 i = _
          rw [ia_if (by omega) i0 (by omega) (by omega) (by omega), ← ef]
          by_cases e : i = qtp a + k
          · rw [if_pos e, if_pos (by omega)]
            congr 1
            omega
          · rw [if_neg e, y2 i i0]
            by_cases e' : qtp a ≤ i ∧ i < qtp a + k
            · rw [if_pos e', if_pos (by omega)]
            · rw [if_neg e', if_neg (by omega)]) (fun s h2 hI => by
        obtain ⟨rfl, f2, w2, k2, i2, y2⟩ := hI
        refine ⟨(), h2, ?_, f2, w2, k2, i2, y2⟩
        unfold B_md_feed_23
        try simp only [j_0, j_1, j_2, j_3, j_4, j_5, j_6, j_7, j_8, j_9, j_10, j_11, j_12, j_13, j_14, j_15, j_16, j_17, j_18, j_19, j_20, j_21, j_22, j_23, j_24, j_25, j_26, j_27, j_28, j_29, j_30, j_31, j_32, j_33, j_34, j_35, j_36, j_37, j_38, j_39, j_40, j_41, j_42, j_43, j_44, j_45, j_46, j_47, j_48, j_49, j_50, j_51, j_52, j_57, j_59, j_63, j_74, j_75, j_93, j_97, j_99, j_100, j_122, j_200, j_255, j_300, j_465, j_496, j_900, j_999, j_1000, j_65536, j_65537, j_99999, j_252645135, j_858993459, j_1431655765, k_0, k_1, k_27, k_32, k_74, k_75, k_100, k_1000, k_65537]
        simp (disch := first | with_reducible assumption | omega | trivial) only [↓bn_s1, ↓bd_s1, ↓ei_l1, ↓ei_r1, ↓bn_if, ↓ilt_1, ↓ilt_0, ↓ieq_1, ↓ieq_0, bn_s1, bd_s1, ei_l1, ei_r1, J_add, J_sub, J_mul, J_neg, J_lt, J_le, J_eq, dv_J, rm_J, if_pos, if_neg, ↓reduceIte, bitJ, shlJ, orJ, j_0, j_1, j_2, j_3, j_4, j_5, j_6, j_7, j_8, j_9, j_10, j_11, j_12, j_13, j_14, j_15, j_16, j_17, j_18, j_19, j_20, j_21, j_22, j_23, j_24, j_25, j_26, j_27, j_28, j_29, j_30, j_31, j_32, j_33, j_34, j_35, j_36, j_37, j_38, j_39, j_40, j_41, j_42, j_43, j_44, j_45, j_46, j_47, j_48, j_49, j_50, j_51, j_52, j_57, j_59, j_63, j_74, j_75, j_93, j_97, j_99, j_100, j_122, j_200, j_255, j_300, j_465, j_496, j_900, j_999, j_1000, j_65536, j_65537, j_99999, j_252645135, j_858993459, j_1431655765, k_0, k_1, k_27, k_32, k_74, k_75, k_100, k_1000, k_65537])
    have M2 := MS_fm f2 M1
    refine ⟨h2, ?_, fm_tr f0 (fm_wd f2 (by omega) (by omega)), ?_⟩
    · try simp only [j_0, j_1, j_2, j_3, j_4, j_5, j_6, j_7, j_8, j_9, j_10, j_11, j_12, j_13, j_14, j_15, j_16, j_17, j_18, j_19, j_20, j_21, j_22, j_23, j_24, j_25, j_26, j_27, j_28, j_29, j_30, j_31, j_32, j_33, j_34, j_35, j_36, j_37, j_38, j_39, j_40, j_41, j_42, j_43, j_44, j_45, j_46, j_47, j_48, j_49, j_50, j_51, j_52, j_57, j_59, j_63, j_74, j_75, j_93, j_97, j_99, j_100, j_122, j_200, j_255, j_300, j_465, j_496, j_900, j_999, j_1000, j_65536, j_65537, j_99999, j_252645135, j_858993459, j_1431655765, k_0, k_1, k_27, k_32, k_74, k_75, k_100, k_1000, k_65537]
      simp (disch := first | with_reducible assumption | omega | trivial) only [↓bn_s1, ↓bd_s1, ↓ei_l1, ↓ei_r1, ↓bn_if, ↓ilt_1, ↓ilt_0, ↓ieq_1, ↓ieq_0, bn_s1, bd_s1, ei_l1, ei_r1, J_add, J_sub, J_mul, J_neg, J_lt, J_le, J_eq, dv_J, rm_J, if_pos, if_neg, ↓reduceIte, bitJ, shlJ, orJ, j_0, j_1, j_2, j_3, j_4, j_5, j_6, j_7, j_8, j_9, j_10, j_11, j_12, j_13, j_14, j_15, j_16, j_17, j_18, j_19, j_20, j_21, j_22, j_23, j_24, j_25, j_26, j_27, j_28, j_29, j_30, j_31, j_32, j_33, j_34, j_35, j_36, j_37, j_38, j_39, j_40, j_41, j_42, j_43, j_44, j_45, j_46, j_47, j_48, j_49, j_50, j_51, j_52, j_57, j_59, j_63, j_74, j_75, j_93, j_97, j_99, j_100, j_122, j_200, j_255, j_300, j_465, j_496, j_900, j_999, j_1000, j_65536, j_65537, j_99999, j_252645135, j_858993459, j_1431655765, k_0, k_1, k_27, k_32, k_74, k_75, k_100, k_1000, k_65537, ↓bn_e (pI_J kx), pI_J kx, m_i M1, ↓m_i_b M1, m_p M1, ↓m_p_b M1, m_l M1, ↓m_l_b M1, m_pl M1, ↓m_pl_b M1, mr_15 M1, ↓mr_15_b M1, mr_16 M1, ↓mr_16_b M1, mr_17 M1, ↓mr_17_b M1, mr_18 M1, ↓mr_18_b M1, mr_21 M1, ↓mr_21_b M1, mr_22 M1, ↓mr_22_b M1, mr_23 M1, ↓mr_23_b M1, mr_24 M1, ↓mr_24_b M1, mr_25 M1, ↓mr_25_b M1, mr_30 M1, ↓mr_30_b M1, mr_31 M1, ↓mr_31_b M1, m90a M1, ↓m90a_b M1, m90s M1, ↓m90s_b M1, m91a M1, ↓m91a_b M1, m91s M1, ↓m91s_b M1, m92a M1, ↓m92a_b M1, m92s M1, ↓m92s_b M1, m93a M1, ↓m93a_b M1, m93s M1, ↓m93s_b M1, m94a M1, ↓m94a_b M1, m94s M1, ↓m94s_b M1, m95a M1, ↓m95a_b M1, m95s M1, ↓m95s_b M1, m96a M1, ↓m96a_b M1, m96s M1, ↓m96s_b M1, m97a M1, ↓m97a_b M1, m97s M1, ↓m97s_b M1, m98a M1, ↓m98a_b M1, m98s M1, ↓m98s_b M1, m99a M1, ↓m99a_b M1, m99s M1, ↓m99s_b M1, m100a M1, ↓m100a_b M1, m100s M1, ↓m100s_b M1, v6, ↓bd_e (e2), e2, m_i M2, ↓m_i_b M2, m_p M2, ↓m_p_b M2, m_l M2, ↓m_l_b M2, m_pl M2, ↓m_pl_b M2, mr_15 M2, ↓mr_15_b M2, mr_16 M2, ↓mr_16_b M2, mr_17 M2, ↓mr_17_b M2, mr_18 M2, ↓mr_18_b M2, mr_21 M2, ↓mr_21_b M2, mr_22 M2, ↓mr_22_b M2, mr_23 M2, ↓mr_23_b M2, mr_24 M2, ↓mr_24_b M2, mr_25 M2, ↓mr_25_b M2, mr_30 M2, ↓mr_30_b M2, mr_31 M2, ↓mr_31_b M2, m90a M2, ↓m90a_b M2, m90s M2, ↓m90s_b M2, m91a M2, ↓m91a_b M2, m91s M2, ↓m91s_b M2, m92a M2, ↓m92a_b M2, m92s M2, ↓m92s_b M2, m93a M2, ↓m93a_b M2, m93s M2, ↓m93s_b M2, m94a M2, ↓m94a_b M2, m94s M2, ↓m94s_b M2, m95a M2, ↓m95a_b M2, m95s M2, ↓m95s_b M2, m96a M2, ↓m96a_b M2, m96s M2, ↓m96s_b M2, m97a M2, ↓m97a_b M2, m97s M2, ↓m97s_b M2, m98a M2, ↓m98a_b M2, m98s M2, ↓m98s_b M2, m99a M2, ↓m99a_b M2, m99s M2, ↓m99s_b M2, m100a M2, ↓m100a_b M2, m100s M2, ↓m100s_b M2, w2]
    · obtain ⟨a1, a2, a3, ⟨a4, a4'⟩, ⟨a5, a5'⟩, ⟨a6, a6'⟩, a7, a8, a9, a10, a11⟩ := H1
      refine ⟨M2, RLk_fm f2 (by omega) a2, fun i i0 i1 => ?_, ⟨(k2 19 (by omega)).trans a4, fun j hj i i0 i1 => ?_⟩, ⟨(k2 20 (by omega)).trans a5, fun j hj i i0 i1 => ?_⟩, ⟨w2, fun i i0 i1 => ?_⟩, (k2 1 (by omega)).trans a7, (k2 12 (by omega)).trans a8, (k2 2 (by omega)).trans a9, a10, a11⟩
      · rw [i2 90 (by omega)]; exact a3 i i0 i1
      · rw [i2 92 (by omega)]; exact a4' j hj i i0 i1
      · rw [i2 93 (by omega)]; exact a5' j hj i i0 i1
      · rw [y2 i i0]
        show _ = fdT a x0 x1 x2 x3 x4 i
        unfold fdT
        by_cases d : qtp a ≤ i ∧ i < qtp a + 20
        · rw [if_pos d, if_pos d]
        · rw [if_neg d, if_neg d]
          have : i < qtp a + 20 := i1
          exact a6' i i0 (by omega)
  · rw [if_neg c, if_neg c]
    refine ⟨wF h 88 0 0, ?_, f0, H1⟩
    try simp only [j_0, j_1, j_2, j_3, j_4, j_5, j_6, j_7, j_8, j_9, j_10, j_11, j_12, j_13, j_14, j_15, j_16, j_17, j_18, j_19, j_20, j_21, j_22, j_23, j_24, j_25, j_26, j_27, j_28, j_29, j_30, j_31, j_32, j_33, j_34, j_35, j_36, j_37, j_38, j_39, j_40, j_41, j_42, j_43, j_44, j_45, j_46, j_47, j_48, j_49, j_50, j_51, j_52, j_57, j_59, j_63, j_74, j_75, j_93, j_97, j_99, j_100, j_122, j_200, j_255, j_300, j_465, j_496, j_900, j_999, j_1000, j_65536, j_65537, j_99999, j_252645135, j_858993459, j_1431655765, k_0, k_1, k_27, k_32, k_74, k_75, k_100, k_1000, k_65537]
    simp (disch := first | with_reducible assumption | omega | trivial) only [↓bn_s1, ↓bd_s1, ↓ei_l1, ↓ei_r1, ↓bn_if, ↓ilt_1, ↓ilt_0, ↓ieq_1, ↓ieq_0, bn_s1, bd_s1, ei_l1, ei_r1, J_add, J_sub, J_mul, J_neg, J_lt, J_le, J_eq, dv_J, rm_J, if_pos, if_neg, ↓reduceIte, bitJ, shlJ, orJ, j_0, j_1, j_2, j_3, j_4, j_5, j_6, j_7, j_8, j_9, j_10, j_11, j_12, j_13, j_14, j_15, j_16, j_17, j_18, j_19, j_20, j_21, j_22, j_23, j_24, j_25, j_26, j_27, j_28, j_29, j_30, j_31, j_32, j_33, j_34, j_35, j_36, j_37, j_38, j_39, j_40, j_41, j_42, j_43, j_44, j_45, j_46, j_47, j_48, j_49, j_50, j_51, j_52, j_57, j_59, j_63, j_74, j_75, j_93, j_97, j_99, j_100, j_122, j_200, j_255, j_300, j_465, j_496, j_900, j_999, j_1000, j_65536, j_65537, j_99999, j_252645135, j_858993459, j_1431655765, k_0, k_1, k_27, k_32, k_74, k_75, k_100, k_1000, k_65537, ↓bn_e (pI_J kx), pI_J kx, m_i M1, ↓m_i_b M1, m_p M1, ↓m_p_b M1, m_l M1, ↓m_l_b M1, m_pl M1, ↓m_pl_b M1, mr_15 M1, ↓mr_15_b M1, mr_16 M1, ↓mr_16_b M1, mr_17 M1, ↓mr_17_b M1, mr_18 M1, ↓mr_18_b M1, mr_21 M1, ↓mr_21_b M1, mr_22 M1, ↓mr_22_b M1, mr_23 M1, ↓mr_23_b M1, mr_24 M1, ↓mr_24_b M1, mr_25 M1, ↓mr_25_b M1, mr_30 M1, ↓mr_30_b M1, mr_31 M1, ↓mr_31_b M1, m90a M1, ↓m90a_b M1, m90s M1, ↓m90s_b M1, m91a M1, ↓m91a_b M1, m91s M1, ↓m91s_b M1, m92a M1, ↓m92a_b M1, m92s M1, ↓m92s_b M1, m93a M1, ↓m93a_b M1, m93s M1, ↓m93s_b M1, m94a M1, ↓m94a_b M1, m94s M1, ↓m94s_b M1, m95a M1, ↓m95a_b M1, m95s M1, ↓m95s_b M1, m96a M1, ↓m96a_b M1, m96s M1, ↓m96s_b M1, m97a M1, ↓m97a_b M1, m97s M1, ↓m97s_b M1, m98a M1, ↓m98a_b M1, m98s M1, ↓m98s_b M1, m99a M1, ↓m99a_b M1, m99s M1, ↓m99s_b M1, m100a M1, ↓m100a_b M1, m100s M1, ↓m100s_b M1, v6]
