/-! heightIn, underIn -/
def t_2 (p q : Prop) [Decidable p] [Decidable q] : Int := if p then (if q then 0 else 2) else 1
def v_hin (a : Ab) (z n : Int) : Int := if inr z (qL a 1 0) ∧ (0 ≤ n ∧ n ≤ 20) then 1000 + hgt (qL a) (sfn (qL a) (qS a) n.toNat) z else -1
theorem RM_ia {L : Lk} {T : Sk} {h : Hp} (H : RM L (net L T) (T 28).toNat 50 h) {z : Int} (h0 : 0 ≤ z) (h1 : z < L 1 0) : ia h 53 z = hgt L T z := H.2.2.2 z h0 h1
theorem c_hin {a : Ab} {t : Nat} {h : Hp} {z n : Int} (HA : AW a) (H : CI a t h) (hz : rng z) (hn' : rng n) : Cq (F_cs_heightIn 0 (J z) (J n) h) h (v_hin a z n) (t_2 (inr z (qL a 1 0)) (0 ≤ n ∧ n ≤ 20)) := by
  have k := XS_k (XV_x H.1)
  have b1 := LW_h HA.1
  unfold v_hin t_2
  by_cases c : inr z (qL a 1 0)
  · by_cases d : 0 ≤ n ∧ n ≤ 20
    · have cd : inr z (qL a 1 0) ∧ (0 ≤ n ∧ n ≤ 20) := ⟨c, d⟩
      rw [if_pos cd, if_pos c, if_pos d]
      have eo := out_0 (lo := 0) (hi := 20) hn' (by omega) (by omega) (by omega) (by omega) d
      have H1 := CI_w (v := 0) (by omega) H
      obtain ⟨h1, e1, s1, g1, m1⟩ := C_measureIn (n := n.toNat) (AW_w (v := 0) (by omega) HA) H1 (by omega)
      have ez : ((n.toNat : Nat) : Int) = n := by omega
      rw [ez] at e1
      replace m1 : RM (qL a) (net (qL a) (sfn (qL a) (qS a) n.toNat)) (sfn (qL a) (qS a) n.toNat 28).toNat 50 h1 := m1
      have X2 := XS_fm s1.1 (XV_x H1.1)
      have R2 := RS_fm s1.1 (XV_r50 H1.1)
      have k2 := XS_k X2; have r6 := XS_r6 X2; have rk := RS_k R2; have rr := RS_r3 R2; have rk3 := RS_k3 R2; have rn3 := RS_n3 R2
      have v := RM_ia m1 c.1 c.2
      refine ⟨h1, ?_, sc_tr (sc_w h 0) s1, by rw [g1]; exact fi12 h (by omega)⟩
      unfold F_cs_heightIn
      rw [ck_e k]
      simp (disch := first | with_reducible assumption | omega | trivial) only [bn_s1, bd_s1, ei_l1, ei_r1, gI_J, gL_J, gR_J, aI_J, aL_J, sI_J, sL_J, pI_J, pL_J, J_add, J_sub, J_mul, J_neg, J_lt, J_le, J_eq, dv_J, rm_J, if_pos, if_neg, ↓reduceIte, bitJ, shlJ, orJ, j_0, j_1, j_2, j_3, j_4, j_5, j_6, j_7, j_8, j_9, j_10, j_11, j_12, j_13, j_14, j_15, j_16, j_17, j_18, j_19, j_20, j_21, j_22, j_23, j_24, j_25, j_26, j_27, j_28, j_29, j_30, j_31, j_32, j_33, j_34, j_35, j_36, j_37, j_38, j_39, j_40, j_41, j_42, j_43, j_44, j_45, j_46, j_47, j_48, j_49, j_50, j_51, j_52, j_57, j_59, j_63, j_74, j_75, j_93, j_97, j_99, j_100, j_122, j_200, j_255, j_300, j_465, j_496, j_900, j_999, j_1000, j_65536, j_65537, j_99999, j_252645135, j_858993459, j_1431655765, k_0, k_1, k_27, k_32, k_74, k_75, k_100, k_1000, k_65537, n1_0 HA H hz c, eo, ref_0 k, e1, r6, rr, v]
      rw [Int.add_comm]
    · have cd : ¬ (inr z (qL a 1 0) ∧ (0 ≤ n ∧ n ≤ 20)) := fun x => d x.2
      rw [if_neg cd, if_pos c, if_neg d]
      have eo := out_1 (lo := 0) (hi := 20) hn' (by omega) (by omega) (by omega) (by omega) d
      refine ⟨wF h 0 12 2, ?_, sc_w h 2, fi12 h (by omega)⟩
      unfold F_cs_heightIn
      rw [ck_e k]
      simp (disch := first | with_reducible assumption | omega | trivial) only [bn_s1, bd_s1, ei_l1, ei_r1, gI_J, gL_J, gR_J, aI_J, aL_J, sI_J, sL_J, pI_J, pL_J, J_add, J_sub, J_mul, J_neg, J_lt, J_le, J_eq, dv_J, rm_J, if_pos, if_neg, ↓reduceIte, bitJ, shlJ, orJ, j_0, j_1, j_2, j_3, j_4, j_5, j_6, j_7, j_8, j_9, j_10, j_11, j_12, j_13, j_14, j_15, j_16, j_17, j_18, j_19, j_20, j_21, j_22, j_23, j_24, j_25, j_26, j_27, j_28, j_29, j_30, j_31, j_32, j_33, j_34, j_35, j_36, j_37, j_38, j_39, j_40, j_41, j_42, j_43, j_44, j_45, j_46, j_47, j_48, j_49, j_50, j_51, j_52, j_57, j_59, j_63, j_74, j_75, j_93, j_97, j_99, j_100, j_122, j_200, j_255, j_300, j_465, j_496, j_900, j_999, j_1000, j_65536, j_65537, j_99999, j_252645135, j_858993459, j_1431655765, k_0, k_1, k_27, k_32, k_74, k_75, k_100, k_1000, k_65537, n1_0 HA H hz c, eo, ref_2 k]
  · have cd : ¬ (inr z (qL a 1 0) ∧ (0 ≤ n ∧ n ≤ 20)) := fun x => c x.1
    rw [if_neg cd, if_neg c]
    have eo := outs_e (a := n) (lo := 0) (hi := 20) hn'.1 hn'.2 (by omega) (by omega) (by omega) (by omega)
    refine ⟨wF h 0 12 1, ?_, sc_w h 1, fi12 h (by omega)⟩
    unfold F_cs_heightIn
    rw [ck_e k]
    simp (disch := first | with_reducible assumption | omega | trivial) only [bn_s1, bd_s1, ei_l1, ei_r1, gI_J, gL_J, gR_J, aI_J, aL_J, sI_J, sL_J, pI_J, pL_J, J_add, J_sub, J_mul, J_neg, J_lt, J_le, J_eq, dv_J, rm_J, if_pos, if_neg, ↓reduceIte, bitJ, shlJ, orJ, j_0, j_1, j_2, j_3, j_4, j_5, j_6, j_7, j_8, j_9, j_10, j_11, j_12, j_13, j_14, j_15, j_16, j_17, j_18, j_19, j_20, j_21, j_22, j_23, j_24, j_25, j_26, j_27, j_28, j_29, j_30, j_31, j_32, j_33, j_34, j_35, j_36, j_37, j_38, j_39, j_40, j_41, j_42, j_43, j_44, j_45, j_46, j_47, j_48, j_49, j_50, j_51, j_52, j_57, j_59, j_63, j_74, j_75, j_93, j_97, j_99, j_100, j_122, j_200, j_255, j_300, j_465, j_496, j_900, j_999, j_1000, j_65536, j_65537, j_99999, j_252645135, j_858993459, j_1431655765, k_0, k_1, k_27, k_32, k_74, k_75, k_100, k_1000, k_65537, n1_1 HA H hz c, eo, ref_1 k]
theorem rw_e {h : Hp} {n : Int} (k : kd h 88 = 13) (hn' : rng n) : F_md_refusesWeeks 88 (J 1) (J n) h = some (J (if 0 ≤ n ∧ n ≤ 20 then 0 else 2)) ∧ F_md_refusesWeeks 88 (J 0) (J n) h = some (J 1) := by
  constructor
  · unfold F_md_refusesWeeks
    rw [ck_e k]
    by_cases d : 0 ≤ n ∧ n ≤ 20
    · have ei := in_1 (lo := 0) (hi := 20) hn' (by omega) (by omega) (by omega) (by omega) d
      rw [if_pos d]
      simp (disch := first | with_reducible assumption | omega | trivial) only [bn_s1, bd_s1, ei_l1, ei_r1, gI_J, gL_J, gR_J, aI_J, aL_J, sI_J, sL_J, pI_J, pL_J, J_add, J_sub, J_mul, J_neg, J_lt, J_le, J_eq, dv_J, rm_J, if_pos, if_neg, ↓reduceIte, bitJ, shlJ, orJ, j_0, j_1, j_2, j_3, j_4, j_5, j_6, j_7, j_8, j_9, j_10, j_11, j_12, j_13, j_14, j_15, j_16, j_17, j_18, j_19, j_20, j_21, j_22, j_23, j_24, j_25, j_26, j_27, j_28, j_29, j_30, j_31, j_32, j_33, j_34, j_35, j_36, j_37, j_38, j_39, j_40, j_41, j_42, j_43, j_44, j_45, j_46, j_47, j_48, j_49, j_50, j_51, j_52, j_57, j_59, j_63, j_74, j_75, j_93, j_97, j_99, j_100, j_122, j_200, j_255, j_300, j_465, j_496, j_900, j_999, j_1000, j_65536, j_65537, j_99999, j_252645135, j_858993459, j_1431655765, k_0, k_1, k_27, k_32, k_74, k_75, k_100, k_1000, k_65537, ei]
    · have ei := in_0 (lo := 0) (hi := 20) hn' (by omega) (by omega) (by omega) (by omega) d
      rw [if_neg d]
      simp (disch := first | with_reducible assumption | omega | trivial) only [bn_s1, bd_s1, ei_l1, ei_r1, gI_J, gL_J, gR_J, aI_J, aL_J, sI_J, sL_J, pI_J, pL_J, J_add, J_sub, J_mul, J_neg, J_lt, J_le, J_eq, dv_J, rm_J, if_pos, if_neg, ↓reduceIte, bitJ, shlJ, orJ, j_0, j_1, j_2, j_3, j_4, j_5, j_6, j_7, j_8, j_9, j_10, j_11, j_12, j_13, j_14, j_15, j_16, j_17, j_18, j_19, j_20, j_21, j_22, j_23, j_24, j_25, j_26, j_27, j_28, j_29, j_30, j_31, j_32, j_33, j_34, j_35, j_36, j_37, j_38, j_39, j_40, j_41, j_42, j_43, j_44, j_45, j_46, j_47, j_48, j_49, j_50, j_51, j_52, j_57, j_59, j_63, j_74, j_75, j_93, j_97, j_99, j_100, j_122, j_200, j_255, j_300, j_465, j_496, j_900, j_999, j_1000, j_65536, j_65537, j_99999, j_252645135, j_858993459, j_1431655765, k_0, k_1, k_27, k_32, k_74, k_75, k_100, k_1000, k_65537, ei]
  · unfold F_md_refusesWeeks
    rw [ck_e k]
    simp (disch := first | with_reducible assumption | omega | trivial) only [bn_s1, bd_s1, ei_l1, ei_r1, gI_J, gL_J, gR_J, aI_J, aL_J, sI_J, sL_J, pI_J, pL_J, J_add, J_sub, J_mul, J_neg, J_lt, J_le, J_eq, dv_J, rm_J, if_pos, if_neg, ↓reduceIte, bitJ, shlJ, orJ, j_0, j_1, j_2, j_3, j_4, j_5, j_6, j_7, j_8, j_9, j_10, j_11, j_12, j_13, j_14, j_15, j_16, j_17, j_18, j_19, j_20, j_21, j_22, j_23, j_24, j_25, j_26, j_27, j_28, j_29, j_30, j_31, j_32, j_33, j_34, j_35, j_36, j_37, j_38, j_39, j_40, j_41, j_42, j_43, j_44, j_45, j_46, j_47, j_48, j_49, j_50, j_51, j_52, j_57, j_59, j_63, j_74, j_75, j_93, j_97, j_99, j_100, j_122, j_200, j_255, j_300, j_465, j_496, j_900, j_999, j_1000, j_65536, j_65537, j_99999, j_252645135, j_858993459, j_1431655765, k_0, k_1, k_27, k_32, k_74, k_75, k_100, k_1000, k_65537]
theorem d_hin {a : Ab} {h : Hp} {z n : Int} (HA : AW a) (H : RI a h) (hz : rng z) (hn' : rng n) : Dq (F_md_heightIn 88 (J z) (J n) h) h (v_hin a z n) (t_2 (inr z (qL a 1 0)) (0 ≤ n ∧ n ≤ 20)) := by
  have k := MS_k H.1
  have H1 := RI_0 H
  have k1 := MS_k H1.1
  have b1 := LW_h HA.1
  have rw1 := rw_e (n := n) k1 hn'
  unfold v_hin t_2
  by_cases c : inr z (qL a 1 0)
  · by_cases d : 0 ≤ n ∧ n ≤ 20
    · have cd : inr z (qL a 1 0) ∧ (0 ≤ n ∧ n ≤ 20) := ⟨c, d⟩
      rw [if_pos cd, if_pos c, if_pos d]
      have rw2 := rw1.1
      rw [if_pos d] at rw2
      obtain ⟨b, C1⟩ := lk_1 H1 (by omega)
      obtain ⟨h2, e2, q2, x2, s2⟩ := wrk HA H1
      obtain ⟨h3, e3, f3, x3⟩ := D_softensAll (n := n.toNat) HA.1 (RC_qr q2 C1) x2 (by omega)
      have ez : ((n.toNat : Nat) : Int) = n := by omega
      rw [ez] at e3
      have C3 := RC_qr (qr_91 f3) (RC_qr q2 C1)
      have eh := D_heightOf HA.1 C3 x3 (sw_stk (by omega) (sfn_sw HA.1 (by omega) HA.2.1.1 n.toNat)) (z := z.toNat) (by omega)
      have ez' : ((z.toNat : Nat) : Int) = z := by omega
      rw [ez'] at eh
      obtain ⟨h4, e4, q4, f4⟩ := good_e (h := h3) (v := 1000 + hgt (qL a) (sfn (qL a) (qS a) n.toNat) z) C3.1
      refine ⟨h4, ?_, qr_tr (q00 h) (qr_tr q2 (qr_tr (qr_91 f3) q4)), f4⟩
      unfold F_md_heightIn
      rw [ck_e k]
      simp (disch := first | with_reducible assumption | omega | trivial) only [bn_s1, bd_s1, ei_l1, ei_r1, gI_J, gL_J, gR_J, aI_J, aL_J, sI_J, sL_J, pI_J, pL_J, J_add, J_sub, J_mul, J_neg, J_lt, J_le, J_eq, dv_J, rm_J, if_pos, if_neg, ↓reduceIte, bitJ, shlJ, orJ, j_0, j_1, j_2, j_3, j_4, j_5, j_6, j_7, j_8, j_9, j_10, j_11, j_12, j_13, j_14, j_15, j_16, j_17, j_18, j_19, j_20, j_21, j_22, j_23, j_24, j_25, j_26, j_27, j_28, j_29, j_30, j_31, j_32, j_33, j_34, j_35, j_36, j_37, j_38, j_39, j_40, j_41, j_42, j_43, j_44, j_45, j_46, j_47, j_48, j_49, j_50, j_51, j_52, j_57, j_59, j_63, j_74, j_75, j_93, j_97, j_99, j_100, j_122, j_200, j_255, j_300, j_465, j_496, j_900, j_999, j_1000, j_65536, j_65537, j_99999, j_252645135, j_858993459, j_1431655765, k_0, k_1, k_27, k_32, k_74, k_75, k_100, k_1000, k_65537, im1_1 HA H1 hz c, rw2, e2, e3, eh, e4]
    · have cd : ¬ (inr z (qL a 1 0) ∧ (0 ≤ n ∧ n ≤ 20)) := fun x => d x.2
      rw [if_neg cd, if_pos c, if_neg d]
      have rw2 := rw1.1
      rw [if_neg d] at rw2
      obtain ⟨h2, e2, q2, f2⟩ := ref_e (y := 2) H1.1 (by omega)
      refine ⟨h2, ?_, qr_tr (q00 h) q2, f2⟩
      unfold F_md_heightIn
      rw [ck_e k]
      simp (disch := first | with_reducible assumption | omega | trivial) only [bn_s1, bd_s1, ei_l1, ei_r1, gI_J, gL_J, gR_J, aI_J, aL_J, sI_J, sL_J, pI_J, pL_J, J_add, J_sub, J_mul, J_neg, J_lt, J_le, J_eq, dv_J, rm_J, if_pos, if_neg, ↓reduceIte, bitJ, shlJ, orJ, j_0, j_1, j_2, j_3, j_4, j_5, j_6, j_7, j_8, j_9, j_10, j_11, j_12, j_13, j_14, j_15, j_16, j_17, j_18, j_19, j_20, j_21, j_22, j_23, j_24, j_25, j_26, j_27, j_28, j_29, j_30, j_31, j_32, j_33, j_34, j_35, j_36, j_37, j_38, j_39, j_40, j_41, j_42, j_43, j_44, j_45, j_46, j_47, j_48, j_49, j_50, j_51, j_52, j_57, j_59, j_63, j_74, j_75, j_93, j_97, j_99, j_100, j_122, j_200, j_255, j_300, j_465, j_496, j_900, j_999, j_1000, j_65536, j_65537, j_99999, j_252645135, j_858993459, j_1431655765, k_0, k_1, k_27, k_32, k_74, k_75, k_100, k_1000, k_65537, im1_1 HA H1 hz c, rw2, e2]
  · have cd : ¬ (inr z (qL a 1 0) ∧ (0 ≤ n ∧ n ≤ 20)) := fun x => c x.1
    rw [if_neg cd, if_neg c]
    obtain ⟨h2, e2, q2, f2⟩ := ref_e (y := 1) H1.1 (by omega)
    refine ⟨h2, ?_, qr_tr (q00 h) q2, f2⟩
    unfold F_md_heightIn
    rw [ck_e k]
    simp (disch := first | with_reducible assumption | omega | trivial) only [bn_s1, bd_s1, ei_l1, ei_r1, gI_J, gL_J, gR_J, aI_J, aL_J, sI_J, sL_J, pI_J, pL_J, J_add, J_sub, J_mul, J_neg, J_lt, J_le, J_eq, dv_J, rm_J, if_pos, if_neg, ↓reduceIte, bitJ, shlJ, orJ, j_0, j_1, j_2, j_3, j_4, j_5, j_6, j_7, j_8, j_9, j_10, j_11, j_12, j_13, j_14, j_15, j_16, j_17, j_18, j_19, j_20, j_21, j_22, j_23, j_24, j_25, j_26, j_27, j_28, j_29, j_30, j_31, j_32, j_33, j_34, j_35, j_36, j_37, j_38, j_39, j_40, j_41, j_42, j_43, j_44, j_45, j_46, j_47, j_48, j_49, j_50, j_51, j_52, j_57, j_59, j_63, j_74, j_75, j_93, j_97, j_99, j_100, j_122, j_200, j_255, j_300, j_465, j_496, j_900, j_999, j_1000, j_65536, j_65537, j_99999, j_252645135, j_858993459, j_1431655765, k_0, k_1, k_27, k_32, k_74, k_75, k_100, k_1000, k_65537, im1_0 HA H1 hz c, rw1.2, e2]
def v_uin (a : Ab) (n : Int) : Int := if ¬ qL a 1 0 = 0 ∧ (0 ≤ n ∧ n ≤ 20) then (und (hgt (qL a) (sfn (qL a) (qS a) n.toNat)) (hn (qL a)) : Nat) else -1
theorem c_uin {a : Ab} {t : Nat} {h : Hp} {n : Int} (HA : AW a) (H : CI a t h) (hn' : rng n) : Cq (F_cs_underIn 0 (J n) h) h (v_uin a n) (t_2 (¬ qL a 1 0 = 0) (0 ≤ n ∧ n ≤ 20)) := by
  have k := XS_k (XV_x H.1)
  have b1 := LW_h HA.1
  unfold v_uin t_2
  by_cases c : ¬ qL a 1 0 = 0
  · by_cases d : 0 ≤ n ∧ n ≤ 20
    · have cd : ¬ qL a 1 0 = 0 ∧ (0 ≤ n ∧ n ≤ 20) := ⟨c, d⟩
      rw [if_pos cd, if_pos c, if_pos d]
      have eo := out_0 (lo := 0) (hi := 20) hn' (by omega) (by omega) (by omega) (by omega) d
      have H1 := CI_w (v := 0) (by omega) H
      obtain ⟨h1, e1, s1, g1, m1⟩ := C_measureIn (n := n.toNat) (AW_w (v := 0) (by omega) HA) H1 (by omega)
      have ez : ((n.toNat : Nat) : Int) = n := by omega
      rw [ez] at e1
      replace m1 : RM (qL a) (net (qL a) (sfn (qL a) (qS a) n.toNat)) (sfn (qL a) (qS a) n.toNat 28).toNat 50 h1 := m1
      have X2 := XS_fm s1.1 (XV_x H1.1)
      have k2 := XS_k X2; have r6 := XS_r6 X2
      have eu := C_underBits HA.1 (RS_fm s1.1 (XV_r50 H1.1)) m1.1 m1.2.2.2
      refine ⟨h1, ?_, sc_tr (sc_w h 0) s1, by rw [g1]; exact fi12 h (by omega)⟩
      unfold F_cs_underIn
      rw [ck_e k]
      simp (disch := first | with_reducible assumption | omega | trivial) only [bn_s1, bd_s1, ei_l1, ei_r1, gI_J, gL_J, gR_J, aI_J, aL_J, sI_J, sL_J, pI_J, pL_J, J_add, J_sub, J_mul, J_neg, J_lt, J_le, J_eq, dv_J, rm_J, if_pos, if_neg, ↓reduceIte, bitJ, shlJ, orJ, j_0, j_1, j_2, j_3, j_4, j_5, j_6, j_7, j_8, j_9, j_10, j_11, j_12, j_13, j_14, j_15, j_16, j_17, j_18, j_19, j_20, j_21, j_22, j_23, j_24, j_25, j_26, j_27, j_28, j_29, j_30, j_31, j_32, j_33, j_34, j_35, j_36, j_37, j_38, j_39, j_40, j_41, j_42, j_43, j_44, j_45, j_46, j_47, j_48, j_49, j_50, j_51, j_52, j_57, j_59, j_63, j_74, j_75, j_93, j_97, j_99, j_100, j_122, j_200, j_255, j_300, j_465, j_496, j_900, j_999, j_1000, j_65536, j_65537, j_99999, j_252645135, j_858993459, j_1431655765, k_0, k_1, k_27, k_32, k_74, k_75, k_100, k_1000, k_65537, nl_0 HA H c, eo, ref_0 k, e1, r6, eu]
      rfl
    · have cd : ¬ (¬ qL a 1 0 = 0 ∧ (0 ≤ n ∧ n ≤ 20)) := fun x => d x.2
      rw [if_neg cd, if_pos c, if_neg d]
      have eo := out_1 (lo := 0) (hi := 20) hn' (by omega) (by omega) (by omega) (by omega) d
      refine ⟨wF h 0 12 2, ?_, sc_w h 2, fi12 h (by omega)⟩
      unfold F_cs_underIn
      rw [ck_e k]
      simp (disch := first | with_reducible assumption | omega | trivial) only [bn_s1, bd_s1, ei_l1, ei_r1, gI_J, gL_J, gR_J, aI_J, aL_J, sI_J, sL_J, pI_J, pL_J, J_add, J_sub, J_mul, J_neg, J_lt, J_le, J_eq, dv_J, rm_J, if_pos, if_neg, ↓reduceIte, bitJ, shlJ, orJ, j_0, j_1, j_2, j_3, j_4, j_5, j_6, j_7, j_8, j_9, j_10, j_11, j_12, j_13, j_14, j_15, j_16, j_17, j_18, j_19, j_20, j_21, j_22, j_23, j_24, j_25, j_26, j_27, j_28, j_29, j_30, j_31, j_32, j_33, j_34, j_35, j_36, j_37, j_38, j_39, j_40, j_41, j_42, j_43, j_44, j_45, j_46, j_47, j_48, j_49, j_50, j_51, j_52, j_57, j_59, j_63, j_74, j_75, j_93, j_97, j_99, j_100, j_122, j_200, j_255, j_300, j_465, j_496, j_900, j_999, j_1000, j_65536, j_65537, j_99999, j_252645135, j_858993459, j_1431655765, k_0, k_1, k_27, k_32, k_74, k_75, k_100, k_1000, k_65537, nl_0 HA H c, eo, ref_2 k]
  · have cd : ¬ (¬ qL a 1 0 = 0 ∧ (0 ≤ n ∧ n ≤ 20)) := fun x => c x.1
    rw [if_neg cd, if_neg c]
    have eo := outs_e (a := n) (lo := 0) (hi := 20) hn'.1 hn'.2 (by omega) (by omega) (by omega) (by omega)
    have c' : qL a 1 0 = 0 := by omega
    refine ⟨wF h 0 12 1, ?_, sc_w h 1, fi12 h (by omega)⟩
    unfold F_cs_underIn
    rw [ck_e k]
    simp (disch := first | with_reducible assumption | omega | trivial) only [bn_s1, bd_s1, ei_l1, ei_r1, gI_J, gL_J, gR_J, aI_J, aL_J, sI_J, sL_J, pI_J, pL_J, J_add, J_sub, J_mul, J_neg, J_lt, J_le, J_eq, dv_J, rm_J, if_pos, if_neg, ↓reduceIte, bitJ, shlJ, orJ, j_0, j_1, j_2, j_3, j_4, j_5, j_6, j_7, j_8, j_9, j_10, j_11, j_12, j_13, j_14, j_15, j_16, j_17, j_18, j_19, j_20, j_21, j_22, j_23, j_24, j_25, j_26, j_27, j_28, j_29, j_30, j_31, j_32, j_33, j_34, j_35, j_36, j_37, j_38, j_39, j_40, j_41, j_42, j_43, j_44, j_45, j_46, j_47, j_48, j_49, j_50, j_51, j_52, j_57, j_59, j_63, j_74, j_75, j_93, j_97, j_99, j_100, j_122, j_200, j_255, j_300, j_465, j_496, j_900, j_999, j_1000, j_65536, j_65537, j_99999, j_252645135, j_858993459, j_1431655765, k_0, k_1, k_27, k_32, k_74, k_75, k_100, k_1000, k_65537, nl_1 HA H c', eo, ref_1 k]
theorem d_uin {a : Ab} {h : Hp} {n : Int} (HA : AW a) (H : RI a h) (hn' : rng n) : Dq (F_md_underIn 88 (J n) h) h (v_uin a n) (t_2 (¬ qL a 1 0 = 0) (0 ≤ n ∧ n ≤ 20)) := by
  have k := MS_k H.1
  have H1 := RI_0 H
  have k1 := MS_k H1.1
  have b1 := LW_h HA.1
  have rw1 := rw_e (n := n) k1 hn'
  unfold v_uin t_2
  by_cases c : ¬ qL a 1 0 = 0
  · obtain ⟨b, C1⟩ := lk_1 H1 c
    have e := C1.2.1
    have ne : ¬ (some b = none) := by intro x; cases x
    by_cases d : 0 ≤ n ∧ n ≤ 20
    · have cd : ¬ qL a 1 0 = 0 ∧ (0 ≤ n ∧ n ≤ 20) := ⟨c, d⟩
      rw [if_pos cd, if_pos c, if_pos d]
      have rw2 := rw1.1
      rw [if_pos d] at rw2
      obtain ⟨h2, e2, q2, x2, s2⟩ := wrk HA H1
      obtain ⟨h3, e3, f3, x3⟩ := D_softensAll (n := n.toNat) HA.1 (RC_qr q2 C1) x2 (by omega)
      have ez : ((n.toNat : Nat) : Int) = n := by omega
      rw [ez] at e3
      have C3 := RC_qr (qr_91 f3) (RC_qr q2 C1)
      have eh := D_underNow HA.1 C3 x3 (sw_stk (by omega) (sfn_sw HA.1 (by omega) HA.2.1.1 n.toNat))
      obtain ⟨h4, e4, q4, f4⟩ := good_e (h := h3) (v := (und (hgt (qL a) (sfn (qL a) (qS a) n.toNat)) (hn (qL a)) : Nat)) C3.1
      refine ⟨h4, ?_, qr_tr (q00 h) (qr_tr q2 (qr_tr (qr_91 f3) q4)), f4⟩
      unfold F_md_underIn
      rw [ck_e k]
      simp (disch := first | with_reducible assumption | omega | trivial) only [bn_s1, bd_s1, ei_l1, ei_r1, gI_J, gL_J, gR_J, aI_J, aL_J, sI_J, sL_J, pI_J, pL_J, J_add, J_sub, J_mul, J_neg, J_lt, J_le, J_eq, dv_J, rm_J, if_pos, if_neg, ↓reduceIte, bitJ, shlJ, orJ, j_0, j_1, j_2, j_3, j_4, j_5, j_6, j_7, j_8, j_9, j_10, j_11, j_12, j_13, j_14, j_15, j_16, j_17, j_18, j_19, j_20, j_21, j_22, j_23, j_24, j_25, j_26, j_27, j_28, j_29, j_30, j_31, j_32, j_33, j_34, j_35, j_36, j_37, j_38, j_39, j_40, j_41, j_42, j_43, j_44, j_45, j_46, j_47, j_48, j_49, j_50, j_51, j_52, j_57, j_59, j_63, j_74, j_75, j_93, j_97, j_99, j_100, j_122, j_200, j_255, j_300, j_465, j_496, j_900, j_999, j_1000, j_65536, j_65537, j_99999, j_252645135, j_858993459, j_1431655765, k_0, k_1, k_27, k_32, k_74, k_75, k_100, k_1000, k_65537, gQ_J, e, ne, rw2, e2, e3, eh, e4]
    · have cd : ¬ (¬ qL a 1 0 = 0 ∧ (0 ≤ n ∧ n ≤ 20)) := fun x => d x.2
      rw [if_neg cd, if_pos c, if_neg d]
      have rw2 := rw1.1
      rw [if_neg d] at rw2
      obtain ⟨h2, e2, q2, f2⟩ := ref_e (y := 2) H1.1 (by omega)
      refine ⟨h2, ?_, qr_tr (q00 h) q2, f2⟩
      unfold F_md_underIn
      rw [ck_e k]
      simp (disch := first | with_reducible assumption | omega | trivial) only [bn_s1, bd_s1, ei_l1, ei_r1, gI_J, gL_J, gR_J, aI_J, aL_J, sI_J, sL_J, pI_J, pL_J, J_add, J_sub, J_mul, J_neg, J_lt, J_le, J_eq, dv_J, rm_J, if_pos, if_neg, ↓reduceIte, bitJ, shlJ, orJ, j_0, j_1, j_2, j_3, j_4, j_5, j_6, j_7, j_8, j_9, j_10, j_11, j_12, j_13, j_14, j_15, j_16, j_17, j_18, j_19, j_20, j_21, j_22, j_23, j_24, j_25, j_26, j_27, j_28, j_29, j_30, j_31, j_32, j_33, j_34, j_35, j_36, j_37, j_38, j_39, j_40, j_41, j_42, j_43, j_44, j_45, j_46, j_47, j_48, j_49, j_50, j_51, j_52, j_57, j_59, j_63, j_74, j_75, j_93, j_97, j_99, j_100, j_122, j_200, j_255, j_300, j_465, j_496, j_900, j_999, j_1000, j_65536, j_65537, j_99999, j_252645135, j_858993459, j_1431655765, k_0, k_1, k_27, k_32, k_74, k_75, k_100, k_1000, k_65537, gQ_J, e, ne, rw2, e2]
  · have cd : ¬ (¬ qL a 1 0 = 0 ∧ (0 ≤ n ∧ n ≤ 20)) := fun x => c x.1
    rw [if_neg cd, if_neg c]
    have c' : qL a 1 0 = 0 := by omega
    obtain ⟨h2, e2, q2, f2⟩ := ref_e (y := 1) H1.1 (by omega)
    refine ⟨h2, ?_, qr_tr (q00 h) q2, f2⟩
    unfold F_md_underIn
    rw [ck_e k]
    simp (disch := first | with_reducible assumption | omega | trivial) only [bn_s1, bd_s1, ei_l1, ei_r1, gI_J, gL_J, gR_J, aI_J, aL_J, sI_J, sL_J, pI_J, pL_J, J_add, J_sub, J_mul, J_neg, J_lt, J_le, J_eq, dv_J, rm_J, if_pos, if_neg, ↓reduceIte, bitJ, shlJ, orJ, j_0, j_1, j_2, j_3, j_4, j_5, j_6, j_7, j_8, j_9, j_10, j_11, j_12, j_13, j_14, j_15, j_16, j_17, j_18, j_19, j_20, j_21, j_22, j_23, j_24, j_25, j_26, j_27, j_28, j_29, j_30, j_31, j_32, j_33, j_34, j_35, j_36, j_37, j_38, j_39, j_40, j_41, j_42, j_43, j_44, j_45, j_46, j_47, j_48, j_49, j_50, j_51, j_52, j_57, j_59, j_63, j_74, j_75, j_93, j_97, j_99, j_100, j_122, j_200, j_255, j_300, j_465, j_496, j_900, j_999, j_1000, j_65536, j_65537, j_99999, j_252645135, j_858993459, j_1431655765, k_0, k_1, k_27, k_32, k_74, k_75, k_100, k_1000, k_65537, gQ_J, lk_0 H1 c', rw1.2, e2]
