/-! corks, guest, rope, tilt -/
def v_cor (a : Ab) (z k : Int) : Int := if inr z (qL a 1 0) ∧ (0 ≤ k ∧ k ≤ 4) then qS a (5 * z + k) else -1
def t_hk (p q : Prop) [Decidable p] [Decidable q] : Int := if p then (if q then 0 else 2) else 1
theorem c_cor {a : Ab} {t : Nat} {h : Hp} {z k : Int} (HA : AW a) (H : CI a t h) (hz : rng z) (hk : rng k) : Cq (F_cs_corks 0 (J z) (J k) h) h (v_cor a z k) (t_hk (inr z (qL a 1 0)) (0 ≤ k ∧ k ≤ 4)) := by
  have kx := XS_k (XV_x H.1)
  have b1 := LW_h HA.1
  unfold v_cor t_hk
  have ek : F_cs_noKind (J k) = some (J (if 0 ≤ k ∧ k ≤ 4 then 0 else 1)) := by
    unfold F_cs_noKind
    by_cases d : 0 ≤ k ∧ k ≤ 4
    · rw [if_pos d, j_0, show (4 : Int32) = J 4 from j_4, out_0 hk (by omega) (by omega) (by omega) (by omega) d, bn_s1, if_pos rv_0]
    · rw [if_neg d, j_0, show (4 : Int32) = J 4 from j_4, out_1 hk (by omega) (by omega) (by omega) (by omega) d, bn_s1, if_pos rv_1]
  by_cases c : inr z (qL a 1 0)
  · by_cases d : 0 ≤ k ∧ k ≤ 4
    · rw [if_pos ⟨c, d⟩, if_pos c, if_pos d]
      rw [if_pos d] at ek
      have H1 := CI_w (v := 0) (by omega) H
      have X1 := XV_x H1.1
      have S1 := XV_s44 H1.1
      have k1 := XS_k X1; have r4 := XS_r4 X1; have sk := SS_k S1; have sr := SS_r0 S1; have sk0 := SS_k0 S1; have sn := SS_n0 S1
      have e5 : z * 5 + k = 5 * z + k := by omega
      have v := H1.2.2.1.1 (5 * z + k) (by omega) (by omega)
      refine ⟨wF h 0 12 0, ?_, sc_w h 0, fi12 h (by omega)⟩
      unfold F_cs_corks
      rw [ck_e kx]
      simp (disch := first | with_reducible assumption | omega | trivial) only [bn_s1, bd_s1, ei_l1, ei_r1, gI_J, gL_J, gR_J, aI_J, aL_J, sI_J, sL_J, pI_J, pL_J, J_add, J_sub, J_mul, J_neg, J_lt, J_le, J_eq, dv_J, rm_J, if_pos, if_neg, ↓reduceIte, bitJ, shlJ, orJ, j_0, j_1, j_2, j_3, j_4, j_5, j_6, j_7, j_8, j_9, j_10, j_11, j_12, j_13, j_14, j_15, j_16, j_17, j_18, j_19, j_20, j_21, j_22, j_23, j_24, j_25, j_26, j_27, j_28, j_29, j_30, j_31, j_32, j_33, j_34, j_35, j_36, j_37, j_38, j_39, j_40, j_41, j_42, j_43, j_44, j_45, j_46, j_47, j_48, j_49, j_50, j_51, j_52, j_57, j_59, j_63, j_74, j_75, j_93, j_97, j_99, j_100, j_122, j_200, j_255, j_300, j_465, j_496, j_900, j_999, j_1000, j_65536, j_65537, j_99999, j_252645135, j_858993459, j_1431655765, k_0, k_1, k_27, k_32, k_74, k_75, k_100, k_1000, k_65537, n1_0 HA H hz c, ek, ref_0 kx, r4, sr, e5, v]
      rfl
    · rw [if_neg (fun x => d x.2), if_pos c, if_neg d]
      rw [if_neg d] at ek
      refine ⟨wF h 0 12 2, ?_, sc_w h 2, fi12 h (by omega)⟩
      unfold F_cs_corks
      rw [ck_e kx]
      simp (disch := first | with_reducible assumption | omega | trivial) only [bn_s1, bd_s1, ei_l1, ei_r1, gI_J, gL_J, gR_J, aI_J, aL_J, sI_J, sL_J, pI_J, pL_J, J_add, J_sub, J_mul, J_neg, J_lt, J_le, J_eq, dv_J, rm_J, if_pos, if_neg, ↓reduceIte, bitJ, shlJ, orJ, j_0, j_1, j_2, j_3, j_4, j_5, j_6, j_7, j_8, j_9, j_10, j_11, j_12, j_13, j_14, j_15, j_16, j_17, j_18, j_19, j_20, j_21, j_22, j_23, j_24, j_25, j_26, j_27, j_28, j_29, j_30, j_31, j_32, j_33, j_34, j_35, j_36, j_37, j_38, j_39, j_40, j_41, j_42, j_43, j_44, j_45, j_46, j_47, j_48, j_49, j_50, j_51, j_52, j_57, j_59, j_63, j_74, j_75, j_93, j_97, j_99, j_100, j_122, j_200, j_255, j_300, j_465, j_496, j_900, j_999, j_1000, j_65536, j_65537, j_99999, j_252645135, j_858993459, j_1431655765, k_0, k_1, k_27, k_32, k_74, k_75, k_100, k_1000, k_65537, n1_0 HA H hz c, ek, ref_2 kx]
  · rw [if_neg (fun x => c x.1), if_neg c]
    refine ⟨wF h 0 12 1, ?_, sc_w h 1, fi12 h (by omega)⟩
    unfold F_cs_corks
    rw [ck_e kx]
    simp (disch := first | with_reducible assumption | omega | trivial) only [bn_s1, bd_s1, ei_l1, ei_r1, gI_J, gL_J, gR_J, aI_J, aL_J, sI_J, sL_J, pI_J, pL_J, J_add, J_sub, J_mul, J_neg, J_lt, J_le, J_eq, dv_J, rm_J, if_pos, if_neg, ↓reduceIte, bitJ, shlJ, orJ, j_0, j_1, j_2, j_3, j_4, j_5, j_6, j_7, j_8, j_9, j_10, j_11, j_12, j_13, j_14, j_15, j_16, j_17, j_18, j_19, j_20, j_21, j_22, j_23, j_24, j_25, j_26, j_27, j_28, j_29, j_30, j_31, j_32, j_33, j_34, j_35, j_36, j_37, j_38, j_39, j_40, j_41, j_42, j_43, j_44, j_45, j_46, j_47, j_48, j_49, j_50, j_51, j_52, j_57, j_59, j_63, j_74, j_75, j_93, j_97, j_99, j_100, j_122, j_200, j_255, j_300, j_465, j_496, j_900, j_999, j_1000, j_65536, j_65537, j_99999, j_252645135, j_858993459, j_1431655765, k_0, k_1, k_27, k_32, k_74, k_75, k_100, k_1000, k_65537, n1_1 HA H hz c, ek, ref_1 kx]
theorem d_cor {a : Ab} {h : Hp} {z k : Int} (HA : AW a) (H : RI a h) (hz : rng z) (hk : rng k) : Dq (F_md_corks 88 (J z) (J k) h) h (v_cor a z k) (t_hk (inr z (qL a 1 0)) (0 ≤ k ∧ k ≤ 4)) := by
  have kx := MS_k H.1
  have H1 := RI_0 H
  have M1 := H1.1
  have k1 := MS_k M1; have r := MS_r15 M1; have k15 := MS_k15 M1; have n15 := MS_n15 M1
  have b1 := LW_h HA.1
  unfold v_cor t_hk
  by_cases c : inr z (qL a 1 0)
  · have i1 := im1_1 HA H1 hz c
    by_cases d : 0 ≤ k ∧ k ≤ 4
    · rw [if_pos ⟨c, d⟩, if_pos c, if_pos d]
      have ei := in_1 (lo := 0) (hi := 4) hk (by omega) (by omega) (by omega) (by omega) d
      have v := H1.2.2.1 (5 * z + k) (by omega) (by omega)
      obtain ⟨h3, e3, q3, f3⟩ := good_e (h := wF h 88 0 0) (v := qS a (5 * z + k)) M1
      refine ⟨h3, ?_, qr_tr (q00 h) q3, f3⟩
      unfold F_md_corks
      rw [ck_e kx]
      simp (disch := first | with_reducible assumption | omega | trivial) only [bn_s1, bd_s1, ei_l1, ei_r1, gI_J, gL_J, gR_J, aI_J, aL_J, sI_J, sL_J, pI_J, pL_J, J_add, J_sub, J_mul, J_neg, J_lt, J_le, J_eq, dv_J, rm_J, if_pos, if_neg, ↓reduceIte, bitJ, shlJ, orJ, j_0, j_1, j_2, j_3, j_4, j_5, j_6, j_7, j_8, j_9, j_10, j_11, j_12, j_13, j_14, j_15, j_16, j_17, j_18, j_19, j_20, j_21, j_22, j_23, j_24, j_25, j_26, j_27, j_28, j_29, j_30, j_31, j_32, j_33, j_34, j_35, j_36, j_37, j_38, j_39, j_40, j_41, j_42, j_43, j_44, j_45, j_46, j_47, j_48, j_49, j_50, j_51, j_52, j_57, j_59, j_63, j_74, j_75, j_93, j_97, j_99, j_100, j_122, j_200, j_255, j_300, j_465, j_496, j_900, j_999, j_1000, j_65536, j_65537, j_99999, j_252645135, j_858993459, j_1431655765, k_0, k_1, k_27, k_32, k_74, k_75, k_100, k_1000, k_65537, i1, ei, r, cell_e, v, e3]
    · rw [if_neg (fun x => d x.2), if_pos c, if_neg d]
      have ei := in_0 (lo := 0) (hi := 4) hk (by omega) (by omega) (by omega) (by omega) d
      obtain ⟨h2, e2, q2, f2⟩ := ref_e (y := 2) M1 (by omega)
      refine ⟨h2, ?_, qr_tr (q00 h) q2, f2⟩
      unfold F_md_corks
      rw [ck_e kx]
      simp (disch := first | with_reducible assumption | omega | trivial) only [bn_s1, bd_s1, ei_l1, ei_r1, gI_J, gL_J, gR_J, aI_J, aL_J, sI_J, sL_J, pI_J, pL_J, J_add, J_sub, J_mul, J_neg, J_lt, J_le, J_eq, dv_J, rm_J, if_pos, if_neg, ↓reduceIte, bitJ, shlJ, orJ, j_0, j_1, j_2, j_3, j_4, j_5, j_6, j_7, j_8, j_9, j_10, j_11, j_12, j_13, j_14, j_15, j_16, j_17, j_18, j_19, j_20, j_21, j_22, j_23, j_24, j_25, j_26, j_27, j_28, j_29, j_30, j_31, j_32, j_33, j_34, j_35, j_36, j_37, j_38, j_39, j_40, j_41, j_42, j_43, j_44, j_45, j_46, j_47, j_48, j_49, j_50, j_51, j_52, j_57, j_59, j_63, j_74, j_75, j_93, j_97, j_99, j_100, j_122, j_200, j_255, j_300, j_465, j_496, j_900, j_999, j_1000, j_65536, j_65537, j_99999, j_252645135, j_858993459, j_1431655765, k_0, k_1, k_27, k_32, k_74, k_75, k_100, k_1000, k_65537, i1, ei, e2]
  · rw [if_neg (fun x => c x.1), if_neg c]
    obtain ⟨h2, e2, q2, f2⟩ := ref_e (y := 1) M1 (by omega)
    refine ⟨h2, ?_, qr_tr (q00 h) q2, f2⟩
    unfold F_md_corks
    rw [ck_e kx]
    simp (disch := first | with_reducible assumption | omega | trivial) only [bn_s1, bd_s1, ei_l1, ei_r1, gI_J, gL_J, gR_J, aI_J, aL_J, sI_J, sL_J, pI_J, pL_J, J_add, J_sub, J_mul, J_neg, J_lt, J_le, J_eq, dv_J, rm_J, if_pos, if_neg, ↓reduceIte, bitJ, shlJ, orJ, j_0, j_1, j_2, j_3, j_4, j_5, j_6, j_7, j_8, j_9, j_10, j_11, j_12, j_13, j_14, j_15, j_16, j_17, j_18, j_19, j_20, j_21, j_22, j_23, j_24, j_25, j_26, j_27, j_28, j_29, j_30, j_31, j_32, j_33, j_34, j_35, j_36, j_37, j_38, j_39, j_40, j_41, j_42, j_43, j_44, j_45, j_46, j_47, j_48, j_49, j_50, j_51, j_52, j_57, j_59, j_63, j_74, j_75, j_93, j_97, j_99, j_100, j_122, j_200, j_255, j_300, j_465, j_496, j_900, j_999, j_1000, j_65536, j_65537, j_99999, j_252645135, j_858993459, j_1431655765, k_0, k_1, k_27, k_32, k_74, k_75, k_100, k_1000, k_65537, im1_0 HA H1 hz c, e2]
def v_gue (a : Ab) (g k : Int) : Int := if inr g (qL a 3 0) ∧ (0 ≤ k ∧ k ≤ 1) then (if k = 0 then qL a 15 g else qS a (25 + g)) else -1
def t_p (p : Prop) [Decidable p] : Int := if p then 0 else 1
theorem c_gue {a : Ab} {t : Nat} {h : Hp} {z k : Int} (HA : AW a) (H : CI a t h) (hz : rng z) (hk : rng k) : Cq (F_cs_guest 0 (J z) (J k) h) h (v_gue a z k) (t_p (inr z (qL a 3 0) ∧ (0 ≤ k ∧ k ≤ 1))) := by
  have kx := XS_k (XV_x H.1)
  have b1 := LW_g HA.1
  unfold v_gue t_p
  by_cases c : inr z (qL a 3 0)
  · by_cases d : 0 ≤ k ∧ k ≤ 1
    · have cd : inr z (qL a 3 0) ∧ (0 ≤ k ∧ k ≤ 1) := ⟨c, d⟩
      rw [if_pos cd, if_pos cd]
      have eo := out_0 (lo := 0) (hi := 1) hk (by omega) (by omega) (by omega) (by omega) d
      have H1 := CI_w (v := 0) (by omega) H
      have X1 := XV_x H1.1
      have S1 := XV_s44 H1.1
      have T1 := XV_ts H1.1
      have k1 := XS_k X1; have r4 := XS_r4 X1; have sk := SS_k S1; have sr := SS_r1 S1; have sk0 := SS_k1 S1; have sn := SS_n1 S1
      have rt := XV_t H1.1; have tk := TS_k T1; have tr := TS_r9 T1; have tk9 := TS_k9 T1; have tn := TS_n9 T1
      have v := H1.2.2.1.2.1 z c.1 c.2
      have w := TR_gw H1.2.1 z c.1 c.2
      refine ⟨wF h 0 12 0, ?_, sc_w h 0, fi12 h (by omega)⟩
      unfold F_cs_guest
      rw [ck_e kx]
      by_cases e : k = 0
      · rw [if_pos e]
        simp (disch := first | with_reducible assumption | omega | trivial) only [bn_s1, bd_s1, ei_l1, ei_r1, gI_J, gL_J, gR_J, aI_J, aL_J, sI_J, sL_J, pI_J, pL_J, J_add, J_sub, J_mul, J_neg, J_lt, J_le, J_eq, dv_J, rm_J, if_pos, if_neg, ↓reduceIte, bitJ, shlJ, orJ, j_0, j_1, j_2, j_3, j_4, j_5, j_6, j_7, j_8, j_9, j_10, j_11, j_12, j_13, j_14, j_15, j_16, j_17, j_18, j_19, j_20, j_21, j_22, j_23, j_24, j_25, j_26, j_27, j_28, j_29, j_30, j_31, j_32, j_33, j_34, j_35, j_36, j_37, j_38, j_39, j_40, j_41, j_42, j_43, j_44, j_45, j_46, j_47, j_48, j_49, j_50, j_51, j_52, j_57, j_59, j_63, j_74, j_75, j_93, j_97, j_99, j_100, j_122, j_200, j_255, j_300, j_465, j_496, j_900, j_999, j_1000, j_65536, j_65537, j_99999, j_252645135, j_858993459, j_1431655765, k_0, k_1, k_27, k_32, k_74, k_75, k_100, k_1000, k_65537, n3_0 HA H hz c, eo, ref_0 kx, rt, tr, w]
        rfl
      · rw [if_neg e]
        simp (disch := first | with_reducible assumption | omega | trivial) only [bn_s1, bd_s1, ei_l1, ei_r1, gI_J, gL_J, gR_J, aI_J, aL_J, sI_J, sL_J, pI_J, pL_J, J_add, J_sub, J_mul, J_neg, J_lt, J_le, J_eq, dv_J, rm_J, if_pos, if_neg, ↓reduceIte, bitJ, shlJ, orJ, j_0, j_1, j_2, j_3, j_4, j_5, j_6, j_7, j_8, j_9, j_10, j_11, j_12, j_13, j_14, j_15, j_16, j_17, j_18, j_19, j_20, j_21, j_22, j_23, j_24, j_25, j_26, j_27, j_28, j_29, j_30, j_31, j_32, j_33, j_34, j_35, j_36, j_37, j_38, j_39, j_40, j_41, j_42, j_43, j_44, j_45, j_46, j_47, j_48, j_49, j_50, j_51, j_52, j_57, j_59, j_63, j_74, j_75, j_93, j_97, j_99, j_100, j_122, j_200, j_255, j_300, j_465, j_496, j_900, j_999, j_1000, j_65536, j_65537, j_99999, j_252645135, j_858993459, j_1431655765, k_0, k_1, k_27, k_32, k_74, k_75, k_100, k_1000, k_65537, n3_0 HA H hz c, eo, ref_0 kx, r4, sr, v]
        rfl
    · rw [if_neg (fun x => d x.2), if_neg (fun x => d x.2)]
      have eo := out_1 (lo := 0) (hi := 1) hk (by omega) (by omega) (by omega) (by omega) d
      refine ⟨wF h 0 12 1, ?_, sc_w h 1, fi12 h (by omega)⟩
      unfold F_cs_guest
      rw [ck_e kx]
      simp (disch := first | with_reducible assumption | omega | trivial) only [bn_s1, bd_s1, ei_l1, ei_r1, gI_J, gL_J, gR_J, aI_J, aL_J, sI_J, sL_J, pI_J, pL_J, J_add, J_sub, J_mul, J_neg, J_lt, J_le, J_eq, dv_J, rm_J, if_pos, if_neg, ↓reduceIte, bitJ, shlJ, orJ, j_0, j_1, j_2, j_3, j_4, j_5, j_6, j_7, j_8, j_9, j_10, j_11, j_12, j_13, j_14, j_15, j_16, j_17, j_18, j_19, j_20, j_21, j_22, j_23, j_24, j_25, j_26, j_27, j_28, j_29, j_30, j_31, j_32, j_33, j_34, j_35, j_36, j_37, j_38, j_39, j_40, j_41, j_42, j_43, j_44, j_45, j_46, j_47, j_48, j_49, j_50, j_51, j_52, j_57, j_59, j_63, j_74, j_75, j_93, j_97, j_99, j_100, j_122, j_200, j_255, j_300, j_465, j_496, j_900, j_999, j_1000, j_65536, j_65537, j_99999, j_252645135, j_858993459, j_1431655765, k_0, k_1, k_27, k_32, k_74, k_75, k_100, k_1000, k_65537, n3_0 HA H hz c, eo, ref_1 kx]
  · rw [if_neg (fun x => c x.1), if_neg (fun x => c x.1)]
    refine ⟨wF h 0 12 1, ?_, sc_w h 1, fi12 h (by omega)⟩
    unfold F_cs_guest
    rw [ck_e kx]
    simp (disch := first | with_reducible assumption | omega | trivial) only [bn_s1, bd_s1, ei_l1, ei_r1, gI_J, gL_J, gR_J, aI_J, aL_J, sI_J, sL_J, pI_J, pL_J, J_add, J_sub, J_mul, J_neg, J_lt, J_le, J_eq, dv_J, rm_J, if_pos, if_neg, ↓reduceIte, bitJ, shlJ, orJ, j_0, j_1, j_2, j_3, j_4, j_5, j_6, j_7, j_8, j_9, j_10, j_11, j_12, j_13, j_14, j_15, j_16, j_17, j_18, j_19, j_20, j_21, j_22, j_23, j_24, j_25, j_26, j_27, j_28, j_29, j_30, j_31, j_32, j_33, j_34, j_35, j_36, j_37, j_38, j_39, j_40, j_41, j_42, j_43, j_44, j_45, j_46, j_47, j_48, j_49, j_50, j_51, j_52, j_57, j_59, j_63, j_74, j_75, j_93, j_97, j_99, j_100, j_122, j_200, j_255, j_300, j_465, j_496, j_900, j_999, j_1000, j_65536, j_65537, j_99999, j_252645135, j_858993459, j_1431655765, k_0, k_1, k_27, k_32, k_74, k_75, k_100, k_1000, k_65537, n3_1 HA H hz c, ref_1 kx]
theorem d_gue {a : Ab} {h : Hp} {z k : Int} (HA : AW a) (H : RI a h) (hz : rng z) (hk : rng k) : Dq (F_md_guest 88 (J z) (J k) h) h (v_gue a z k) (t_p (inr z (qL a 3 0) ∧ (0 ≤ k ∧ k ≤ 1))) := by
  have kx := MS_k H.1
  have H1 := RI_0 H
  have M1 := H1.1
  have k1 := MS_k M1; have r := MS_r15 M1; have k15 := MS_k15 M1; have n15 := MS_n15 M1
  have b1 := LW_g HA.1
  unfold v_gue t_p
  obtain ⟨h2, e2, q2, f2⟩ := ref_e (y := 1) M1 (by omega)
  by_cases c : inr z (qL a 3 0)
  · have i1 := im3_1 HA H1 hz c
    by_cases d : 0 ≤ k ∧ k ≤ 1
    · have cd : inr z (qL a 3 0) ∧ (0 ≤ k ∧ k ≤ 1) := ⟨c, d⟩
      rw [if_pos cd, if_pos cd]
      have ei := in_1 (lo := 0) (hi := 1) hk (by omega) (by omega) (by omega) (by omega) d
      have nz : ¬ qL a 1 0 = 0 := by
        intro x
        have := LW_gs HA.1 z c.1 c.2
        omega
      obtain ⟨b, C1⟩ := lk_1 H1 nz
      have rb := C1.2.1
      have Y := C1.2.2.1
      have yk := YS_k Y; have yr := YS_r15 Y; have yk15 := YS_k15 Y; have yn := YS_n15 Y
      have w := (C1.2.2.2.1.2.2.2.2.1 z c.1 c.2).1
      have v := H1.2.2.1 (25 + z) (by omega) (by omega)
      by_cases e : k = 0
      · rw [if_pos e]
        obtain ⟨h3, e3, q3, f3⟩ := good_e (h := wF h 88 0 0) (v := qL a 15 z) M1
        refine ⟨h3, ?_, qr_tr (q00 h) q3, f3⟩
        unfold F_md_guest
        rw [ck_e kx]
        simp (disch := first | with_reducible assumption | omega | trivial) only [bn_s1, bd_s1, ei_l1, ei_r1, gI_J, gL_J, gR_J, aI_J, aL_J, sI_J, sL_J, pI_J, pL_J, J_add, J_sub, J_mul, J_neg, J_lt, J_le, J_eq, dv_J, rm_J, if_pos, if_neg, ↓reduceIte, bitJ, shlJ, orJ, j_0, j_1, j_2, j_3, j_4, j_5, j_6, j_7, j_8, j_9, j_10, j_11, j_12, j_13, j_14, j_15, j_16, j_17, j_18, j_19, j_20, j_21, j_22, j_23, j_24, j_25, j_26, j_27, j_28, j_29, j_30, j_31, j_32, j_33, j_34, j_35, j_36, j_37, j_38, j_39, j_40, j_41, j_42, j_43, j_44, j_45, j_46, j_47, j_48, j_49, j_50, j_51, j_52, j_57, j_59, j_63, j_74, j_75, j_93, j_97, j_99, j_100, j_122, j_200, j_255, j_300, j_465, j_496, j_900, j_999, j_1000, j_65536, j_65537, j_99999, j_252645135, j_858993459, j_1431655765, k_0, k_1, k_27, k_32, k_74, k_75, k_100, k_1000, k_65537, i1, ei, rb, yr, w, e3]
      · rw [if_neg e]
        obtain ⟨h3, e3, q3, f3⟩ := good_e (h := wF h 88 0 0) (v := qS a (25 + z)) M1
        refine ⟨h3, ?_, qr_tr (q00 h) q3, f3⟩
        unfold F_md_guest
        rw [ck_e kx]
        simp (disch := first | with_reducible assumption | omega | trivial) only [bn_s1, bd_s1, ei_l1, ei_r1, gI_J, gL_J, gR_J, aI_J, aL_J, sI_J, sL_J, pI_J, pL_J, J_add, J_sub, J_mul, J_neg, J_lt, J_le, J_eq, dv_J, rm_J, if_pos, if_neg, ↓reduceIte, bitJ, shlJ, orJ, j_0, j_1, j_2, j_3, j_4, j_5, j_6, j_7, j_8, j_9, j_10, j_11, j_12, j_13, j_14, j_15, j_16, j_17, j_18, j_19, j_20, j_21, j_22, j_23, j_24, j_25, j_26, j_27, j_28, j_29, j_30, j_31, j_32, j_33, j_34, j_35, j_36, j_37, j_38, j_39, j_40, j_41, j_42, j_43, j_44, j_45, j_46, j_47, j_48, j_49, j_50, j_51, j_52, j_57, j_59, j_63, j_74, j_75, j_93, j_97, j_99, j_100, j_122, j_200, j_255, j_300, j_465, j_496, j_900, j_999, j_1000, j_65536, j_65537, j_99999, j_252645135, j_858993459, j_1431655765, k_0, k_1, k_27, k_32, k_74, k_75, k_100, k_1000, k_65537, i1, ei, r, v, e3]
    · rw [if_neg (fun x => d x.2), if_neg (fun x => d x.2)]
      have ei := in_0 (lo := 0) (hi := 1) hk (by omega) (by omega) (by omega) (by omega) d
      refine ⟨h2, ?_, qr_tr (q00 h) q2, f2⟩
      unfold F_md_guest
      rw [ck_e kx]
      simp (disch := first | with_reducible assumption | omega | trivial) only [bn_s1, bd_s1, ei_l1, ei_r1, gI_J, gL_J, gR_J, aI_J, aL_J, sI_J, sL_J, pI_J, pL_J, J_add, J_sub, J_mul, J_neg, J_lt, J_le, J_eq, dv_J, rm_J, if_pos, if_neg, ↓reduceIte, bitJ, shlJ, orJ, j_0, j_1, j_2, j_3, j_4, j_5, j_6, j_7, j_8, j_9, j_10, j_11, j_12, j_13, j_14, j_15, j_16, j_17, j_18, j_19, j_20, j_21, j_22, j_23, j_24, j_25, j_26, j_27, j_28, j_29, j_30, j_31, j_32, j_33, j_34, j_35, j_36, j_37, j_38, j_39, j_40, j_41, j_42, j_43, j_44, j_45, j_46, j_47, j_48, j_49, j_50, j_51, j_52, j_57, j_59, j_63, j_74, j_75, j_93, j_97, j_99, j_100, j_122, j_200, j_255, j_300, j_465, j_496, j_900, j_999, j_1000, j_65536, j_65537, j_99999, j_252645135, j_858993459, j_1431655765, k_0, k_1, k_27, k_32, k_74, k_75, k_100, k_1000, k_65537, i1, ei, e2]
  · rw [if_neg (fun x => c x.1), if_neg (fun x => c x.1)]
    refine ⟨h2, ?_, qr_tr (q00 h) q2, f2⟩
    unfold F_md_guest
    rw [ck_e kx]
    simp (disch := first | with_reducible assumption | omega | trivial) only [bn_s1, bd_s1, ei_l1, ei_r1, gI_J, gL_J, gR_J, aI_J, aL_J, sI_J, sL_J, pI_J, pL_J, J_add, J_sub, J_mul, J_neg, J_lt, J_le, J_eq, dv_J, rm_J, if_pos, if_neg, ↓reduceIte, bitJ, shlJ, orJ, j_0, j_1, j_2, j_3, j_4, j_5, j_6, j_7, j_8, j_9, j_10, j_11, j_12, j_13, j_14, j_15, j_16, j_17, j_18, j_19, j_20, j_21, j_22, j_23, j_24, j_25, j_26, j_27, j_28, j_29, j_30, j_31, j_32, j_33, j_34, j_35, j_36, j_37, j_38, j_39, j_40, j_41, j_42, j_43, j_44, j_45, j_46, j_47, j_48, j_49, j_50, j_51, j_52, j_57, j_59, j_63, j_74, j_75, j_93, j_97, j_99, j_100, j_122, j_200, j_255, j_300, j_465, j_496, j_900, j_999, j_1000, j_65536, j_65537, j_99999, j_252645135, j_858993459, j_1431655765, k_0, k_1, k_27, k_32, k_74, k_75, k_100, k_1000, k_65537, im3_0 HA H1 hz c, e2]
def v_rop (a : Ab) (z k : Int) : Int := if inr z (qL a 2 0) ∧ (0 ≤ k ∧ k ≤ 2) then (if k = 0 then qL a 13 z else if k = 1 then qL a 14 z else if (qS a 28).toNat.testBit z.toNat = true then 0 else 1) else -1
theorem c_rop {a : Ab} {t : Nat} {h : Hp} {z k : Int} (HA : AW a) (H : CI a t h) (hz : rng z) (hk : rng k) : Cq (F_cs_rope 0 (J z) (J k) h) h (v_rop a z k) (t_p (inr z (qL a 2 0) ∧ (0 ≤ k ∧ k ≤ 2))) := by
  have kx := XS_k (XV_x H.1)
  have b1 := LW_r HA.1
  unfold v_rop t_p
  by_cases c : inr z (qL a 2 0)
  · by_cases d : 0 ≤ k ∧ k ≤ 2
    · have cd : inr z (qL a 2 0) ∧ (0 ≤ k ∧ k ≤ 2) := ⟨c, d⟩
      rw [if_pos cd, if_pos cd]
      have eo := out_0 (lo := 0) (hi := 2) hk (by omega) (by omega) (by omega) (by omega) d
      have H1 := CI_w (v := 0) (by omega) H
      have X1 := XV_x H1.1
      have T1 := XV_ts H1.1
      have k1 := XS_k X1; have r4 := XS_r4 X1
      have rt := XV_t H1.1; have tk := TS_k T1; have tr6 := TS_r6 T1; have tk6 := TS_k6 T1; have tn6 := TS_n6 T1; have tr7 := TS_r7 T1; have tk7 := TS_k7 T1; have tn7 := TS_n7 T1
      have w6 := TR_o H1.2.1 z c.1 c.2
      have w7 := TR_u H1.2.1 z c.1 c.2
      have sw := HA.2.1.1
      have et := C_isTied (k := z.toNat) HA.1 (XV_s44 H1.1) H1.2.2.1 sw.2.2.2.1 sw.2.2.2.2.1 (show ((z.toNat : Nat) : Int) < qL (sTr a 0) 2 0 by show (z.toNat : Int) < qL a 2 0; omega)
      have ez : ((z.toNat : Nat) : Int) = z := by omega
      rw [ez] at et
      replace et : F_st_isTied 44 (J z) (wF h 0 12 0) = some (J (if (qS a 28).toNat.testBit z.toNat = true then 0 else 1)) := et
      refine ⟨wF h 0 12 0, ?_, sc_w h 0, fi12 h (by omega)⟩
      unfold F_cs_rope
      rw [ck_e kx]
      by_cases e : k = 0
      · rw [if_pos e]
        simp (disch := first | with_reducible assumption | omega | trivial) only [bn_s1, bd_s1, ei_l1, ei_r1, gI_J, gL_J, gR_J, aI_J, aL_J, sI_J, sL_J, pI_J, pL_J, J_add, J_sub, J_mul, J_neg, J_lt, J_le, J_eq, dv_J, rm_J, if_pos, if_neg, ↓reduceIte, bitJ, shlJ, orJ, j_0, j_1, j_2, j_3, j_4, j_5, j_6, j_7, j_8, j_9, j_10, j_11, j_12, j_13, j_14, j_15, j_16, j_17, j_18, j_19, j_20, j_21, j_22, j_23, j_24, j_25, j_26, j_27, j_28, j_29, j_30, j_31, j_32, j_33, j_34, j_35, j_36, j_37, j_38, j_39, j_40, j_41, j_42, j_43, j_44, j_45, j_46, j_47, j_48, j_49, j_50, j_51, j_52, j_57, j_59, j_63, j_74, j_75, j_93, j_97, j_99, j_100, j_122, j_200, j_255, j_300, j_465, j_496, j_900, j_999, j_1000, j_65536, j_65537, j_99999, j_252645135, j_858993459, j_1431655765, k_0, k_1, k_27, k_32, k_74, k_75, k_100, k_1000, k_65537, n2_0 HA H hz c, eo, ref_0 kx, rt, tr6, w6]
        rfl
      · rw [if_neg e]
        by_cases e' : k = 1
        · rw [if_pos e']
          simp (disch := first | with_reducible assumption | omega | trivial) only [bn_s1, bd_s1, ei_l1, ei_r1, gI_J, gL_J, gR_J, aI_J, aL_J, sI_J, sL_J, pI_J, pL_J, J_add, J_sub, J_mul, J_neg, J_lt, J_le, J_eq, dv_J, rm_J, if_pos, if_neg, ↓reduceIte, bitJ, shlJ, orJ, j_0, j_1, j_2, j_3, j_4, j_5, j_6, j_7, j_8, j_9, j_10, j_11, j_12, j_13, j_14, j_15, j_16, j_17, j_18, j_19, j_20, j_21, j_22, j_23, j_24, j_25, j_26, j_27, j_28, j_29, j_30, j_31, j_32, j_33, j_34, j_35, j_36, j_37, j_38, j_39, j_40, j_41, j_42, j_43, j_44, j_45, j_46, j_47, j_48, j_49, j_50, j_51, j_52, j_57, j_59, j_63, j_74, j_75, j_93, j_97, j_99, j_100, j_122, j_200, j_255, j_300, j_465, j_496, j_900, j_999, j_1000, j_65536, j_65537, j_99999, j_252645135, j_858993459, j_1431655765, k_0, k_1, k_27, k_32, k_74, k_75, k_100, k_1000, k_65537, n2_0 HA H hz c, eo, ref_0 kx, rt, tr7, w7]
          rfl
        · rw [if_neg e']
          by_cases f : (qS a 28).toNat.testBit z.toNat = true
          · rw [if_pos f] at et ⊢
            simp (disch := first | with_reducible assumption | omega | trivial) only [bn_s1, bd_s1, ei_l1, ei_r1, gI_J, gL_J, gR_J, aI_J, aL_J, sI_J, sL_J, pI_J, pL_J, J_add, J_sub, J_mul, J_neg, J_lt, J_le, J_eq, dv_J, rm_J, if_pos, if_neg, ↓reduceIte, bitJ, shlJ, orJ, j_0, j_1, j_2, j_3, j_4, j_5, j_6, j_7, j_8, j_9, j_10, j_11, j_12, j_13, j_14, j_15, j_16, j_17, j_18, j_19, j_20, j_21, j_22, j_23, j_24, j_25, j_26, j_27, j_28, j_29, j_30, j_31, j_32, j_33, j_34, j_35, j_36, j_37, j_38, j_39, j_40, j_41, j_42, j_43, j_44, j_45, j_46, j_47, j_48, j_49, j_50, j_51, j_52, j_57, j_59, j_63, j_74, j_75, j_93, j_97, j_99, j_100, j_122, j_200, j_255, j_300, j_465, j_496, j_900, j_999, j_1000, j_65536, j_65537, j_99999, j_252645135, j_858993459, j_1431655765, k_0, k_1, k_27, k_32, k_74, k_75, k_100, k_1000, k_65537, n2_0 HA H hz c, eo, ref_0 kx, r4, et]
          · rw [if_neg f] at et ⊢
            simp (disch := first | with_reducible assumption | omega | trivial) only [bn_s1, bd_s1, ei_l1, ei_r1, gI_J, gL_J, gR_J, aI_J, aL_J, sI_J, sL_J, pI_J, pL_J, J_add, J_sub, J_mul, J_neg, J_lt, J_le, J_eq, dv_J, rm_J, if_pos, if_neg, ↓reduceIte, bitJ, shlJ, orJ, j_0, j_1, j_2, j_3, j_4, j_5, j_6, j_7, j_8, j_9, j_10, j_11, j_12, j_13, j_14, j_15, j_16, j_17, j_18, j_19, j_20, j_21, j_22, j_23, j_24, j_25, j_26, j_27, j_28, j_29, j_30, j_31, j_32, j_33, j_34, j_35, j_36, j_37, j_38, j_39, j_40, j_41, j_42, j_43, j_44, j_45, j_46, j_47, j_48, j_49, j_50, j_51, j_52, j_57, j_59, j_63, j_74, j_75, j_93, j_97, j_99, j_100, j_122, j_200, j_255, j_300, j_465, j_496, j_900, j_999, j_1000, j_65536, j_65537, j_99999, j_252645135, j_858993459, j_1431655765, k_0, k_1, k_27, k_32, k_74, k_75, k_100, k_1000, k_65537, n2_0 HA H hz c, eo, ref_0 kx, r4, et]
    · rw [if_neg (fun x => d x.2), if_neg (fun x => d x.2)]
      have eo := out_1 (lo := 0) (hi := 2) hk (by omega) (by omega) (by omega) (by omega) d
      refine ⟨wF h 0 12 1, ?_, sc_w h 1, fi12 h (by omega)⟩
      unfold F_cs_rope
      rw [ck_e kx]
      simp (disch := first | with_reducible assumption | omega | trivial) only [bn_s1, bd_s1, ei_l1, ei_r1, gI_J, gL_J, gR_J, aI_J, aL_J, sI_J, sL_J, pI_J, pL_J, J_add, J_sub, J_mul, J_neg, J_lt, J_le, J_eq, dv_J, rm_J, if_pos, if_neg, ↓reduceIte, bitJ, shlJ, orJ, j_0, j_1, j_2, j_3, j_4, j_5, j_6, j_7, j_8, j_9, j_10, j_11, j_12, j_13, j_14, j_15, j_16, j_17, j_18, j_19, j_20, j_21, j_22, j_23, j_24, j_25, j_26, j_27, j_28, j_29, j_30, j_31, j_32, j_33, j_34, j_35, j_36, j_37, j_38, j_39, j_40, j_41, j_42, j_43, j_44, j_45, j_46, j_47, j_48, j_49, j_50, j_51, j_52, j_57, j_59, j_63, j_74, j_75, j_93, j_97, j_99, j_100, j_122, j_200, j_255, j_300, j_465, j_496, j_900, j_999, j_1000, j_65536, j_65537, j_99999, j_252645135, j_858993459, j_1431655765, k_0, k_1, k_27, k_32, k_74, k_75, k_100, k_1000, k_65537, n2_0 HA H hz c, eo, ref_1 kx]
  · rw [if_neg (fun x => c x.1), if_neg (fun x => c x.1)]
    refine ⟨wF h 0 12 1, ?_, sc_w h 1, fi12 h (by omega)⟩
    unfold F_cs_rope
    rw [ck_e kx]
    simp (disch := first | with_reducible assumption | omega | trivial) only [bn_s1, bd_s1, ei_l1, ei_r1, gI_J, gL_J, gR_J, aI_J, aL_J, sI_J, sL_J, pI_J, pL_J, J_add, J_sub, J_mul, J_neg, J_lt, J_le, J_eq, dv_J, rm_J, if_pos, if_neg, ↓reduceIte, bitJ, shlJ, orJ, j_0, j_1, j_2, j_3, j_4, j_5, j_6, j_7, j_8, j_9, j_10, j_11, j_12, j_13, j_14, j_15, j_16, j_17, j_18, j_19, j_20, j_21, j_22, j_23, j_24, j_25, j_26, j_27, j_28, j_29, j_30, j_31, j_32, j_33, j_34, j_35, j_36, j_37, j_38, j_39, j_40, j_41, j_42, j_43, j_44, j_45, j_46, j_47, j_48, j_49, j_50, j_51, j_52, j_57, j_59, j_63, j_74, j_75, j_93, j_97, j_99, j_100, j_122, j_200, j_255, j_300, j_465, j_496, j_900, j_999, j_1000, j_65536, j_65537, j_99999, j_252645135, j_858993459, j_1431655765, k_0, k_1, k_27, k_32, k_74, k_75, k_100, k_1000, k_65537, n2_1 HA H hz c, ref_1 kx]
theorem c32 {a : Ab} (HA : AW a) : (qS a 28).toNat < 32 := by
  have w := HA.2.1.1.2.2.2.2.1
  have b := LW_r HA.1
  have e := rn_e HA.1
  have : 2 ^ rn (qL a) ≤ 2 ^ 5 := Nat.pow_le_pow_right (by decide) (by omega)
  omega
theorem d_rop {a : Ab} {h : Hp} {z k : Int} (HA : AW a) (H : RI a h) (hz : rng z) (hk : rng k) : Dq (F_md_rope 88 (J z) (J k) h) h (v_rop a z k) (t_p (inr z (qL a 2 0) ∧ (0 ≤ k ∧ k ≤ 2))) := by
  have kx := MS_k H.1
  have H1 := RI_0 H
  have M1 := H1.1
  have k1 := MS_k M1; have r := MS_r15 M1; have k15 := MS_k15 M1; have n15 := MS_n15 M1
  have b1 := LW_r HA.1
  unfold v_rop t_p
  obtain ⟨h2, e2, q2, f2⟩ := ref_e (y := 1) M1 (by omega)
  by_cases c : inr z (qL a 2 0)
  · have i1 := im2_1 HA H1 hz c
    by_cases d : 0 ≤ k ∧ k ≤ 2
    · have cd : inr z (qL a 2 0) ∧ (0 ≤ k ∧ k ≤ 2) := ⟨c, d⟩
      rw [if_pos cd, if_pos cd]
      have ei := in_1 (lo := 0) (hi := 2) hk (by omega) (by omega) (by omega) (by omega) d
      have nz : ¬ qL a 1 0 = 0 := by
        intro x
        have := LW_rs HA.1 z c.1 c.2
        omega
      obtain ⟨b, C1⟩ := lk_1 H1 nz
      have rb := C1.2.1
      have Y := C1.2.2.1
      have yk := YS_k Y; have yr13 := YS_r13 Y; have yk13 := YS_k13 Y; have yn13 := YS_n13 Y; have yr14 := YS_r14 Y; have yk14 := YS_k14 Y; have yn14 := YS_n14 Y
      have w := C1.2.2.2.1.2.2.2.1 z c.1 c.2
      have w1 := w.1
      have w2 := w.2
      have v : ia (wF h 88 0 0) 90 28 = ((qS a 28).toNat : Int) := by rw [H1.2.2.1 28 (by omega) (by omega)]; have := HA.2.1.1.2.2.2.1; omega
      have eb := bit_e (n := (qS a 28).toNat) (z := z) (c32 HA) c.1 (by omega)
      by_cases e : k = 0
      · rw [if_pos e]
        obtain ⟨h3, e3, q3, f3⟩ := good_e (h := wF h 88 0 0) (v := qL a 13 z) M1
        refine ⟨h3, ?_, qr_tr (q00 h) q3, f3⟩
        unfold F_md_rope
        rw [ck_e kx]
        simp (disch := first | with_reducible assumption | omega | trivial) only [bn_s1, bd_s1, ei_l1, ei_r1, gI_J, gL_J, gR_J, aI_J, aL_J, sI_J, sL_J, pI_J, pL_J, J_add, J_sub, J_mul, J_neg, J_lt, J_le, J_eq, dv_J, rm_J, if_pos, if_neg, ↓reduceIte, bitJ, shlJ, orJ, j_0, j_1, j_2, j_3, j_4, j_5, j_6, j_7, j_8, j_9, j_10, j_11, j_12, j_13, j_14, j_15, j_16, j_17, j_18, j_19, j_20, j_21, j_22, j_23, j_24, j_25, j_26, j_27, j_28, j_29, j_30, j_31, j_32, j_33, j_34, j_35, j_36, j_37, j_38, j_39, j_40, j_41, j_42, j_43, j_44, j_45, j_46, j_47, j_48, j_49, j_50, j_51, j_52, j_57, j_59, j_63, j_74, j_75, j_93, j_97, j_99, j_100, j_122, j_200, j_255, j_300, j_465, j_496, j_900, j_999, j_1000, j_65536, j_65537, j_99999, j_252645135, j_858993459, j_1431655765, k_0, k_1, k_27, k_32, k_74, k_75, k_100, k_1000, k_65537, i1, ei, rb, yr13, w1, e3]
      · rw [if_neg e]
        by_cases e' : k = 1
        · rw [if_pos e']
          obtain ⟨h3, e3, q3, f3⟩ := good_e (h := wF h 88 0 0) (v := qL a 14 z) M1
          refine ⟨h3, ?_, qr_tr (q00 h) q3, f3⟩
          unfold F_md_rope
          rw [ck_e kx]
          simp (disch := first | with_reducible assumption | omega | trivial) only [bn_s1, bd_s1, ei_l1, ei_r1, gI_J, gL_J, gR_J, aI_J, aL_J, sI_J, sL_J, pI_J, pL_J, J_add, J_sub, J_mul, J_neg, J_lt, J_le, J_eq, dv_J, rm_J, if_pos, if_neg, ↓reduceIte, bitJ, shlJ, orJ, j_0, j_1, j_2, j_3, j_4, j_5, j_6, j_7, j_8, j_9, j_10, j_11, j_12, j_13, j_14, j_15, j_16, j_17, j_18, j_19, j_20, j_21, j_22, j_23, j_24, j_25, j_26, j_27, j_28, j_29, j_30, j_31, j_32, j_33, j_34, j_35, j_36, j_37, j_38, j_39, j_40, j_41, j_42, j_43, j_44, j_45, j_46, j_47, j_48, j_49, j_50, j_51, j_52, j_57, j_59, j_63, j_74, j_75, j_93, j_97, j_99, j_100, j_122, j_200, j_255, j_300, j_465, j_496, j_900, j_999, j_1000, j_65536, j_65537, j_99999, j_252645135, j_858993459, j_1431655765, k_0, k_1, k_27, k_32, k_74, k_75, k_100, k_1000, k_65537, i1, ei, rb, yr14, w2, e3]
        · rw [if_neg e']
          by_cases f : (qS a 28).toNat.testBit z.toNat = true
          · rw [if_pos f] at eb ⊢
            obtain ⟨h3, e3, q3, f3⟩ := good_e (h := wF h 88 0 0) (v := 0) M1
            refine ⟨h3, ?_, qr_tr (q00 h) q3, f3⟩
            unfold F_md_rope
            rw [ck_e kx]
            simp (disch := first | with_reducible assumption | omega | trivial) only [bn_s1, bd_s1, ei_l1, ei_r1, gI_J, gL_J, gR_J, aI_J, aL_J, sI_J, sL_J, pI_J, pL_J, J_add, J_sub, J_mul, J_neg, J_lt, J_le, J_eq, dv_J, rm_J, if_pos, if_neg, ↓reduceIte, bitJ, shlJ, orJ, j_0, j_1, j_2, j_3, j_4, j_5, j_6, j_7, j_8, j_9, j_10, j_11, j_12, j_13, j_14, j_15, j_16, j_17, j_18, j_19, j_20, j_21, j_22, j_23, j_24, j_25, j_26, j_27, j_28, j_29, j_30, j_31, j_32, j_33, j_34, j_35, j_36, j_37, j_38, j_39, j_40, j_41, j_42, j_43, j_44, j_45, j_46, j_47, j_48, j_49, j_50, j_51, j_52, j_57, j_59, j_63, j_74, j_75, j_93, j_97, j_99, j_100, j_122, j_200, j_255, j_300, j_465, j_496, j_900, j_999, j_1000, j_65536, j_65537, j_99999, j_252645135, j_858993459, j_1431655765, k_0, k_1, k_27, k_32, k_74, k_75, k_100, k_1000, k_65537, i1, ei, r, v, eb, e3]
          · rw [if_neg f] at eb ⊢
            obtain ⟨h3, e3, q3, f3⟩ := good_e (h := wF h 88 0 0) (v := 1) M1
            refine ⟨h3, ?_, qr_tr (q00 h) q3, f3⟩
            unfold F_md_rope
            rw [ck_e kx]
            simp (disch := first | with_reducible assumption | omega | trivial) only [bn_s1, bd_s1, ei_l1, ei_r1, gI_J, gL_J, gR_J, aI_J, aL_J, sI_J, sL_J, pI_J, pL_J, J_add, J_sub, J_mul, J_neg, J_lt, J_le, J_eq, dv_J, rm_J, if_pos, if_neg, ↓reduceIte, bitJ, shlJ, orJ, j_0, j_1, j_2, j_3, j_4, j_5, j_6, j_7, j_8, j_9, j_10, j_11, j_12, j_13, j_14, j_15, j_16, j_17, j_18, j_19, j_20, j_21, j_22, j_23, j_24, j_25, j_26, j_27, j_28, j_29, j_30, j_31, j_32, j_33, j_34, j_35, j_36, j_37, j_38, j_39, j_40, j_41, j_42, j_43, j_44, j_45, j_46, j_47, j_48, j_49, j_50, j_51, j_52, j_57, j_59, j_63, j_74, j_75, j_93, j_97, j_99, j_100, j_122, j_200, j_255, j_300, j_465, j_496, j_900, j_999, j_1000, j_65536, j_65537, j_99999, j_252645135, j_858993459, j_1431655765, k_0, k_1, k_27, k_32, k_74, k_75, k_100, k_1000, k_65537, i1, ei, r, v, eb, e3]
    · rw [if_neg (fun x => d x.2), if_neg (fun x => d x.2)]
      have ei := in_0 (lo := 0) (hi := 2) hk (by omega) (by omega) (by omega) (by omega) d
      refine ⟨h2, ?_, qr_tr (q00 h) q2, f2⟩
      unfold F_md_rope
      rw [ck_e kx]
      simp (disch := first | with_reducible assumption | omega | trivial) only [bn_s1, bd_s1, ei_l1, ei_r1, gI_J, gL_J, gR_J, aI_J, aL_J, sI_J, sL_J, pI_J, pL_J, J_add, J_sub, J_mul, J_neg, J_lt, J_le, J_eq, dv_J, rm_J, if_pos, if_neg, ↓reduceIte, bitJ, shlJ, orJ, j_0, j_1, j_2, j_3, j_4, j_5, j_6, j_7, j_8, j_9, j_10, j_11, j_12, j_13, j_14, j_15, j_16, j_17, j_18, j_19, j_20, j_21, j_22, j_23, j_24, j_25, j_26, j_27, j_28, j_29, j_30, j_31, j_32, j_33, j_34, j_35, j_36, j_37, j_38, j_39, j_40, j_41, j_42, j_43, j_44, j_45, j_46, j_47, j_48, j_49, j_50, j_51, j_52, j_57, j_59, j_63, j_74, j_75, j_93, j_97, j_99, j_100, j_122, j_200, j_255, j_300, j_465, j_496, j_900, j_999, j_1000, j_65536, j_65537, j_99999, j_252645135, j_858993459, j_1431655765, k_0, k_1, k_27, k_32, k_74, k_75, k_100, k_1000, k_65537, i1, ei, e2]
  · rw [if_neg (fun x => c x.1), if_neg (fun x => c x.1)]
    refine ⟨h2, ?_, qr_tr (q00 h) q2, f2⟩
    unfold F_md_rope
    rw [ck_e kx]
    simp (disch := first | with_reducible assumption | omega | trivial) only [bn_s1, bd_s1, ei_l1, ei_r1, gI_J, gL_J, gR_J, aI_J, aL_J, sI_J, sL_J, pI_J, pL_J, J_add, J_sub, J_mul, J_neg, J_lt, J_le, J_eq, dv_J, rm_J, if_pos, if_neg, ↓reduceIte, bitJ, shlJ, orJ, j_0, j_1, j_2, j_3, j_4, j_5, j_6, j_7, j_8, j_9, j_10, j_11, j_12, j_13, j_14, j_15, j_16, j_17, j_18, j_19, j_20, j_21, j_22, j_23, j_24, j_25, j_26, j_27, j_28, j_29, j_30, j_31, j_32, j_33, j_34, j_35, j_36, j_37, j_38, j_39, j_40, j_41, j_42, j_43, j_44, j_45, j_46, j_47, j_48, j_49, j_50, j_51, j_52, j_57, j_59, j_63, j_74, j_75, j_93, j_97, j_99, j_100, j_122, j_200, j_255, j_300, j_465, j_496, j_900, j_999, j_1000, j_65536, j_65537, j_99999, j_252645135, j_858993459, j_1431655765, k_0, k_1, k_27, k_32, k_74, k_75, k_100, k_1000, k_65537, im2_0 HA H1 hz c, e2]
