/-! week -/
theorem mst_hi {L : Lk} {p : Sk × Int} {z i : Int} (hz : z < 5) (hi : 25 ≤ i) (h30 : i ≠ 30) : (mst L p z).1 i = p.1 i := by
  unfold mst
  by_cases c : L 9 z = 0
  · rw [if_pos c]
    by_cases d : sd p.1 % 100 < L 0 0
    · rw [if_pos d]
      show lse (upS p.1 30 (sd p.1)) z i = p.1 i
      rw [lse_hi hz hi, upS_ne h30]
    · rw [if_neg d]
      show upS p.1 30 (sd p.1) i = p.1 i
      rw [upS_ne h30]
  · rw [if_neg c]
theorem wkm_hi {L : Lk} (HL : LW L) (S : Sk) {i : Int} (hi : 25 ≤ i) (h30 : i ≠ 30) : (wkm L S).1 i = S i := by
  have b1 := LW_h HL
  have hne := hn_e HL
  have key : ∀ n : Nat, n ≤ 5 → (mws L (sft S (hn L), 0) n).1 i = S i := by
    intro n
    induction n with
    | zero => intro _; exact sft_hi hi (hn L) (by omega)
    | succ n ih =>
      intro hn'
      show (mst L (mws L (sft S (hn L), 0) n) n).1 i = S i
      rw [mst_hi (by omega) hi h30]; exact ih (by omega)
  exact key (hn L) (by omega)
def wkS (a : Ab) : Sk := upS (wkm (qL a) (qS a)).1 29 (qS a 29 + 1)
theorem SG_wk {a : Ab} (HA : AW a) (h : qS a 29 < 999) : SG (qL a) (wkS a) := by
  have b3 := LW_g HA.1
  have k := HA.2.1.2.1
  refine ⟨sw_29 HA.1 (wkm_sw HA.1 (by omega) HA.2.1.1) _, ?_, fun g g0 g1 => ?_⟩
  · have e : wkS a 29 = qS a 29 + 1 := by unfold wkS upS; rw [if_pos rfl]
    rw [e]; omega
  · unfold wkS
    rw [upS_ne (by omega), wkm_hi HA.1 _ (by omega) (by omega)]
    exact HA.2.1.2.2 g g0 g1
def a_wek (a : Ab) : Ab := if qL a 1 0 = 0 then sTr a 1 else if qS a 29 < 999 then acx a (wkS a) else sTr a 3
def v_wek (a : Ab) : Int := if qL a 1 0 = 0 then -1 else if qS a 29 < 999 then (und (hgt (qL a) (wkm (qL a) (qS a)).1) (hn (qL a)) : Nat) else -1
theorem AW_wek {a : Ab} (HA : AW a) : AW (a_wek a) := by
  unfold a_wek
  by_cases c : qL a 1 0 = 0
  · rw [if_pos c]; exact AW_w (by omega) HA
  · rw [if_neg c]
    by_cases d : qS a 29 < 999
    · rw [if_pos d]; exact AW_acx HA (SG_wk HA d)
    · rw [if_neg d]; exact AW_w (by omega) HA
theorem c_wek {a : Ab} {t : Nat} {h : Hp} (HA : AW a) (H : CI a t h) : Ca (F_cs_week 0 h) h (v_wek a) (a_wek a) t := by
  have kx := XS_k (XV_x H.1)
  have o := XV_o H.1
  have b1 := LW_h HA.1
  unfold F_cs_week v_wek a_wek
  rw [ck_e kx, jm1]
  by_cases c : qL a 1 0 = 0
  · rw [if_pos c, if_pos c]
    refine ca_r H (by omega) ?_
    try simp only [j_0, j_1, j_2, j_3, j_4, j_5, j_6, j_7, j_8, j_9, j_10, j_11, j_12, j_13, j_14, j_15, j_16, j_17, j_18, j_19, j_20, j_21, j_22, j_23, j_24, j_25, j_26, j_27, j_28, j_29, j_30, j_31, j_32, j_33, j_34, j_35, j_36, j_37, j_38, j_39, j_40, j_41, j_42, j_43, j_44, j_45, j_46, j_47, j_48, j_49, j_50, j_51, j_52, j_57, j_59, j_63, j_74, j_75, j_93, j_97, j_99, j_100, j_122, j_200, j_255, j_300, j_465, j_496, j_900, j_999, j_1000, j_65536, j_65537, j_99999, j_252645135, j_858993459, j_1431655765, k_0, k_1, k_27, k_32, k_74, k_75, k_100, k_1000, k_65537]
    simp (disch := first | with_reducible assumption | omega | trivial) only [↓bn_s1, ↓bd_s1, ↓ei_l1, ↓ei_r1, ↓bn_if, ↓ilt_1, ↓ilt_0, ↓ieq_1, ↓ieq_0, bn_s1, bd_s1, ei_l1, ei_r1, J_add, J_sub, J_mul, J_neg, J_lt, J_le, J_eq, dv_J, rm_J, if_pos, if_neg, ↓reduceIte, bitJ, shlJ, orJ, j_0, j_1, j_2, j_3, j_4, j_5, j_6, j_7, j_8, j_9, j_10, j_11, j_12, j_13, j_14, j_15, j_16, j_17, j_18, j_19, j_20, j_21, j_22, j_23, j_24, j_25, j_26, j_27, j_28, j_29, j_30, j_31, j_32, j_33, j_34, j_35, j_36, j_37, j_38, j_39, j_40, j_41, j_42, j_43, j_44, j_45, j_46, j_47, j_48, j_49, j_50, j_51, j_52, j_57, j_59, j_63, j_74, j_75, j_93, j_97, j_99, j_100, j_122, j_200, j_255, j_300, j_465, j_496, j_900, j_999, j_1000, j_65536, j_65537, j_99999, j_252645135, j_858993459, j_1431655765, k_0, k_1, k_27, k_32, k_74, k_75, k_100, k_1000, k_65537, ↓bn_e (nl_1 HA H c), nl_1 HA H c, ↓bd_e (ref_1 kx 0), ref_1 kx 0]
  · rw [if_neg c, if_neg c]
    have H1 := CI_w (v := 0) (by omega) H
    have A1 := AW_w (v := 0) (by omega) HA
    have V1 := H1.1
    have k1 := XS_k (XV_x V1)
    have v1 : fi (wF h 0 12 0) 44 4 = qS a 29 := H1.2.2.1.2.2.2.2
    have wk := HA.2.1.2.1
    by_cases d : qS a 29 < 999
    · rw [if_pos d, if_pos d]
      have H2 := CI_w (v := 0) (by omega) H1
      have V2 := H2.1
      obtain ⟨h3, e3, f3, H3⟩ := C_kept (AW_w (v := 0) (by omega) A1) H2
      have V3 := H3.1
      obtain ⟨h4, e4, f4, S4⟩ := C_passWithMice HA.1 (XV_c V3) (XV_ts V3) H3.2.1 HA.2.1.1 (by omega) (XV_s44 V3) (show SR (qL a) 44 (qS a) h3 from H3.2.2.1) (by omega) (by omega) (by omega)
      have H4 : CI (acx a (wkS a)) t h4 := CI_S f4 (by omega) (by omega) H3 S4
      have V4 := H4.1
      have SGw := SG_wk HA d
      obtain ⟨h5, e5, s5, g5, m5⟩ := C_meas (AW_acx HA SGw) H4
      replace m5 : RM (qL a) (net (qL a) (wkS a)) (wkS a 28).toNat 50 h5 := m5
      have V5 := XV_fm s5.1 (by omega) V4
      have eu : F_ra_underBits 50 h5 = some (J (und (hgt (qL a) (wkS a)) (hn (qL a)) : Nat)) := C_underBits HA.1 (XV_r50 V5) m5.1 m5.2.2.2
      have ee : und (hgt (qL a) (wkS a)) (hn (qL a)) = und (hgt (qL a) (wkm (qL a) (qS a)).1) (hn (qL a)) := und_e (fun i hi => hgt_hi HA.1 _ (by omega) _ _)
      rw [ee] at eu
      have H5 : CI (acx a (wkS a)) t h5 := CI_q s5 g5 H4 |> fun x => by
        have e12 : fi h4 0 12 = 0 := H4.2.2.2.2.2.1
        rw [e12] at x
        exact x
      refine ⟨h5, ?_, fm_tr (fm_wF (by omega) (by omega)) (fm_tr (fm_wF (by omega) (by omega)) (fm_tr (fm_wd f3 (by omega) (by omega)) (fm_tr (fm_wd f4 (by omega) (by omega)) s5.1))), H5⟩
      try simp only [j_0, j_1, j_2, j_3, j_4, j_5, j_6, j_7, j_8, j_9, j_10, j_11, j_12, j_13, j_14, j_15, j_16, j_17, j_18, j_19, j_20, j_21, j_22, j_23, j_24, j_25, j_26, j_27, j_28, j_29, j_30, j_31, j_32, j_33, j_34, j_35, j_36, j_37, j_38, j_39, j_40, j_41, j_42, j_43, j_44, j_45, j_46, j_47, j_48, j_49, j_50, j_51, j_52, j_57, j_59, j_63, j_74, j_75, j_93, j_97, j_99, j_100, j_122, j_200, j_255, j_300, j_465, j_496, j_900, j_999, j_1000, j_65536, j_65537, j_99999, j_252645135, j_858993459, j_1431655765, k_0, k_1, k_27, k_32, k_74, k_75, k_100, k_1000, k_65537]
      simp (disch := first | with_reducible assumption | omega | trivial) only [↓bn_s1, ↓bd_s1, ↓ei_l1, ↓ei_r1, ↓bn_if, ↓ilt_1, ↓ilt_0, ↓ieq_1, ↓ieq_0, bn_s1, bd_s1, ei_l1, ei_r1, J_add, J_sub, J_mul, J_neg, J_lt, J_le, J_eq, dv_J, rm_J, if_pos, if_neg, ↓reduceIte, bitJ, shlJ, orJ, j_0, j_1, j_2, j_3, j_4, j_5, j_6, j_7, j_8, j_9, j_10, j_11, j_12, j_13, j_14, j_15, j_16, j_17, j_18, j_19, j_20, j_21, j_22, j_23, j_24, j_25, j_26, j_27, j_28, j_29, j_30, j_31, j_32, j_33, j_34, j_35, j_36, j_37, j_38, j_39, j_40, j_41, j_42, j_43, j_44, j_45, j_46, j_47, j_48, j_49, j_50, j_51, j_52, j_57, j_59, j_63, j_74, j_75, j_93, j_97, j_99, j_100, j_122, j_200, j_255, j_300, j_465, j_496, j_900, j_999, j_1000, j_65536, j_65537, j_99999, j_252645135, j_858993459, j_1431655765, k_0, k_1, k_27, k_32, k_74, k_75, k_100, k_1000, k_65537, ↓bn_e (nl_0 HA H c), nl_0 HA H c, ↓bd_e (ref_0 kx), ref_0 kx, vr_0 V1, ↓vr_0_b V1, vr_2 V1, ↓vr_2_b V1, vr_4 V1, ↓vr_4_b V1, vr_5 V1, ↓vr_5_b V1, vr_6 V1, ↓vr_6_b V1, vr_7 V1, ↓vr_7_b V1, vr_8 V1, ↓vr_8_b V1, vr_9 V1, ↓vr_9_b V1, vr_10 V1, ↓vr_10_b V1, vr_11 V1, ↓vr_11_b V1, vr_3 V1, ↓vr_3_b V1, v0i V1, ↓v0i_b V1, v0p V1, ↓v0p_b V1, sr44_0 V1, ↓sr44_0_b V1, sr44_1 V1, ↓sr44_1_b V1, s44i V1, ↓s44i_b V1, s44p V1, ↓s44p_b V1, s45a V1, ↓s45a_b V1, s45s V1, ↓s45s_b V1, s46a V1, ↓s46a_b V1, s46s V1, ↓s46s_b V1, v1, ↓bd_e (rby_0 k1), rby_0 k1, vr_0 V2, ↓vr_0_b V2, vr_2 V2, ↓vr_2_b V2, vr_4 V2, ↓vr_4_b V2, vr_5 V2, ↓vr_5_b V2, vr_6 V2, ↓vr_6_b V2, vr_7 V2, ↓vr_7_b V2, vr_8 V2, ↓vr_8_b V2, vr_9 V2, ↓vr_9_b V2, vr_10 V2, ↓vr_10_b V2, vr_11 V2, ↓vr_11_b V2, vr_3 V2, ↓vr_3_b V2, v0i V2, ↓v0i_b V2, v0p V2, ↓v0p_b V2, ↓bn_e (e3), e3, vr_0 V3, ↓vr_0_b V3, vr_2 V3, ↓vr_2_b V3, vr_4 V3, ↓vr_4_b V3, vr_5 V3, ↓vr_5_b V3, vr_6 V3, ↓vr_6_b V3, vr_7 V3, ↓vr_7_b V3, vr_8 V3, ↓vr_8_b V3, vr_9 V3, ↓vr_9_b V3, vr_10 V3, ↓vr_10_b V3, vr_11 V3, ↓vr_11_b V3, vr_3 V3, ↓vr_3_b V3, v0i V3, ↓v0i_b V3, v0p V3, ↓v0p_b V3, ↓bd_e (e4), e4, vr_0 V4, ↓vr_0_b V4, vr_2 V4, ↓vr_2_b V4, vr_4 V4, ↓vr_4_b V4, vr_5 V4, ↓vr_5_b V4, vr_6 V4, ↓vr_6_b V4, vr_7 V4, ↓vr_7_b V4, vr_8 V4, ↓vr_8_b V4, vr_9 V4, ↓vr_9_b V4, vr_10 V4, ↓vr_10_b V4, vr_11 V4, ↓vr_11_b V4, vr_3 V4, ↓vr_3_b V4, v0i V4, ↓v0i_b V4, v0p V4, ↓v0p_b V4, ↓bn_e (e5), e5, vr_0 V5, ↓vr_0_b V5, vr_2 V5, ↓vr_2_b V5, vr_4 V5, ↓vr_4_b V5, vr_5 V5, ↓vr_5_b V5, vr_6 V5, ↓vr_6_b V5, vr_7 V5, ↓vr_7_b V5, vr_8 V5, ↓vr_8_b V5, vr_9 V5, ↓vr_9_b V5, vr_10 V5, ↓vr_10_b V5, vr_11 V5, ↓vr_11_b V5, vr_3 V5, ↓vr_3_b V5, v0i V5, ↓v0i_b V5, v0p V5, ↓v0p_b V5, ↓bn_e (eu), eu]
    · rw [if_neg d, if_neg d]
      refine ca_r2 H (x := 0) (by omega) (by omega) ?_
      try simp only [j_0, j_1, j_2, j_3, j_4, j_5, j_6, j_7, j_8, j_9, j_10, j_11, j_12, j_13, j_14, j_15, j_16, j_17, j_18, j_19, j_20, j_21, j_22, j_23, j_24, j_25, j_26, j_27, j_28, j_29, j_30, j_31, j_32, j_33, j_34, j_35, j_36, j_37, j_38, j_39, j_40, j_41, j_42, j_43, j_44, j_45, j_46, j_47, j_48, j_49, j_50, j_51, j_52, j_57, j_59, j_63, j_74, j_75, j_93, j_97, j_99, j_100, j_122, j_200, j_255, j_300, j_465, j_496, j_900, j_999, j_1000, j_65536, j_65537, j_99999, j_252645135, j_858993459, j_1431655765, k_0, k_1, k_27, k_32, k_74, k_75, k_100, k_1000, k_65537]
      simp (disch := first | with_reducible assumption | omega | trivial) only [↓bn_s1, ↓bd_s1, ↓ei_l1, ↓ei_r1, ↓bn_if, ↓ilt_1, ↓ilt_0, ↓ieq_1, ↓ieq_0, bn_s1, bd_s1, ei_l1, ei_r1, J_add, J_sub, J_mul, J_neg, J_lt, J_le, J_eq, dv_J, rm_J, if_pos, if_neg, ↓reduceIte, bitJ, shlJ, orJ, j_0, j_1, j_2, j_3, j_4, j_5, j_6, j_7, j_8, j_9, j_10, j_11, j_12, j_13, j_14, j_15, j_16, j_17, j_18, j_19, j_20, j_21, j_22, j_23, j_24, j_25, j_26, j_27, j_28, j_29, j_30, j_31, j_32, j_33, j_34, j_35, j_36, j_37, j_38, j_39, j_40, j_41, j_42, j_43, j_44, j_45, j_46, j_47, j_48, j_49, j_50, j_51, j_52, j_57, j_59, j_63, j_74, j_75, j_93, j_97, j_99, j_100, j_122, j_200, j_255, j_300, j_465, j_496, j_900, j_999, j_1000, j_65536, j_65537, j_99999, j_252645135, j_858993459, j_1431655765, k_0, k_1, k_27, k_32, k_74, k_75, k_100, k_1000, k_65537, ↓bn_e (nl_0 HA H c), nl_0 HA H c, ↓bd_e (ref_0 kx), ref_0 kx, vr_0 V1, ↓vr_0_b V1, vr_2 V1, ↓vr_2_b V1, vr_4 V1, ↓vr_4_b V1, vr_5 V1, ↓vr_5_b V1, vr_6 V1, ↓vr_6_b V1, vr_7 V1, ↓vr_7_b V1, vr_8 V1, ↓vr_8_b V1, vr_9 V1, ↓vr_9_b V1, vr_10 V1, ↓vr_10_b V1, vr_11 V1, ↓vr_11_b V1, vr_3 V1, ↓vr_3_b V1, v0i V1, ↓v0i_b V1, v0p V1, ↓v0p_b V1, sr44_0 V1, ↓sr44_0_b V1, sr44_1 V1, ↓sr44_1_b V1, s44i V1, ↓s44i_b V1, s44p V1, ↓s44p_b V1, s45a V1, ↓s45a_b V1, s45s V1, ↓s45s_b V1, s46a V1, ↓s46a_b V1, s46s V1, ↓s46s_b V1, v1, ↓bd_e (rby_1 k1), rby_1 k1]
theorem D_aWeekA {L : Lk} {b : Nat} {h : Hp} {S : Sk} {m : Int} (HL : LW L) (HC : RC L b h) (HX : XR S h) (HW : SW m L S) (hm : 0 ≤ m ∧ m ≤ 5000) : ∃ h', F_md_aWeek 88 h = some h' ∧ Fw h h' ∧ XR (wkm L S).1 h' := by
  have k := MS_k HC.1
  have b1 := LW_h HL
  have b0 := LW_mice HL
  have hne := hn_e HL
  obtain ⟨h1, e1, f1, g1⟩ := D_softens HL HC HX
  have W1 := sft_sw HL hm.1 HW
  obtain ⟨y, h2, e2, f2, g2⟩ := lp_for (b := B_md_aWeek_6 88) (f := FU) (s := J 0) (h := h1) (fun i s h' => s = J i ∧ Fw h h' ∧ XR (mws L (sft S (hn L), 0) i).1 h') (fun _ h' => Fw h h' ∧ XR (wkm L S).1 h') (hn L) (by unfold FU; omega) ⟨rfl, fw_91 f1, g1⟩ (fun i s h2 hi hI => by
      obtain ⟨rfl, f2, g2⟩ := hI
      have W2 : SW m L (mws L (sft S (hn L), 0) i).1 := mws_sw HL W1 i (by omega)
      have HC2 := RC_fm f2.1 (by omega) HC
      have rb := HC2.2.1
      have HY := HC2.2.2.1
      have HR := HC2.2.2.2.1
      have yk := YS_k HY; have yr9 := YS_r9 HY; have yk9 := YS_k9 HY; have yn9 := YS_n9 HY
      have ch := HR.1.2.1
      have cm := HR.1.1
      have HM := HC2.1
      have k2 := MS_k HM; have r16 := MS_r16 HM; have k16 := MS_k16 HM; have n16 := MS_n16 HM
      have x9 := (HR.2.1 i (by omega) (by omega)).1
      have l9 := (LW_hs HL i (by omega) (by omega)).1
      have em : mws L (sft S (hn L), 0) (i + 1) = mst L (mws L (sft S (hn L), 0) i) i := rfl
      have hgb := mws_g (L := L) (p := (sft S (hn L), 0)) (by show (0 : Int) ≤ 0; omega) i
      have hgb2 : (mws L (sft S (hn L), 0) i).2 ≤ 0 + i := hgb.2
      generalize mws L (sft S (hn L), 0) i = p at g2 W2 em hgb hgb2 ⊢
      rw [em]
      have q6 := W2.2.2.2.2.2.1
      have q7 := W2.2.2.2.2.2.2
      have sb := sd_b q6
      have v30 := g2 30 (by omega) (by omega)
      by_cases c : L 9 i = 0
      · have es := sdK q6 q7
        have es2 := sdJ2 sb.1 sb.2
        obtain ⟨w, hw⟩ : ∃ w, w = sd p.1 := ⟨_, rfl⟩
        rw [← hw] at es es2 sb
        have fa : Fm 91 92 h2 (wA h2 91 30 w) := fm_wA (by omega) (by omega)
        have HC3 := RC_fm fa (by omega) HC2
        have rb3 := HC3.2.1
        have yk3 := YS_k HC3.2.2.1
        have cm3 := HC3.2.2.2.1.1.1
        have HM3 := HC3.1
        have k3 := MS_k HM3; have r36 := MS_r16 HM3; have k36 := MS_k16 HM3; have n36 := MS_n16 HM3
        have X3 : XR (upS p.1 30 w) (wA h2 91 30 w) := by
          intro j j0 j1
          rw [ia_if (by omega) j0 (by omega) (by omega) (by omega), g2 j j0 j1]
          rfl
        have w30 : ia (wA h2 91 30 w) 91 30 = w := ia_same (by omega) (by omega) (by omega) (by omega)
        by_cases c2 : w % 100 < L 0 0
        · have cw : CW 5000 (upS p.1 30 w) := fun i i0 i1 => by
            unfold upS; rw [if_neg (by omega)]
            have := W2.1 i i0 i1
            omega
          obtain ⟨h4, e4, f4, g4⟩ := D_loses HC3 X3 cw (z := i) (by omega) (by omega)
          have em3 : mst L p i = (lse (upS p.1 30 w) i, p.2 + (if bk (upS p.1 30 w) i = -1 then 0 else 1)) := by unfold mst; rw [if_pos c, ← hw, if_pos c2]
          rw [em3]
          have k4 : kd h4 88 = 13 := by rw [fm_kd f4]; exact k3
          by_cases c3 : bk (upS p.1 30 w) i = -1
          · rw [if_pos c3] at e4 ⊢
            refine ⟨J (i + 1), h4, ?_, rfl, fw_tr f2 (fw_tr (fw_91 fa) (fw_91 f4)), g4⟩
            unfold B_md_aWeek_6
            simp (disch := first | with_reducible assumption | omega | trivial) only [bn_s1, gI_J, gR_J, r16, j_30, aI_J, v30, es]
            simp (disch := first | with_reducible assumption | omega | trivial) only [bn_s1, bd_s1, ei_l1, ei_r1, gI_J, gL_J, gR_J, aI_J, aL_J, sI_J, sL_J, pI_J, pL_J, J_add, J_sub, J_mul, J_neg, J_lt, J_le, J_eq, dv_J, if_pos, if_neg, ↓reduceIte, bitJ, shlJ, orJ, j_0, j_1, j_2, j_3, j_4, j_5, j_6, j_7, j_8, j_9, j_10, j_11, j_12, j_13, j_14, j_15, j_16, j_17, j_18, j_19, j_20, j_21, j_22, j_23, j_24, j_25, j_26, j_27, j_28, j_29, j_30, j_31, j_32, j_33, j_34, j_35, j_36, j_37, j_38, j_39, j_40, j_41, j_42, j_43, j_44, j_45, j_46, j_47, j_48, j_49, j_50, j_51, j_52, j_57, j_59, j_63, j_74, j_75, j_93, j_97, j_99, j_100, j_122, j_200, j_255, j_300, j_465, j_496, j_900, j_999, j_1000, j_65536, j_65537, j_99999, j_252645135, j_858993459, j_1431655765, k_0, k_1, k_27, k_32, k_74, k_75, k_100, k_1000, k_65537, rb, ch, yr9, x9, K_int, r36, w30, es2, rb3, cm3, e4]
          · rw [if_neg c3] at e4 ⊢
            refine ⟨J (i + 1), wF h4 88 36 (fi h4 88 36 + 1), ?_, rfl, fw_tr f2 (fw_tr (fw_91 fa) (fw_tr (fw_91 f4) (fw_36 _ _))), g4⟩
            unfold B_md_aWeek_6
            simp (disch := first | with_reducible assumption | omega | trivial) only [bn_s1, gI_J, gR_J, r16, j_30, aI_J, v30, es]
            simp (disch := first | with_reducible assumption | omega | trivial) only [bn_s1, bd_s1, ei_l1, ei_r1, gI_J, gL_J, gR_J, aI_J, aL_J, sI_J, sL_J, pI_J, pL_J, J_add, J_sub, J_mul, J_neg, J_lt, J_le, J_eq, dv_J, if_pos, if_neg, ↓reduceIte, bitJ, shlJ, orJ, j_0, j_1, j_2, j_3, j_4, j_5, j_6, j_7, j_8, j_9, j_10, j_11, j_12, j_13, j_14, j_15, j_16, j_17, j_18, j_19, j_20, j_21, j_22, j_23, j_24, j_25, j_26, j_27, j_28, j_29, j_30, j_31, j_32, j_33, j_34, j_35, j_36, j_37, j_38, j_39, j_40, j_41, j_42, j_43, j_44, j_45, j_46, j_47, j_48, j_49, j_50, j_51, j_52, j_57, j_59, j_63, j_74, j_75, j_93, j_97, j_99, j_100, j_122, j_200, j_255, j_300, j_465, j_496, j_900, j_999, j_1000, j_65536, j_65537, j_99999, j_252645135, j_858993459, j_1431655765, k_0, k_1, k_27, k_32, k_74, k_75, k_100, k_1000, k_65537, rb, ch, yr9, x9, K_int, r36, w30, es2, rb3, cm3, e4]
        · have em3 : mst L p i = (upS p.1 30 w, p.2) := by unfold mst; rw [if_pos c, ← hw, if_neg c2]
          rw [em3]
          refine ⟨J (i + 1), wA h2 91 30 w, ?_, rfl, fw_tr f2 (fw_91 fa), X3⟩
          unfold B_md_aWeek_6
          simp (disch := first | with_reducible assumption | omega | trivial) only [bn_s1, gI_J, gR_J, r16, j_30, aI_J, v30, es]
          simp (disch := first | with_reducible assumption | omega | trivial) only [bn_s1, bd_s1, ei_l1, ei_r1, gI_J, gL_J, gR_J, aI_J, aL_J, sI_J, sL_J, pI_J, pL_J, J_add, J_sub, J_mul, J_neg, J_lt, J_le, J_eq, dv_J, if_pos, if_neg, ↓reduceIte, bitJ, shlJ, orJ, j_0, j_1, j_2, j_3, j_4, j_5, j_6, j_7, j_8, j_9, j_10, j_11, j_12, j_13, j_14, j_15, j_16, j_17, j_18, j_19, j_20, j_21, j_22, j_23, j_24, j_25, j_26, j_27, j_28, j_29, j_30, j_31, j_32, j_33, j_34, j_35, j_36, j_37, j_38, j_39, j_40, j_41, j_42, j_43, j_44, j_45, j_46, j_47, j_48, j_49, j_50, j_51, j_52, j_57, j_59, j_63, j_74, j_75, j_93, j_97, j_99, j_100, j_122, j_200, j_255, j_300, j_465, j_496, j_900, j_999, j_1000, j_65536, j_65537, j_99999, j_252645135, j_858993459, j_1431655765, k_0, k_1, k_27, k_32, k_74, k_75, k_100, k_1000, k_65537, rb, ch, yr9, x9, K_int, r36, w30, es2, rb3, cm3]
      · have c1 : L 9 i = 1 := by omega
        have em3 : mst L p i = p := by unfold mst; rw [if_neg c]
        rw [em3]
        refine ⟨J (i + 1), h2, ?_, rfl, f2, g2⟩
        unfold B_md_aWeek_6
        simp (disch := first | with_reducible assumption | omega | trivial) only [bn_s1, bd_s1, ei_l1, ei_r1, gI_J, gL_J, gR_J, aI_J, aL_J, sI_J, sL_J, pI_J, pL_J, J_add, J_sub, J_mul, J_neg, J_lt, J_le, J_eq, dv_J, rm_J, if_pos, if_neg, ↓reduceIte, bitJ, shlJ, orJ, j_0, j_1, j_2, j_3, j_4, j_5, j_6, j_7, j_8, j_9, j_10, j_11, j_12, j_13, j_14, j_15, j_16, j_17, j_18, j_19, j_20, j_21, j_22, j_23, j_24, j_25, j_26, j_27, j_28, j_29, j_30, j_31, j_32, j_33, j_34, j_35, j_36, j_37, j_38, j_39, j_40, j_41, j_42, j_43, j_44, j_45, j_46, j_47, j_48, j_49, j_50, j_51, j_52, j_57, j_59, j_63, j_74, j_75, j_93, j_97, j_99, j_100, j_122, j_200, j_255, j_300, j_465, j_496, j_900, j_999, j_1000, j_65536, j_65537, j_99999, j_252645135, j_858993459, j_1431655765, k_0, k_1, k_27, k_32, k_74, k_75, k_100, k_1000, k_65537, rb, ch, yr9, x9]) (fun s h2 hI => by
      obtain ⟨rfl, f2, g2⟩ := hI
      have HC2 := RC_fm f2.1 (by omega) HC
      have rb := HC2.2.1
      have yk := YS_k HC2.2.2.1
      have ch := HC2.2.2.2.1.1.2.1
      have k2 := MS_k HC2.1
      refine ⟨(), h2, ?_, f2, g2⟩
      unfold B_md_aWeek_6
      simp (disch := first | with_reducible assumption | omega | trivial) only [bn_s1, bd_s1, ei_l1, ei_r1, gI_J, gL_J, gR_J, aI_J, aL_J, sI_J, sL_J, pI_J, pL_J, J_add, J_sub, J_mul, J_neg, J_lt, J_le, J_eq, dv_J, rm_J, if_pos, if_neg, ↓reduceIte, bitJ, shlJ, orJ, j_0, j_1, j_2, j_3, j_4, j_5, j_6, j_7, j_8, j_9, j_10, j_11, j_12, j_13, j_14, j_15, j_16, j_17, j_18, j_19, j_20, j_21, j_22, j_23, j_24, j_25, j_26, j_27, j_28, j_29, j_30, j_31, j_32, j_33, j_34, j_35, j_36, j_37, j_38, j_39, j_40, j_41, j_42, j_43, j_44, j_45, j_46, j_47, j_48, j_49, j_50, j_51, j_52, j_57, j_59, j_63, j_74, j_75, j_93, j_97, j_99, j_100, j_122, j_200, j_255, j_300, j_465, j_496, j_900, j_999, j_1000, j_65536, j_65537, j_99999, j_252645135, j_858993459, j_1431655765, k_0, k_1, k_27, k_32, k_74, k_75, k_100, k_1000, k_65537, rb, ch])
  refine ⟨h2, ?_, f2, g2⟩
  unfold F_md_aWeek
  rw [ck_e k]
  simp (disch := first | with_reducible assumption | omega | trivial) only [bn_s1, bd_s1, ei_l1, ei_r1, gI_J, gL_J, gR_J, aI_J, aL_J, sI_J, sL_J, pI_J, pL_J, J_add, J_sub, J_mul, J_neg, J_lt, J_le, J_eq, dv_J, rm_J, if_pos, if_neg, ↓reduceIte, bitJ, shlJ, orJ, j_0, j_1, j_2, j_3, j_4, j_5, j_6, j_7, j_8, j_9, j_10, j_11, j_12, j_13, j_14, j_15, j_16, j_17, j_18, j_19, j_20, j_21, j_22, j_23, j_24, j_25, j_26, j_27, j_28, j_29, j_30, j_31, j_32, j_33, j_34, j_35, j_36, j_37, j_38, j_39, j_40, j_41, j_42, j_43, j_44, j_45, j_46, j_47, j_48, j_49, j_50, j_51, j_52, j_57, j_59, j_63, j_74, j_75, j_93, j_97, j_99, j_100, j_122, j_200, j_255, j_300, j_465, j_496, j_900, j_999, j_1000, j_65536, j_65537, j_99999, j_252645135, j_858993459, j_1431655765, k_0, k_1, k_27, k_32, k_74, k_75, k_100, k_1000, k_65537, e1, e2]
theorem d_wek {a : Ab} {h : Hp} (HA : AW a) (H : RI a h) : Da (F_md_week 88 h) h (v_wek a) (a_wek a) := by
  have kx := MS_k H.1
  have H1 := RI_0 H
  have M1 := H1.1
  have f0 : Fm 88 102 h (wF h 88 0 0) := fm_wF (by omega) (by omega)
  have gr := fun (y : Int) => D_refused (y := y) (MS_k M1)
  unfold F_md_week v_wek a_wek
  rw [ck_e kx]
  by_cases c : qL a 1 0 = 0
  · rw [if_pos c, if_pos c]
    have eq : gQ (wF h 88 0 0) 88 13 3 = some none := by rw [gQ_J (MS_k M1), lk_0 H1 (by omega)]
    refine da_r f0 H1 (by omega) (by omega) ?_
    try simp only [j_0, j_1, j_2, j_3, j_4, j_5, j_6, j_7, j_8, j_9, j_10, j_11, j_12, j_13, j_14, j_15, j_16, j_17, j_18, j_19, j_20, j_21, j_22, j_23, j_24, j_25, j_26, j_27, j_28, j_29, j_30, j_31, j_32, j_33, j_34, j_35, j_36, j_37, j_38, j_39, j_40, j_41, j_42, j_43, j_44, j_45, j_46, j_47, j_48, j_49, j_50, j_51, j_52, j_57, j_59, j_63, j_74, j_75, j_93, j_97, j_99, j_100, j_122, j_200, j_255, j_300, j_465, j_496, j_900, j_999, j_1000, j_65536, j_65537, j_99999, j_252645135, j_858993459, j_1431655765, k_0, k_1, k_27, k_32, k_74, k_75, k_100, k_1000, k_65537]
    simp (disch := first | with_reducible assumption | omega | trivial) only [↓bn_s1, ↓bd_s1, ↓ei_l1, ↓ei_r1, ↓bn_if, ↓ilt_1, ↓ilt_0, ↓ieq_1, ↓ieq_0, bn_s1, bd_s1, ei_l1, ei_r1, J_add, J_sub, J_mul, J_neg, J_lt, J_le, J_eq, dv_J, rm_J, if_pos, if_neg, ↓reduceIte, bitJ, shlJ, orJ, j_0, j_1, j_2, j_3, j_4, j_5, j_6, j_7, j_8, j_9, j_10, j_11, j_12, j_13, j_14, j_15, j_16, j_17, j_18, j_19, j_20, j_21, j_22, j_23, j_24, j_25, j_26, j_27, j_28, j_29, j_30, j_31, j_32, j_33, j_34, j_35, j_36, j_37, j_38, j_39, j_40, j_41, j_42, j_43, j_44, j_45, j_46, j_47, j_48, j_49, j_50, j_51, j_52, j_57, j_59, j_63, j_74, j_75, j_93, j_97, j_99, j_100, j_122, j_200, j_255, j_300, j_465, j_496, j_900, j_999, j_1000, j_65536, j_65537, j_99999, j_252645135, j_858993459, j_1431655765, k_0, k_1, k_27, k_32, k_74, k_75, k_100, k_1000, k_65537, ↓bn_e (pI_J kx), pI_J kx, ↓bn_e (eq), eq, ↓bd_e (gr 1), gr 1]
  · rw [if_neg c, if_neg c]
    obtain ⟨b, C1⟩ := lk_1 H1 c
    have ne : ¬ (some b = none) := by intro x; cases x
    have v1 := H1.2.2.1 29 (by omega) (by omega)
    have wk := HA.2.1.2.1
    by_cases d : qS a 29 < 999
    · rw [if_pos d, if_pos d]
      obtain ⟨h2, e2, f2, H2⟩ := D_remembers H1
      have C2 := RC_fm f2 (by omega) C1
      obtain ⟨h3, e3, f3, x3⟩ := D_works H2.1 (S := qS a) H2.2.2.1
      have q3 := qr_91 f3
      have C3 := RC_qr q3 C2
      obtain ⟨h4, e4, w4, x4⟩ := D_aWeekA HA.1 C3 x3 HA.2.1.1 (by omega)
      have q4 := qr_tr q3 (qr_fw w4)
      have C4 := RC_qr q4 C2
      obtain ⟨y, h5, e5, f5, x5⟩ := lp_for (b := B_md_week_51 88) (f := FU) (s := J 0) (h := h4) (fun k s h' => s = J k ∧ Fm 90 91 h4 h' ∧ ∀ z : Int, 0 ≤ z → z < k → ia h' 90 z = (wkm (qL a) (qS a)).1 z) (fun _ h' => Fm 90 91 h4 h' ∧ ∀ z : Int, 0 ≤ z → z < 31 → ia h' 90 z = (wkm (qL a) (qS a)).1 z) 31 (by unfold FU; omega) ⟨rfl, fm_rf _ _ _, fun z z0 z1 => by omega⟩ (fun k s h5 hk hI => by
          obtain ⟨rfl, f5, x5⟩ := hI
          have C5 := RC_fm f5 (by omega) C4
          have X5 : XR (wkm (qL a) (qS a)).1 h5 := fun i i0 i1 => by rw [fm_ia f5 (by omega)]; exact x4 i i0 i1
          have n := MS_n15 C5.1
          have rg : -2147483648 ≤ (wkm (qL a) (qS a)).1 k ∧ (wkm (qL a) (qS a)).1 k < 2147483648 := by rw [← X5 k (by omega) (by omega)]; exact ia_rg h5 91 k
          refine ⟨J (k + 1 : Nat), wA h5 90 k ((wkm (qL a) (qS a)).1 k), ?_, rfl, fm_tr f5 (fm_wA (by omega) (by omega)), fun z z0 z1 => ?_⟩
          · have vk := X5 k (by omega) (by omega)
            unfold B_md_week_51
            try simp only [j_0, j_1, j_2, j_3, j_4, j_5, j_6, j_7, j_8, j_9, j_10, j_11, j_12, j_13, j_14, j_15, j_16, j_17, j_18, j_19, j_20, j_21, j_22, j_23, j_24, j_25, j_26, j_27, j_28, j_29, j_30, j_31, j_32, j_33, j_34, j_35, j_36, j_37, j_38, j_39, j_40, j_41, j_42, j_43, j_44, j_45, j_46, j_47, j_48, j_49, j_50, j_51, j_52, j_57, j_59, j_63, j_74, j_75, j_93, j_97, j_99, j_100, j_122, j_200, j_255, j_300, j_465, j_496, j_900, j_999, j_1000, j_65536, j_65537, j_99999, j_252645135, j_858993459, j_1431655765, k_0, k_1, k_27, k_32, k_74, k_75, k_100, k_1000, k_65537]
            simp (disch := first | with_reducible assumption | omega | trivial) only [↓bn_s1, ↓bd_s1, ↓ei_l1, ↓ei_r1, ↓bn_if, ↓ilt_1, ↓ilt_0, ↓ieq_1, ↓ieq_0, bn_s1, bd_s1, ei_l1, ei_r1, J_add, J_sub, J_mul, J_neg, J_lt, J_le, J_eq, dv_J, rm_J, if_pos, if_neg, ↓reduceIte, bitJ, shlJ, orJ, j_0, j_1, j_2, j_3, j_4, j_5, j_6, j_7, j_8, j_9, j_10, j_11, j_12, j_13, j_14, j_15, j_16, j_17, j_18, j_19, j_20, j_21, j_22, j_23, j_24, j_25, j_26, j_27, j_28, j_29, j_30, j_31, j_32, j_33, j_34, j_35, j_36, j_37, j_38, j_39, j_40, j_41, j_42, j_43, j_44, j_45, j_46, j_47, j_48, j_49, j_50, j_51, j_52, j_57, j_59, j_63, j_74, j_75, j_93, j_97, j_99, j_100, j_122, j_200, j_255, j_300, j_465, j_496, j_900, j_999, j_1000, j_65536, j_65537, j_99999, j_252645135, j_858993459, j_1431655765, k_0, k_1, k_27, k_32, k_74, k_75, k_100, k_1000, k_65537, m_i C5.1, ↓m_i_b C5.1, m_p C5.1, ↓m_p_b C5.1, m_l C5.1, ↓m_l_b C5.1, m_pl C5.1, ↓m_pl_b C5.1, mr_15 C5.1, ↓mr_15_b C5.1, mr_16 C5.1, ↓mr_16_b C5.1, mr_17 C5.1, ↓mr_17_b C5.1, mr_18 C5.1, ↓mr_18_b C5.1, mr_21 C5.1, ↓mr_21_b C5.1, mr_22 C5.1, ↓mr_22_b C5.1, mr_23 C5.1, ↓mr_23_b C5.1, mr_24 C5.1, ↓mr_24_b C5.1, mr_25 C5.1, ↓mr_25_b C5.1, mr_30 C5.1, ↓mr_30_b C5.1, mr_31 C5.1, ↓mr_31_b C5.1, m90a C5.1, ↓m90a_b C5.1, m90s C5.1, ↓m90s_b C5.1, m91a C5.1, ↓m91a_b C5.1, m91s C5.1, ↓m91s_b C5.1, m92a C5.1, ↓m92a_b C5.1, m92s C5.1, ↓m92s_b C5.1, m93a C5.1, ↓m93a_b C5.1, m93s C5.1, ↓m93s_b C5.1, m94a C5.1, ↓m94a_b C5.1, m94s C5.1, ↓m94s_b C5.1, m95a C5.1, ↓m95a_b C5.1, m95s C5.1, ↓m95s_b C5.1, m96a C5.1, ↓m96a_b C5.1, m96s C5.1, ↓m96s_b C5.1, m97a C5.1, ↓m97a_b C5.1, m97s C5.1, ↓m97s_b C5.1, m98a C5.1, ↓m98a_b C5.1, m98s C5.1, ↓m98s_b C5.1, m99a C5.1, ↓m99a_b C5.1, m99s C5.1, ↓m99s_b C5.1, m100a C5.1, ↓m100a_b C5.1, m100s C5.1, ↓m100s_b C5.1, vk]
            rfl
          · rw [ia_if (by omega) z0 (by omega) rg.1 rg.2]
            by_cases e : z = k
            · rw [if_pos e, e]
            · rw [if_neg e]; exact x5 z z0 (by omega)) (fun s h5 hI => by
          obtain ⟨rfl, f5, x5⟩ := hI
          refine ⟨(), h5, ?_, f5, x5⟩
          unfold B_md_week_51
          try simp only [j_0, j_1, j_2, j_3, j_4, j_5, j_6, j_7, j_8, j_9, j_10, j_11, j_12, j_13, j_14, j_15, j_16, j_17, j_18, j_19, j_20, j_21, j_22, j_23, j_24, j_25, j_26, j_27, j_28, j_29, j_30, j_31, j_32, j_33, j_34, j_35, j_36, j_37, j_38, j_39, j_40, j_41, j_42, j_43, j_44, j_45, j_46, j_47, j_48, j_49, j_50, j_51, j_52, j_57, j_59, j_63, j_74, j_75, j_93, j_97, j_99, j_100, j_122, j_200, j_255, j_300, j_465, j_496, j_900, j_999, j_1000, j_65536, j_65537, j_99999, j_252645135, j_858993459, j_1431655765, k_0, k_1, k_27, k_32, k_74, k_75, k_100, k_1000, k_65537]
          simp (disch := first | with_reducible assumption | omega | trivial) only [↓bn_s1, ↓bd_s1, ↓ei_l1, ↓ei_r1, ↓bn_if, ↓ilt_1, ↓ilt_0, ↓ieq_1, ↓ieq_0, bn_s1, bd_s1, ei_l1, ei_r1, J_add, J_sub, J_mul, J_neg, J_lt, J_le, J_eq, dv_J, rm_J, if_pos, if_neg, ↓reduceIte, bitJ, shlJ, orJ, j_0, j_1, j_2, j_3, j_4, j_5, j_6, j_7, j_8, j_9, j_10, j_11, j_12, j_13, j_14, j_15, j_16, j_17, j_18, j_19, j_20, j_21, j_22, j_23, j_24, j_25, j_26, j_27, j_28, j_29, j_30, j_31, j_32, j_33, j_34, j_35, j_36, j_37, j_38, j_39, j_40, j_41, j_42, j_43, j_44, j_45, j_46, j_47, j_48, j_49, j_50, j_51, j_52, j_57, j_59, j_63, j_74, j_75, j_93, j_97, j_99, j_100, j_122, j_200, j_255, j_300, j_465, j_496, j_900, j_999, j_1000, j_65536, j_65537, j_99999, j_252645135, j_858993459, j_1431655765, k_0, k_1, k_27, k_32, k_74, k_75, k_100, k_1000, k_65537])
      have C5 := RC_fm f5 (by omega) C4
      have f24 : Fm 88 102 h2 h5 := fm_tr q4.1 (fm_wd f5 (by omega) (by omega))
      have i90 : ∀ y, y = 89 ∨ y = 92 ∨ y = 93 → ∀ z, ia h5 y z = ia h2 y z := fun y hy z => by
        rw [fm_ia f5 (by omega)]; unfold ia; rw [q4.2.1 y (by omega)]
      have fq : ∀ k, k ≠ 36 → fi h5 88 k = fi h2 88 k := fun k hk => by
        rw [fm_fi f5 (by omega), w4.2.1 k hk]
        exact fm_fi f3 (by omega) k
      have H5 : RI (sS (kpd a) (wkm (qL a) (qS a)).1) h5 := RI_n f24 H2 (fq 1 (by omega)) (fq 2 (by omega)) (fq 6 (by omega)) (fq 12 (by omega)) (i90 89 (by omega)) x5 ((fq 19 (by omega)).trans H2.2.2.2.1.1) (fun j hj i i0 i1 => by rw [i90 92 (by omega)]; exact H2.2.2.2.1.2 j hj i i0 i1) ((fq 20 (by omega)).trans H2.2.2.2.2.1.1) (fun j hj i i0 i1 => by rw [i90 93 (by omega)]; exact H2.2.2.2.2.1.2 j hj i i0 i1) H2.2.2.2.2.2.2.2.2.2.1 H2.2.2.2.2.2.2.2.2.2.2
      have v5 : ia h5 90 29 = qS a 29 := by rw [x5 29 (by omega) (by omega), wkm_hi HA.1 _ (by omega) (by omega)]
      have H6 : RI (sS (kpd a) (wkS a)) (wA h5 90 29 (qS a 29 + 1)) := RI_w90 (z := 29) (v := qS a 29 + 1) H5 (by omega) (by omega) (by omega)
      have M6 := H6.1
      have C6 : RC (qL a) b (wA h5 90 29 (qS a 29 + 1)) := RC_fm (lo := 90) (hi := 91) (fm_wA (by omega) (by omega)) (by omega) C5
      have x6 : XR (wkm (qL a) (qS a)).1 (wA h5 90 29 (qS a 29 + 1)) := fun i i0 i1 => by rw [ia_wA (by omega), fm_ia f5 (by omega)]; exact x4 i i0 i1
      have eu := D_underNow HA.1 C6 x6 (sw_stk (by omega) (wkm_sw HA.1 (by omega) HA.2.1.1))
      have gg := D_good (y := (und (hgt (qL a) (wkm (qL a) (qS a)).1) (hn (qL a)) : Nat)) (MS_k M6)
      refine da_g (fm_tr f0 (fm_tr f2 (fm_tr f24 (fm_wA (by omega) (by omega))))) H6 ?_
      try simp only [j_0, j_1, j_2, j_3, j_4, j_5, j_6, j_7, j_8, j_9, j_10, j_11, j_12, j_13, j_14, j_15, j_16, j_17, j_18, j_19, j_20, j_21, j_22, j_23, j_24, j_25, j_26, j_27, j_28, j_29, j_30, j_31, j_32, j_33, j_34, j_35, j_36, j_37, j_38, j_39, j_40, j_41, j_42, j_43, j_44, j_45, j_46, j_47, j_48, j_49, j_50, j_51, j_52, j_57, j_59, j_63, j_74, j_75, j_93, j_97, j_99, j_100, j_122, j_200, j_255, j_300, j_465, j_496, j_900, j_999, j_1000, j_65536, j_65537, j_99999, j_252645135, j_858993459, j_1431655765, k_0, k_1, k_27, k_32, k_74, k_75, k_100, k_1000, k_65537]
      simp (disch := first | with_reducible assumption | omega | trivial) only [↓bn_s1, ↓bd_s1, ↓ei_l1, ↓ei_r1, ↓bn_if, ↓ilt_1, ↓ilt_0, ↓ieq_1, ↓ieq_0, bn_s1, bd_s1, ei_l1, ei_r1, J_add, J_sub, J_mul, J_neg, J_lt, J_le, J_eq, dv_J, rm_J, if_pos, if_neg, ↓reduceIte, bitJ, shlJ, orJ, j_0, j_1, j_2, j_3, j_4, j_5, j_6, j_7, j_8, j_9, j_10, j_11, j_12, j_13, j_14, j_15, j_16, j_17, j_18, j_19, j_20, j_21, j_22, j_23, j_24, j_25, j_26, j_27, j_28, j_29, j_30, j_31, j_32, j_33, j_34, j_35, j_36, j_37, j_38, j_39, j_40, j_41, j_42, j_43, j_44, j_45, j_46, j_47, j_48, j_49, j_50, j_51, j_52, j_57, j_59, j_63, j_74, j_75, j_93, j_97, j_99, j_100, j_122, j_200, j_255, j_300, j_465, j_496, j_900, j_999, j_1000, j_65536, j_65537, j_99999, j_252645135, j_858993459, j_1431655765, k_0, k_1, k_27, k_32, k_74, k_75, k_100, k_1000, k_65537, ↓bn_e (pI_J kx), pI_J kx, cl_r C1, ↓cl_r_b C1, cl_q C1, ↓cl_q_b C1, ci_0 C1, ↓ci_0_b C1, ci_1 C1, ↓ci_1_b C1, ci_2 C1, ↓ci_2_b C1, ci_3 C1, ↓ci_3_b C1, ci_4 C1, ↓ci_4_b C1, ci_5 C1, ↓ci_5_b C1, ci_6 C1, ↓ci_6_b C1, ci_7 C1, ↓ci_7_b C1, cr_9 C1, ↓cr_9_b C1, cr_10 C1, ↓cr_10_b C1, cr_11 C1, ↓cr_11_b C1, cr_13 C1, ↓cr_13_b C1, cr_14 C1, ↓cr_14_b C1, cr_15 C1, ↓cr_15_b C1, cr_16 C1, ↓cr_16_b C1, cr_17 C1, ↓cr_17_b C1, cr_18 C1, ↓cr_18_b C1, cr_19 C1, ↓cr_19_b C1, cr_20 C1, ↓cr_20_b C1, cr_21 C1, ↓cr_21_b C1, cr_22 C1, ↓cr_22_b C1, cr_23 C1, ↓cr_23_b C1, cr_24 C1, ↓cr_24_b C1, cr_25 C1, ↓cr_25_b C1, cr_26 C1, ↓cr_26_b C1, ca_9 HA.1 C1, ↓ca_9_b HA.1 C1, ca_10 HA.1 C1, ↓ca_10_b HA.1 C1, ca_11 HA.1 C1, ↓ca_11_b HA.1 C1, ca_13 HA.1 C1, ↓ca_13_b HA.1 C1, ca_14 HA.1 C1, ↓ca_14_b HA.1 C1, ca_15 HA.1 C1, ↓ca_15_b HA.1 C1, ca_16 HA.1 C1, ↓ca_16_b HA.1 C1, ca_17 HA.1 C1, ↓ca_17_b HA.1 C1, ca_18 HA.1 C1, ↓ca_18_b HA.1 C1, ca_19 HA.1 C1, ↓ca_19_b HA.1 C1, ca_20 HA.1 C1, ↓ca_20_b HA.1 C1, ca_21 HA.1 C1, ↓ca_21_b HA.1 C1, ca_22 HA.1 C1, ↓ca_22_b HA.1 C1, ca_23 HA.1 C1, ↓ca_23_b HA.1 C1, ca_24 HA.1 C1, ↓ca_24_b HA.1 C1, ca_25 HA.1 C1, ↓ca_25_b HA.1 C1, ca_26 HA.1 C1, ↓ca_26_b HA.1 C1, m_i C1.1, ↓m_i_b C1.1, m_p C1.1, ↓m_p_b C1.1, m_l C1.1, ↓m_l_b C1.1, m_pl C1.1, ↓m_pl_b C1.1, mr_15 C1.1, ↓mr_15_b C1.1, mr_16 C1.1, ↓mr_16_b C1.1, mr_17 C1.1, ↓mr_17_b C1.1, mr_18 C1.1, ↓mr_18_b C1.1, mr_21 C1.1, ↓mr_21_b C1.1, mr_22 C1.1, ↓mr_22_b C1.1, mr_23 C1.1, ↓mr_23_b C1.1, mr_24 C1.1, ↓mr_24_b C1.1, mr_25 C1.1, ↓mr_25_b C1.1, mr_30 C1.1, ↓mr_30_b C1.1, mr_31 C1.1, ↓mr_31_b C1.1, m90a M1, ↓m90a_b M1, m90s M1, ↓m90s_b M1, m91a M1, ↓m91a_b M1, m91s M1, ↓m91s_b M1, m92a M1, ↓m92a_b M1, m92s M1, ↓m92s_b M1, m93a M1, ↓m93a_b M1, m93s M1, ↓m93s_b M1, m94a M1, ↓m94a_b M1, m94s M1, ↓m94s_b M1, m95a M1, ↓m95a_b M1, m95s M1, ↓m95s_b M1, m96a M1, ↓m96a_b M1, m96s M1, ↓m96s_b M1, m97a M1, ↓m97a_b M1, m97s M1, ↓m97s_b M1, m98a M1, ↓m98a_b M1, m98s M1, ↓m98s_b M1, m99a M1, ↓m99a_b M1, m99s M1, ↓m99s_b M1, m100a M1, ↓m100a_b M1, m100s M1, ↓m100s_b M1, ne, v1, ↓bn_e (e2), e2, ↓bn_e (e3), e3, ↓bn_e (e4), e4, ↓bd_e (e5), e5, m_i C5.1, ↓m_i_b C5.1, m_p C5.1, ↓m_p_b C5.1, m_l C5.1, ↓m_l_b C5.1, m_pl C5.1, ↓m_pl_b C5.1, mr_15 C5.1, ↓mr_15_b C5.1, mr_16 C5.1, ↓mr_16_b C5.1, mr_17 C5.1, ↓mr_17_b C5.1, mr_18 C5.1, ↓mr_18_b C5.1, mr_21 C5.1, ↓mr_21_b C5.1, mr_22 C5.1, ↓mr_22_b C5.1, mr_23 C5.1, ↓mr_23_b C5.1, mr_24 C5.1, ↓mr_24_b C5.1, mr_25 C5.1, ↓mr_25_b C5.1, mr_30 C5.1, ↓mr_30_b C5.1, mr_31 C5.1, ↓mr_31_b C5.1, m90a C5.1, ↓m90a_b C5.1, m90s C5.1, ↓m90s_b C5.1, m91a C5.1, ↓m91a_b C5.1, m91s C5.1, ↓m91s_b C5.1, m92a C5.1, ↓m92a_b C5.1, m92s C5.1, ↓m92s_b C5.1, m93a C5.1, ↓m93a_b C5.1, m93s C5.1, ↓m93s_b C5.1, m94a C5.1, ↓m94a_b C5.1, m94s C5.1, ↓m94s_b C5.1, m95a C5.1, ↓m95a_b C5.1, m95s C5.1, ↓m95s_b C5.1, m96a C5.1, ↓m96a_b C5.1, m96s C5.1, ↓m96s_b C5.1, m97a C5.1, ↓m97a_b C5.1, m97s C5.1, ↓m97s_b C5.1, m98a C5.1, ↓m98a_b C5.1, m98s C5.1, ↓m98s_b C5.1, m99a C5.1, ↓m99a_b C5.1, m99s C5.1, ↓m99s_b C5.1, m100a C5.1, ↓m100a_b C5.1, m100s C5.1, ↓m100s_b C5.1, v5, ↓bn_e (eu), eu, ↓bd_e (gg), gg]
    · rw [if_neg d, if_neg d]
      have e9 : qS a 29 = 999 := by omega
      refine da_r f0 H1 (by omega) (by omega) ?_
      try simp only [j_0, j_1, j_2, j_3, j_4, j_5, j_6, j_7, j_8, j_9, j_10, j_11, j_12, j_13, j_14, j_15, j_16, j_17, j_18, j_19, j_20, j_21, j_22, j_23, j_24, j_25, j_26, j_27, j_28, j_29, j_30, j_31, j_32, j_33, j_34, j_35, j_36, j_37, j_38, j_39, j_40, j_41, j_42, j_43, j_44, j_45, j_46, j_47, j_48, j_49, j_50, j_51, j_52, j_57, j_59, j_63, j_74, j_75, j_93, j_97, j_99, j_100, j_122, j_200, j_255, j_300, j_465, j_496, j_900, j_999, j_1000, j_65536, j_65537, j_99999, j_252645135, j_858993459, j_1431655765, k_0, k_1, k_27, k_32, k_74, k_75, k_100, k_1000, k_65537]
      simp (disch := first | with_reducible assumption | omega | trivial) only [↓bn_s1, ↓bd_s1, ↓ei_l1, ↓ei_r1, ↓bn_if, ↓ilt_1, ↓ilt_0, ↓ieq_1, ↓ieq_0, bn_s1, bd_s1, ei_l1, ei_r1, J_add, J_sub, J_mul, J_neg, J_lt, J_le, J_eq, dv_J, rm_J, if_pos, if_neg, ↓reduceIte, bitJ, shlJ, orJ, j_0, j_1, j_2, j_3, j_4, j_5, j_6, j_7, j_8, j_9, j_10, j_11, j_12, j_13, j_14, j_15, j_16, j_17, j_18, j_19, j_20, j_21, j_22, j_23, j_24, j_25, j_26, j_27, j_28, j_29, j_30, j_31, j_32, j_33, j_34, j_35, j_36, j_37, j_38, j_39, j_40, j_41, j_42, j_43, j_44, j_45, j_46, j_47, j_48, j_49, j_50, j_51, j_52, j_57, j_59, j_63, j_74, j_75, j_93, j_97, j_99, j_100, j_122, j_200, j_255, j_300, j_465, j_496, j_900, j_999, j_1000, j_65536, j_65537, j_99999, j_252645135, j_858993459, j_1431655765, k_0, k_1, k_27, k_32, k_74, k_75, k_100, k_1000, k_65537, ↓bn_e (pI_J kx), pI_J kx, cl_r C1, ↓cl_r_b C1, cl_q C1, ↓cl_q_b C1, ci_0 C1, ↓ci_0_b C1, ci_1 C1, ↓ci_1_b C1, ci_2 C1, ↓ci_2_b C1, ci_3 C1, ↓ci_3_b C1, ci_4 C1, ↓ci_4_b C1, ci_5 C1, ↓ci_5_b C1, ci_6 C1, ↓ci_6_b C1, ci_7 C1, ↓ci_7_b C1, cr_9 C1, ↓cr_9_b C1, cr_10 C1, ↓cr_10_b C1, cr_11 C1, ↓cr_11_b C1, cr_13 C1, ↓cr_13_b C1, cr_14 C1, ↓cr_14_b C1, cr_15 C1, ↓cr_15_b C1, cr_16 C1, ↓cr_16_b C1, cr_17 C1, ↓cr_17_b C1, cr_18 C1, ↓cr_18_b C1, cr_19 C1, ↓cr_19_b C1, cr_20 C1, ↓cr_20_b C1, cr_21 C1, ↓cr_21_b C1, cr_22 C1, ↓cr_22_b C1, cr_23 C1, ↓cr_23_b C1, cr_24 C1, ↓cr_24_b C1, cr_25 C1, ↓cr_25_b C1, cr_26 C1, ↓cr_26_b C1, ca_9 HA.1 C1, ↓ca_9_b HA.1 C1, ca_10 HA.1 C1, ↓ca_10_b HA.1 C1, ca_11 HA.1 C1, ↓ca_11_b HA.1 C1, ca_13 HA.1 C1, ↓ca_13_b HA.1 C1, ca_14 HA.1 C1, ↓ca_14_b HA.1 C1, ca_15 HA.1 C1, ↓ca_15_b HA.1 C1, ca_16 HA.1 C1, ↓ca_16_b HA.1 C1, ca_17 HA.1 C1, ↓ca_17_b HA.1 C1, ca_18 HA.1 C1, ↓ca_18_b HA.1 C1, ca_19 HA.1 C1, ↓ca_19_b HA.1 C1, ca_20 HA.1 C1, ↓ca_20_b HA.1 C1, ca_21 HA.1 C1, ↓ca_21_b HA.1 C1, ca_22 HA.1 C1, ↓ca_22_b HA.1 C1, ca_23 HA.1 C1, ↓ca_23_b HA.1 C1, ca_24 HA.1 C1, ↓ca_24_b HA.1 C1, ca_25 HA.1 C1, ↓ca_25_b HA.1 C1, ca_26 HA.1 C1, ↓ca_26_b HA.1 C1, m_i C1.1, ↓m_i_b C1.1, m_p C1.1, ↓m_p_b C1.1, m_l C1.1, ↓m_l_b C1.1, m_pl C1.1, ↓m_pl_b C1.1, mr_15 C1.1, ↓mr_15_b C1.1, mr_16 C1.1, ↓mr_16_b C1.1, mr_17 C1.1, ↓mr_17_b C1.1, mr_18 C1.1, ↓mr_18_b C1.1, mr_21 C1.1, ↓mr_21_b C1.1, mr_22 C1.1, ↓mr_22_b C1.1, mr_23 C1.1, ↓mr_23_b C1.1, mr_24 C1.1, ↓mr_24_b C1.1, mr_25 C1.1, ↓mr_25_b C1.1, mr_30 C1.1, ↓mr_30_b C1.1, mr_31 C1.1, ↓mr_31_b C1.1, m90a M1, ↓m90a_b M1, m90s M1, ↓m90s_b M1, m91a M1, ↓m91a_b M1, m91s M1, ↓m91s_b M1, m92a M1, ↓m92a_b M1, m92s M1, ↓m92s_b M1, m93a M1, ↓m93a_b M1, m93s M1, ↓m93s_b M1, m94a M1, ↓m94a_b M1, m94s M1, ↓m94s_b M1, m95a M1, ↓m95a_b M1, m95s M1, ↓m95s_b M1, m96a M1, ↓m96a_b M1, m96s M1, ↓m96s_b M1, m97a M1, ↓m97a_b M1, m97s M1, ↓m97s_b M1, m98a M1, ↓m98a_b M1, m98s M1, ↓m98s_b M1, m99a M1, ↓m99a_b M1, m99s M1, ↓m99s_b M1, m100a M1, ↓m100a_b M1, m100s M1, ↓m100s_b M1, ne, v1, e9, ↓bd_e (gr 3), gr 3]
