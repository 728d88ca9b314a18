/-! value, kingCuts: the class -/
def w_val (a : Ab) (n : Int) : Int := gm (qL a) n.toNat true (net (qL a) (qS a)) (qS a 28).toNat
def kcf (a : Ab) (n : Int) : Int → Int := fun j => gm (qL a) (n.toNat - 1) false (net (qL a) (qS a)) (cjc (qS a 28).toNat j.toNat)
def kcj (a : Ab) (n : Int) : Nat := lw (kcf a n) (rn (qL a) + 1)
def w_kcu (a : Ab) (n : Int) : Int := if kcj a n = 0 then -2 else (kcj a n : Int) - 1
theorem C_weigh80 {a : Ab} {t : Nat} {h : Hp} (HA : AW a) (H : CI a t h) : ∃ h', F_ra_weigh 80 t 44 h = some h' ∧ Fm 80 84 h h' ∧ GO (qL a) t (net (qL a) (qS a)) h' := by
  have V := H.1
  have o := XV_o V
  have w := HA.2.1.1
  obtain ⟨h1, e1, f1, z1, O1, _⟩ := C_weigh HA.1 (XV_c V) (XV_r80 V) (XV_ts V) H.2.1 (XV_s44 V) H.2.2.1 w.2.2.1 w.1 (by omega) (by omega) (by omega) (by omega)
  exact ⟨h1, e1, f1, XV_fm f1 (by omega) V, TR_fm f1 (by omega) H.2.1, z1, O1⟩
theorem ob_net {a : Ab} (HA : AW a) {m : Nat} (hm : m ≤ 5) : ob (qL a) m (net (qL a) (qS a)) := fun i i0 i1 => by
  have := net_b HA.1 HA.2.1.1.1 i0 i1
  omega
theorem v28 {a : Ab} {h : Hp} (HA : AW a) (S : SR (qL a) 44 (qS a) h) : fi h 44 2 = 2 ^ rn (qL a) - 1 - ((qS a 28).toNat : Int) := by
  rw [S.2.2.1]
  have := HA.2.1.1.2.2.2.1
  omega
theorem c_val {a : Ab} {t : Nat} {h : Hp} {n : Int} (HA : AW a) (H : CI a t h) (hn' : rng n) : Cq (F_cs_value 0 (J n) h) h (if ¬ qL a 1 0 = 0 ∧ (0 ≤ n ∧ n ≤ 4) then w_val a n else -1) (t_2 (¬ qL a 1 0 = 0) (0 ≤ n ∧ n ≤ 4)) := by
  unfold F_cs_value
  refine cq_2 (V := fun b => w_val b n) rfl jm1 HA H (pr_L HA H) (pr_o j_0 j_4 hn' (by omega)) (fun c d b h1 eb A1 H1 => ?_)
  rw [← eb] at c
  have V1 := H1.1
  have o := XV_o V1
  have b1 := LW_h A1.1
  obtain ⟨N, rfl⟩ := Int.eq_ofNat_of_zero_le d.1
  obtain ⟨h2, e2, f2, G2⟩ := C_weigh80 A1 H1
  have V2 := G2.1
  have v2 := v28 A1 (SR_fm f2 (by omega) H1.2.2.1)
  obtain ⟨h3, e3, f3, G3⟩ := C_kings A1.1 (by omega) 5 N (net (qL b) (qS b)) (qS b 28).toNat h2 (by omega) (by omega) G2 (ob_net A1 (by omega)) A1.2.1.1.2.2.2.2.1
  have ev : F_gm_valueOf 79 t 44 (J N) h1 = some (J (w_val b N), h3) := by
    unfold F_gm_valueOf w_val
    rw [ck_e (GS_k (XV_g V1)), Int.toNat_natCast]
    simp (disch := first | with_reducible assumption | omega | trivial) only [↓bn_s1, ↓bd_s1, ↓ei_l1, ↓ei_r1, ↓bn_if, ↓ilt_1, ↓ilt_0, ↓ieq_1, ↓ieq_0, bn_s1, bd_s1, ei_l1, ei_r1, J_add, J_sub, J_mul, J_neg, J_lt, J_le, J_eq, dv_J, rm_J, if_pos, if_neg, ↓reduceIte, bitJ, shlJ, orJ, j_0, j_1, j_2, j_3, j_4, j_5, j_6, j_7, j_8, j_9, j_10, j_11, j_12, j_13, j_14, j_15, j_16, j_17, j_18, j_19, j_20, j_21, j_22, j_23, j_24, j_25, j_26, j_27, j_28, j_29, j_30, j_31, j_32, j_33, j_34, j_35, j_36, j_37, j_38, j_39, j_40, j_41, j_42, j_43, j_44, j_45, j_46, j_47, j_48, j_49, j_50, j_51, j_52, j_57, j_59, j_63, j_74, j_75, j_93, j_97, j_99, j_100, j_122, j_200, j_255, j_300, j_465, j_496, j_900, j_999, j_1000, j_65536, j_65537, j_99999, j_252645135, j_858993459, j_1431655765, k_0, k_1, k_27, k_32, k_74, k_75, k_100, k_1000, k_65537, g_i V1, ↓g_i_b V1, g_p V1, ↓g_p_b V1, g_r0 V1, ↓g_r0_b V1, ↓bn_e (e2), e2, sr44_0 V2, ↓sr44_0_b V2, sr44_1 V2, ↓sr44_1_b V2, s44i V2, ↓s44i_b V2, s44p V2, ↓s44p_b V2, s45a V2, ↓s45a_b V2, s45s V2, ↓s45s_b V2, s46a V2, ↓s46a_b V2, s46s V2, ↓s46s_b V2, v2, ↓bd_e (e3), e3]
  refine ⟨h3, ?_, sc_fm (fm_tr f2 f3) (by omega), fm_fi (fm_tr f2 f3) (by omega) 12⟩
  try simp only [j_0, j_1, j_2, j_3, j_4, j_5, j_6, j_7, j_8, j_9, j_10, j_11, j_12, j_13, j_14, j_15, j_16, j_17, j_18, j_19, j_20, j_21, j_22, j_23, j_24, j_25, j_26, j_27, j_28, j_29, j_30, j_31, j_32, j_33, j_34, j_35, j_36, j_37, j_38, j_39, j_40, j_41, j_42, j_43, j_44, j_45, j_46, j_47, j_48, j_49, j_50, j_51, j_52, j_57, j_59, j_63, j_74, j_75, j_93, j_97, j_99, j_100, j_122, j_200, j_255, j_300, j_465, j_496, j_900, j_999, j_1000, j_65536, j_65537, j_99999, j_252645135, j_858993459, j_1431655765, k_0, k_1, k_27, k_32, k_74, k_75, k_100, k_1000, k_65537]
  simp (disch := first | with_reducible assumption | omega | trivial) only [↓bn_s1, ↓bd_s1, ↓ei_l1, ↓ei_r1, ↓bn_if, ↓ilt_1, ↓ilt_0, ↓ieq_1, ↓ieq_0, bn_s1, bd_s1, ei_l1, ei_r1, J_add, J_sub, J_mul, J_neg, J_lt, J_le, J_eq, dv_J, rm_J, if_pos, if_neg, ↓reduceIte, bitJ, shlJ, orJ, j_0, j_1, j_2, j_3, j_4, j_5, j_6, j_7, j_8, j_9, j_10, j_11, j_12, j_13, j_14, j_15, j_16, j_17, j_18, j_19, j_20, j_21, j_22, j_23, j_24, j_25, j_26, j_27, j_28, j_29, j_30, j_31, j_32, j_33, j_34, j_35, j_36, j_37, j_38, j_39, j_40, j_41, j_42, j_43, j_44, j_45, j_46, j_47, j_48, j_49, j_50, j_51, j_52, j_57, j_59, j_63, j_74, j_75, j_93, j_97, j_99, j_100, j_122, j_200, j_255, j_300, j_465, j_496, j_900, j_999, j_1000, j_65536, j_65537, j_99999, j_252645135, j_858993459, j_1431655765, k_0, k_1, k_27, k_32, k_74, k_75, k_100, k_1000, k_65537, vr_0 V1, ↓vr_0_b V1, vr_2 V1, ↓vr_2_b V1, vr_4 V1, ↓vr_4_b V1, vr_5 V1, ↓vr_5_b V1, vr_6 V1, ↓vr_6_b V1, vr_7 V1, ↓vr_7_b V1, vr_8 V1, ↓vr_8_b V1, vr_9 V1, ↓vr_9_b V1, vr_10 V1, ↓vr_10_b V1, vr_11 V1, ↓vr_11_b V1, vr_3 V1, ↓vr_3_b V1, v0i V1, ↓v0i_b V1, v0p V1, ↓v0p_b V1, ↓bd_e (ev), ev]
theorem c_kcu {a : Ab} {t : Nat} {h : Hp} {n : Int} (HA : AW a) (H : CI a t h) (hn' : rng n) : Cq (F_cs_kingCuts 0 (J n) h) h (if ¬ qL a 1 0 = 0 ∧ (1 ≤ n ∧ n ≤ 4) then w_kcu a n else -1) (t_2 (¬ qL a 1 0 = 0) (1 ≤ n ∧ n ≤ 4)) := by
  unfold F_cs_kingCuts
  refine cq_2 (V := fun b => w_kcu b n) rfl jm1 HA H (pr_L HA H) (pr_o j_1 j_4 hn' (by omega)) (fun c d b h1 eb A1 H1 => ?_)
  rw [← eb] at c
  have V1 := H1.1
  have o := XV_o V1
  have b1 := LW_h A1.1
  have b2 := LW_r A1.1
  have rne := rn_e A1.1
  have sw := A1.2.1.1
  obtain ⟨k, hk⟩ : ∃ k : Nat, n = k + 1 := ⟨(n - 1).toNat, by omega⟩
  have ek : (k : Int) + 1 - 1 = (k : Nat) := by omega
  obtain ⟨h2, e2, f2, G2⟩ := C_weigh80 A1 H1
  have KV := (C_village A1.1 (show 1 ≤ qL b 1 0 by omega) (C_kings (t := t) A1.1 (by omega) 5)).1
  obtain ⟨cN, hcN⟩ : ∃ cN, cN = (qS b 28).toNat := ⟨_, rfl⟩
  have hlt := sw.2.2.2.2.1
  rw [← hcN] at hlt
  have v2 := v28 A1 (SR_fm f2 (by omega) H1.2.2.1)
  rw [← hcN] at v2
  obtain ⟨h3, e3, f3, G3⟩ := KV k (net (qL b) (qS b)) cN h2 (by omega) (by omega) G2 (ob_net A1 (by omega)) hlt
  obtain ⟨f, hf⟩ : ∃ f, f = kcf b n := ⟨_, rfl⟩
  have ff : ∀ j : Nat, f j = gm (qL b) k false (net (qL b) (qS b)) (cjc cN j) := fun j => by
    rw [hf]
    unfold kcf
    rw [Int.toNat_natCast, ← hcN]
    have : n.toNat - 1 = k := by omega
    rw [this]
  have gb : ∀ j : Nat, 0 ≤ f j ∧ f j ≤ 5 := fun j => by rw [ff]; exact gm_b A1.1 k false _ _
  have f00 : gm (qL b) k false (net (qL b) (qS b)) cN = f ((0 : Nat) : Int) := by rw [ff]; rfl
  rw [f00] at e3
  have lw01 : lw f (0 + 1) = 0 := by have := lw_lt f 0; omega
  have V2 := G2.1
  have V3 := G3.1
  obtain ⟨y, h4, e4, y4, f4⟩ := lp_for (b := B_gm_firstCut_30 79 t 44 (J n)) (f := FU) (s := (J (f ((0 : Nat) : Int)), J (-2), J 0)) (h := h3) (fun i s h' => s = (J (f (lw f (i + 1) : Nat)), J (if lw f (i + 1) = 0 then -2 else (lw f (i + 1) : Int) - 1), J i) ∧ Fm 80 84 h1 h' ∧ GO (qL b) t (net (qL b) (qS b)) h') (fun y h' => y = J (if lw f (rn (qL b) + 1) = 0 then -2 else (lw f (rn (qL b) + 1) : Int) - 1) ∧ Fm 80 84 h1 h') (rn (qL b)) (by unfold FU; omega) ⟨by rw [lw01, if_pos rfl]; rfl, fm_tr f2 f3, G3⟩ (fun i s h4 hi hI => by
      obtain ⟨rfl, f4, G4⟩ := hI
      have V4 := G4.1
      have R4 := G4.2.1
      have S4 := SR_fm f4 (by omega) H1.2.2.1
      have v4 := v28 A1 S4
      rw [← hcN] at v4
      have et := C_isTied A1.1 (XV_s44 V4) S4 sw.2.2.2.1 sw.2.2.2.2.1 (show (i : Int) < qL b 2 0 by omega)
      rw [← hcN] at et
      have lm := lw_min (f := f) i
      have ll := lw_lt f i
      have g2 := gb (lw f (i + 1))
      have e6 : lw f (i + 1 + 1) = if f ((i + 1 : Nat) : Int) < f (lw f (i + 1) : Nat) then i + 1 else lw f (i + 1) := rfl
      by_cases cb : cN.testBit i = true
      · rw [if_pos cb] at et
        have ec : f ((i + 1 : Nat) : Int) = f ((0 : Nat) : Int) := by
          rw [ff, ff]
          unfold cjc
          rw [if_neg (by omega), if_pos rfl]
          have : i + 1 - 1 = i := by omega
          rw [this, or_same cb]
        have l0 := (lm 0 (by omega)).1
        rw [if_neg (by omega)] at e6
        refine ⟨(J (f (lw f (i + 1) : Nat)), J (if lw f (i + 1) = 0 then -2 else (lw f (i + 1) : Int) - 1), J (i + 1 : Nat)), h4, ?_, by rw [e6], f4, G4⟩
        unfold B_gm_firstCut_30
        try simp only [j_0, j_1, j_2, j_3, j_4, j_5, j_6, j_7, j_8, j_9, j_10, j_11, j_12, j_13, j_14, j_15, j_16, j_17, j_18, j_19, j_20, j_21, j_22, j_23, j_24, j_25, j_26, j_27, j_28, j_29, j_30, j_31, j_32, j_33, j_34, j_35, j_36, j_37, j_38, j_39, j_40, j_41, j_42, j_43, j_44, j_45, j_46, j_47, j_48, j_49, j_50, j_51, j_52, j_57, j_59, j_63, j_74, j_75, j_93, j_97, j_99, j_100, j_122, j_200, j_255, j_300, j_465, j_496, j_900, j_999, j_1000, j_65536, j_65537, j_99999, j_252645135, j_858993459, j_1431655765, k_0, k_1, k_27, k_32, k_74, k_75, k_100, k_1000, k_65537]
        simp (disch := first | with_reducible assumption | omega | trivial) only [↓bn_s1, ↓bd_s1, ↓ei_l1, ↓ei_r1, ↓bn_if, ↓ilt_1, ↓ilt_0, ↓ieq_1, ↓ieq_0, bn_s1, bd_s1, ei_l1, ei_r1, J_add, J_sub, J_mul, J_neg, J_lt, J_le, J_eq, dv_J, rm_J, if_pos, if_neg, ↓reduceIte, bitJ, shlJ, orJ, j_0, j_1, j_2, j_3, j_4, j_5, j_6, j_7, j_8, j_9, j_10, j_11, j_12, j_13, j_14, j_15, j_16, j_17, j_18, j_19, j_20, j_21, j_22, j_23, j_24, j_25, j_26, j_27, j_28, j_29, j_30, j_31, j_32, j_33, j_34, j_35, j_36, j_37, j_38, j_39, j_40, j_41, j_42, j_43, j_44, j_45, j_46, j_47, j_48, j_49, j_50, j_51, j_52, j_57, j_59, j_63, j_74, j_75, j_93, j_97, j_99, j_100, j_122, j_200, j_255, j_300, j_465, j_496, j_900, j_999, j_1000, j_65536, j_65537, j_99999, j_252645135, j_858993459, j_1431655765, k_0, k_1, k_27, k_32, k_74, k_75, k_100, k_1000, k_65537, ti_0 (XV_ts V4) R4, ↓ti_0_b (XV_ts V4) R4, ti_1 (XV_ts V4) R4, ↓ti_1_b (XV_ts V4) R4, ti_5 (XV_ts V4) R4, ↓ti_5_b (XV_ts V4) R4, ti_8 (XV_ts V4) R4, ↓ti_8_b (XV_ts V4) R4, ti_11 (XV_ts V4) R4, ↓ti_11_b (XV_ts V4) R4, ti_14 (XV_ts V4) R4, ↓ti_14_b (XV_ts V4) R4, ty_0 (XV_ts V4) R4, ↓ty_0_b (XV_ts V4) R4, ty_4 (XV_ts V4) R4, ↓ty_4_b (XV_ts V4) R4, trf_18 (XV_ts V4), ↓trf_18_b (XV_ts V4), trf_3 (XV_ts V4), ↓trf_3_b (XV_ts V4), trf_4 (XV_ts V4), ↓trf_4_b (XV_ts V4), trf_6 (XV_ts V4), ↓trf_6_b (XV_ts V4), trf_7 (XV_ts V4), ↓trf_7_b (XV_ts V4), trf_9 (XV_ts V4), ↓trf_9_b (XV_ts V4), trf_10 (XV_ts V4), ↓trf_10_b (XV_ts V4), trf_12 (XV_ts V4), ↓trf_12_b (XV_ts V4), trf_13 (XV_ts V4), ↓trf_13_b (XV_ts V4), trf_15 (XV_ts V4), ↓trf_15_b (XV_ts V4), trf_16 (XV_ts V4), ↓trf_16_b (XV_ts V4), trf_17 (XV_ts V4), ↓trf_17_b (XV_ts V4), try_1 (XV_ts V4), ↓try_1_b (XV_ts V4), try_2 (XV_ts V4), ↓try_2_b (XV_ts V4), try_3 (XV_ts V4), ↓try_3_b (XV_ts V4), try_5 (XV_ts V4), ↓try_5_b (XV_ts V4), try_6 (XV_ts V4), ↓try_6_b (XV_ts V4), ta_3 A1.1 (XV_ts V4) R4, ↓ta_3_b A1.1 (XV_ts V4) R4, ta_4 A1.1 (XV_ts V4) R4, ↓ta_4_b A1.1 (XV_ts V4) R4, ta_6 A1.1 (XV_ts V4) R4, ↓ta_6_b A1.1 (XV_ts V4) R4, ta_7 A1.1 (XV_ts V4) R4, ↓ta_7_b A1.1 (XV_ts V4) R4, ta_9 A1.1 (XV_ts V4) R4, ↓ta_9_b A1.1 (XV_ts V4) R4, ta_10 A1.1 (XV_ts V4) R4, ↓ta_10_b A1.1 (XV_ts V4) R4, ta_12 A1.1 (XV_ts V4) R4, ↓ta_12_b A1.1 (XV_ts V4) R4, ta_13 A1.1 (XV_ts V4) R4, ↓ta_13_b A1.1 (XV_ts V4) R4, ta_15 A1.1 (XV_ts V4) R4, ↓ta_15_b A1.1 (XV_ts V4) R4, ta_16 A1.1 (XV_ts V4) R4, ↓ta_16_b A1.1 (XV_ts V4) R4, ta_17 A1.1 (XV_ts V4) R4, ↓ta_17_b A1.1 (XV_ts V4) R4, tz_1 A1.1 (XV_ts V4) R4, ↓tz_1_b A1.1 (XV_ts V4) R4, tz_2 A1.1 (XV_ts V4) R4, ↓tz_2_b A1.1 (XV_ts V4) R4, tz_3 A1.1 (XV_ts V4) R4, ↓tz_3_b A1.1 (XV_ts V4) R4, tz_5 A1.1 (XV_ts V4) R4, ↓tz_5_b A1.1 (XV_ts V4) R4, tz_6 A1.1 (XV_ts V4) R4, ↓tz_6_b A1.1 (XV_ts V4) R4, ↓bn_e (et), et]
        rfl
      · rw [if_neg cb] at et
        have hl := or_lt (rn (qL b)) (by omega) cN hlt i hi
        have tc := tieC (rn (qL b)) (by omega) cN hlt i hi
        rw [shlJ (by omega)] at tc
        obtain ⟨h5, e5, f5, G5⟩ := KV k (net (qL b) (qS b)) (cN ||| 2 ^ i) h4 (by omega) (by omega) G4 (ob_net A1 (by omega)) hl
        have ec : gm (qL b) k false (net (qL b) (qS b)) (cN ||| 2 ^ i) = f ((i + 1 : Nat) : Int) := by
          rw [ff]
          unfold cjc
          rw [if_neg (by omega)]
          have : i + 1 - 1 = i := by omega
          rw [this]
        rw [ec] at e5
        replace e5 : F_gm_villageMoves 6 79 t (J (2 ^ rn (qL b) - 1 - ((cN ||| 2 ^ i : Nat) : Int))) (J k) h4 = some (J (f ((i + 1 : Nat) : Int)), h5) := e5
        have g1 := gb (i + 1)
        have enk : n - 1 = (k : Int) := by omega
        have ei1 : ((i + 1 : Nat) : Int) - 1 = i := by omega
        by_cases lt : f ((i + 1 : Nat) : Int) < f (lw f (i + 1) : Nat)
        · rw [if_pos lt] at e6
          refine ⟨(J (f ((i + 1 : Nat) : Int)), J i, J (i + 1 : Nat)), h5, ?_, by rw [e6, if_neg (by omega), ei1], fm_tr f4 f5, G5⟩
          unfold B_gm_firstCut_30
          rw [jm1]
          try simp only [j_0, j_1, j_2, j_3, j_4, j_5, j_6, j_7, j_8, j_9, j_10, j_11, j_12, j_13, j_14, j_15, j_16, j_17, j_18, j_19, j_20, j_21, j_22, j_23, j_24, j_25, j_26, j_27, j_28, j_29, j_30, j_31, j_32, j_33, j_34, j_35, j_36, j_37, j_38, j_39, j_40, j_41, j_42, j_43, j_44, j_45, j_46, j_47, j_48, j_49, j_50, j_51, j_52, j_57, j_59, j_63, j_74, j_75, j_93, j_97, j_99, j_100, j_122, j_200, j_255, j_300, j_465, j_496, j_900, j_999, j_1000, j_65536, j_65537, j_99999, j_252645135, j_858993459, j_1431655765, k_0, k_1, k_27, k_32, k_74, k_75, k_100, k_1000, k_65537]
          simp (disch := first | with_reducible assumption | omega | trivial) only [↓bn_s1, ↓bd_s1, ↓ei_l1, ↓ei_r1, ↓bn_if, ↓ilt_1, ↓ilt_0, ↓ieq_1, ↓ieq_0, bn_s1, bd_s1, ei_l1, ei_r1, J_add, J_sub, J_mul, J_neg, J_lt, J_le, J_eq, dv_J, rm_J, if_pos, if_neg, ↓reduceIte, bitJ, shlJ, orJ, j_0, j_1, j_2, j_3, j_4, j_5, j_6, j_7, j_8, j_9, j_10, j_11, j_12, j_13, j_14, j_15, j_16, j_17, j_18, j_19, j_20, j_21, j_22, j_23, j_24, j_25, j_26, j_27, j_28, j_29, j_30, j_31, j_32, j_33, j_34, j_35, j_36, j_37, j_38, j_39, j_40, j_41, j_42, j_43, j_44, j_45, j_46, j_47, j_48, j_49, j_50, j_51, j_52, j_57, j_59, j_63, j_74, j_75, j_93, j_97, j_99, j_100, j_122, j_200, j_255, j_300, j_465, j_496, j_900, j_999, j_1000, j_65536, j_65537, j_99999, j_252645135, j_858993459, j_1431655765, k_0, k_1, k_27, k_32, k_74, k_75, k_100, k_1000, k_65537, ti_0 (XV_ts V4) R4, ↓ti_0_b (XV_ts V4) R4, ti_1 (XV_ts V4) R4, ↓ti_1_b (XV_ts V4) R4, ti_5 (XV_ts V4) R4, ↓ti_5_b (XV_ts V4) R4, ti_8 (XV_ts V4) R4, ↓ti_8_b (XV_ts V4) R4, ti_11 (XV_ts V4) R4, ↓ti_11_b (XV_ts V4) R4, ti_14 (XV_ts V4) R4, ↓ti_14_b (XV_ts V4) R4, ty_0 (XV_ts V4) R4, ↓ty_0_b (XV_ts V4) R4, ty_4 (XV_ts V4) R4, ↓ty_4_b (XV_ts V4) R4, trf_18 (XV_ts V4), ↓trf_18_b (XV_ts V4), trf_3 (XV_ts V4), ↓trf_3_b (XV_ts V4), trf_4 (XV_ts V4), ↓trf_4_b (XV_ts V4), trf_6 (XV_ts V4), ↓trf_6_b (XV_ts V4), trf_7 (XV_ts V4), ↓trf_7_b (XV_ts V4), trf_9 (XV_ts V4), ↓trf_9_b (XV_ts V4), trf_10 (XV_ts V4), ↓trf_10_b (XV_ts V4), trf_12 (XV_ts V4), ↓trf_12_b (XV_ts V4), trf_13 (XV_ts V4), ↓trf_13_b (XV_ts V4), trf_15 (XV_ts V4), ↓trf_15_b (XV_ts V4), trf_16 (XV_ts V4), ↓trf_16_b (XV_ts V4), trf_17 (XV_ts V4), ↓trf_17_b (XV_ts V4), try_1 (XV_ts V4), ↓try_1_b (XV_ts V4), try_2 (XV_ts V4), ↓try_2_b (XV_ts V4), try_3 (XV_ts V4), ↓try_3_b (XV_ts V4), try_5 (XV_ts V4), ↓try_5_b (XV_ts V4), try_6 (XV_ts V4), ↓try_6_b (XV_ts V4), ta_3 A1.1 (XV_ts V4) R4, ↓ta_3_b A1.1 (XV_ts V4) R4, ta_4 A1.1 (XV_ts V4) R4, ↓ta_4_b A1.1 (XV_ts V4) R4, ta_6 A1.1 (XV_ts V4) R4, ↓ta_6_b A1.1 (XV_ts V4) R4, ta_7 A1.1 (XV_ts V4) R4, ↓ta_7_b A1.1 (XV_ts V4) R4, ta_9 A1.1 (XV_ts V4) R4, ↓ta_9_b A1.1 (XV_ts V4) R4, ta_10 A1.1 (XV_ts V4) R4, ↓ta_10_b A1.1 (XV_ts V4) R4, ta_12 A1.1 (XV_ts V4) R4, ↓ta_12_b A1.1 (XV_ts V4) R4, ta_13 A1.1 (XV_ts V4) R4, ↓ta_13_b A1.1 (XV_ts V4) R4, ta_15 A1.1 (XV_ts V4) R4, ↓ta_15_b A1.1 (XV_ts V4) R4, ta_16 A1.1 (XV_ts V4) R4, ↓ta_16_b A1.1 (XV_ts V4) R4, ta_17 A1.1 (XV_ts V4) R4, ↓ta_17_b A1.1 (XV_ts V4) R4, tz_1 A1.1 (XV_ts V4) R4, ↓tz_1_b A1.1 (XV_ts V4) R4, tz_2 A1.1 (XV_ts V4) R4, ↓tz_2_b A1.1 (XV_ts V4) R4, tz_3 A1.1 (XV_ts V4) R4, ↓tz_3_b A1.1 (XV_ts V4) R4, tz_5 A1.1 (XV_ts V4) R4, ↓tz_5_b A1.1 (XV_ts V4) R4, tz_6 A1.1 (XV_ts V4) R4, ↓tz_6_b A1.1 (XV_ts V4) R4, ↓bn_e (et), et, sr44_0 V4, ↓sr44_0_b V4, sr44_1 V4, ↓sr44_1_b V4, s44i V4, ↓s44i_b V4, s44p V4, ↓s44p_b V4, s45a V4, ↓s45a_b V4, s45s V4, ↓s45s_b V4, s46a V4, ↓s46a_b V4, s46s V4, ↓s46s_b V4, v4, tc, enk, ↓bd_e (e5), e5]
          rfl
        · rw [if_neg lt] at e6
          refine ⟨(J (f (lw f (i + 1) : Nat)), J (if lw f (i + 1) = 0 then -2 else (lw f (i + 1) : Int) - 1), J (i + 1 : Nat)), h5, ?_, by rw [e6], fm_tr f4 f5, G5⟩
          unfold B_gm_firstCut_30
          rw [jm1]
          try simp only [j_0, j_1, j_2, j_3, j_4, j_5, j_6, j_7, j_8, j_9, j_10, j_11, j_12, j_13, j_14, j_15, j_16, j_17, j_18, j_19, j_20, j_21, j_22, j_23, j_24, j_25, j_26, j_27, j_28, j_29, j_30, j_31, j_32, j_33, j_34, j_35, j_36, j_37, j_38, j_39, j_40, j_41, j_42, j_43, j_44, j_45, j_46, j_47, j_48, j_49, j_50, j_51, j_52, j_57, j_59, j_63, j_74, j_75, j_93, j_97, j_99, j_100, j_122, j_200, j_255, j_300, j_465, j_496, j_900, j_999, j_1000, j_65536, j_65537, j_99999, j_252645135, j_858993459, j_1431655765, k_0, k_1, k_27, k_32, k_74, k_75, k_100, k_1000, k_65537]
          simp (disch := first | with_reducible assumption | omega | trivial) only [↓bn_s1, ↓bd_s1, ↓ei_l1, ↓ei_r1, ↓bn_if, ↓ilt_1, ↓ilt_0, ↓ieq_1, ↓ieq_0, bn_s1, bd_s1, ei_l1, ei_r1, J_add, J_sub, J_mul, J_neg, J_lt, J_le, J_eq, dv_J, rm_J, if_pos, if_neg, ↓reduceIte, bitJ, shlJ, orJ, j_0, j_1, j_2, j_3, j_4, j_5, j_6, j_7, j_8, j_9, j_10, j_11, j_12, j_13, j_14, j_15, j_16, j_17, j_18, j_19, j_20, j_21, j_22, j_23, j_24, j_25, j_26, j_27, j_28, j_29, j_30, j_31, j_32, j_33, j_34, j_35, j_36, j_37, j_38, j_39, j_40, j_41, j_42, j_43, j_44, j_45, j_46, j_47, j_48, j_49, j_50, j_51, j_52, j_57, j_59, j_63, j_74, j_75, j_93, j_97, j_99, j_100, j_122, j_200, j_255, j_300, j_465, j_496, j_900, j_999, j_1000, j_65536, j_65537, j_99999, j_252645135, j_858993459, j_1431655765, k_0, k_1, k_27, k_32, k_74, k_75, k_100, k_1000, k_65537, ti_0 (XV_ts V4) R4, ↓ti_0_b (XV_ts V4) R4, ti_1 (XV_ts V4) R4, ↓ti_1_b (XV_ts V4) R4, ti_5 (XV_ts V4) R4, ↓ti_5_b (XV_ts V4) R4, ti_8 (XV_ts V4) R4, ↓ti_8_b (XV_ts V4) R4, ti_11 (XV_ts V4) R4, ↓ti_11_b (XV_ts V4) R4, ti_14 (XV_ts V4) R4, ↓ti_14_b (XV_ts V4) R4, ty_0 (XV_ts V4) R4, ↓ty_0_b (XV_ts V4) R4, ty_4 (XV_ts V4) R4, ↓ty_4_b (XV_ts V4) R4, trf_18 (XV_ts V4), ↓trf_18_b (XV_ts V4), trf_3 (XV_ts V4), ↓trf_3_b (XV_ts V4), trf_4 (XV_ts V4), ↓trf_4_b (XV_ts V4), trf_6 (XV_ts V4), ↓trf_6_b (XV_ts V4), trf_7 (XV_ts V4), ↓trf_7_b (XV_ts V4), trf_9 (XV_ts V4), ↓trf_9_b (XV_ts V4), trf_10 (XV_ts V4), ↓trf_10_b (XV_ts V4), trf_12 (XV_ts V4), ↓trf_12_b (XV_ts V4), trf_13 (XV_ts V4), ↓trf_13_b (XV_ts V4), trf_15 (XV_ts V4), ↓trf_15_b (XV_ts V4), trf_16 (XV_ts V4), ↓trf_16_b (XV_ts V4), trf_17 (XV_ts V4), ↓trf_17_b (XV_ts V4), try_1 (XV_ts V4), ↓try_1_b (XV_ts V4), try_2 (XV_ts V4), ↓try_2_b (XV_ts V4), try_3 (XV_ts V4), ↓try_3_b (XV_ts V4), try_5 (XV_ts V4), ↓try_5_b (XV_ts V4), try_6 (XV_ts V4), ↓try_6_b (XV_ts V4), ta_3 A1.1 (XV_ts V4) R4, ↓ta_3_b A1.1 (XV_ts V4) R4, ta_4 A1.1 (XV_ts V4) R4, ↓ta_4_b A1.1 (XV_ts V4) R4, ta_6 A1.1 (XV_ts V4) R4, ↓ta_6_b A1.1 (XV_ts V4) R4, ta_7 A1.1 (XV_ts V4) R4, ↓ta_7_b A1.1 (XV_ts V4) R4, ta_9 A1.1 (XV_ts V4) R4, ↓ta_9_b A1.1 (XV_ts V4) R4, ta_10 A1.1 (XV_ts V4) R4, ↓ta_10_b A1.1 (XV_ts V4) R4, ta_12 A1.1 (XV_ts V4) R4, ↓ta_12_b A1.1 (XV_ts V4) R4, ta_13 A1.1 (XV_ts V4) R4, ↓ta_13_b A1.1 (XV_ts V4) R4, ta_15 A1.1 (XV_ts V4) R4, ↓ta_15_b A1.1 (XV_ts V4) R4, ta_16 A1.1 (XV_ts V4) R4, ↓ta_16_b A1.1 (XV_ts V4) R4, ta_17 A1.1 (XV_ts V4) R4, ↓ta_17_b A1.1 (XV_ts V4) R4, tz_1 A1.1 (XV_ts V4) R4, ↓tz_1_b A1.1 (XV_ts V4) R4, tz_2 A1.1 (XV_ts V4) R4, ↓tz_2_b A1.1 (XV_ts V4) R4, tz_3 A1.1 (XV_ts V4) R4, ↓tz_3_b A1.1 (XV_ts V4) R4, tz_5 A1.1 (XV_ts V4) R4, ↓tz_5_b A1.1 (XV_ts V4) R4, tz_6 A1.1 (XV_ts V4) R4, ↓tz_6_b A1.1 (XV_ts V4) R4, ↓bn_e (et), et, sr44_0 V4, ↓sr44_0_b V4, sr44_1 V4, ↓sr44_1_b V4, s44i V4, ↓s44i_b V4, s44p V4, ↓s44p_b V4, s45a V4, ↓s45a_b V4, s45s V4, ↓s45s_b V4, s46a V4, ↓s46a_b V4, s46s V4, ↓s46s_b V4, v4, tc, enk, ↓bd_e (e5), e5]
          rfl) (fun s h4 hI => by
      obtain ⟨rfl, f4, G4⟩ := hI
      have V4 := G4.1
      have R4 := G4.2.1
      refine ⟨_, h4, ?_, rfl, f4⟩
      unfold B_gm_firstCut_30
      try simp only [j_0, j_1, j_2, j_3, j_4, j_5, j_6, j_7, j_8, j_9, j_10, j_11, j_12, j_13, j_14, j_15, j_16, j_17, j_18, j_19, j_20, j_21, j_22, j_23, j_24, j_25, j_26, j_27, j_28, j_29, j_30, j_31, j_32, j_33, j_34, j_35, j_36, j_37, j_38, j_39, j_40, j_41, j_42, j_43, j_44, j_45, j_46, j_47, j_48, j_49, j_50, j_51, j_52, j_57, j_59, j_63, j_74, j_75, j_93, j_97, j_99, j_100, j_122, j_200, j_255, j_300, j_465, j_496, j_900, j_999, j_1000, j_65536, j_65537, j_99999, j_252645135, j_858993459, j_1431655765, k_0, k_1, k_27, k_32, k_74, k_75, k_100, k_1000, k_65537]
      simp (disch := first | with_reducible assumption | omega | trivial) only [↓bn_s1, ↓bd_s1, ↓ei_l1, ↓ei_r1, ↓bn_if, ↓ilt_1, ↓ilt_0, ↓ieq_1, ↓ieq_0, bn_s1, bd_s1, ei_l1, ei_r1, J_add, J_sub, J_mul, J_neg, J_lt, J_le, J_eq, dv_J, rm_J, if_pos, if_neg, ↓reduceIte, bitJ, shlJ, orJ, j_0, j_1, j_2, j_3, j_4, j_5, j_6, j_7, j_8, j_9, j_10, j_11, j_12, j_13, j_14, j_15, j_16, j_17, j_18, j_19, j_20, j_21, j_22, j_23, j_24, j_25, j_26, j_27, j_28, j_29, j_30, j_31, j_32, j_33, j_34, j_35, j_36, j_37, j_38, j_39, j_40, j_41, j_42, j_43, j_44, j_45, j_46, j_47, j_48, j_49, j_50, j_51, j_52, j_57, j_59, j_63, j_74, j_75, j_93, j_97, j_99, j_100, j_122, j_200, j_255, j_300, j_465, j_496, j_900, j_999, j_1000, j_65536, j_65537, j_99999, j_252645135, j_858993459, j_1431655765, k_0, k_1, k_27, k_32, k_74, k_75, k_100, k_1000, k_65537, ti_0 (XV_ts V4) R4, ↓ti_0_b (XV_ts V4) R4, ti_1 (XV_ts V4) R4, ↓ti_1_b (XV_ts V4) R4, ti_5 (XV_ts V4) R4, ↓ti_5_b (XV_ts V4) R4, ti_8 (XV_ts V4) R4, ↓ti_8_b (XV_ts V4) R4, ti_11 (XV_ts V4) R4, ↓ti_11_b (XV_ts V4) R4, ti_14 (XV_ts V4) R4, ↓ti_14_b (XV_ts V4) R4, ty_0 (XV_ts V4) R4, ↓ty_0_b (XV_ts V4) R4, ty_4 (XV_ts V4) R4, ↓ty_4_b (XV_ts V4) R4, trf_18 (XV_ts V4), ↓trf_18_b (XV_ts V4), trf_3 (XV_ts V4), ↓trf_3_b (XV_ts V4), trf_4 (XV_ts V4), ↓trf_4_b (XV_ts V4), trf_6 (XV_ts V4), ↓trf_6_b (XV_ts V4), trf_7 (XV_ts V4), ↓trf_7_b (XV_ts V4), trf_9 (XV_ts V4), ↓trf_9_b (XV_ts V4), trf_10 (XV_ts V4), ↓trf_10_b (XV_ts V4), trf_12 (XV_ts V4), ↓trf_12_b (XV_ts V4), trf_13 (XV_ts V4), ↓trf_13_b (XV_ts V4), trf_15 (XV_ts V4), ↓trf_15_b (XV_ts V4), trf_16 (XV_ts V4), ↓trf_16_b (XV_ts V4), trf_17 (XV_ts V4), ↓trf_17_b (XV_ts V4), try_1 (XV_ts V4), ↓try_1_b (XV_ts V4), try_2 (XV_ts V4), ↓try_2_b (XV_ts V4), try_3 (XV_ts V4), ↓try_3_b (XV_ts V4), try_5 (XV_ts V4), ↓try_5_b (XV_ts V4), try_6 (XV_ts V4), ↓try_6_b (XV_ts V4), ta_3 A1.1 (XV_ts V4) R4, ↓ta_3_b A1.1 (XV_ts V4) R4, ta_4 A1.1 (XV_ts V4) R4, ↓ta_4_b A1.1 (XV_ts V4) R4, ta_6 A1.1 (XV_ts V4) R4, ↓ta_6_b A1.1 (XV_ts V4) R4, ta_7 A1.1 (XV_ts V4) R4, ↓ta_7_b A1.1 (XV_ts V4) R4, ta_9 A1.1 (XV_ts V4) R4, ↓ta_9_b A1.1 (XV_ts V4) R4, ta_10 A1.1 (XV_ts V4) R4, ↓ta_10_b A1.1 (XV_ts V4) R4, ta_12 A1.1 (XV_ts V4) R4, ↓ta_12_b A1.1 (XV_ts V4) R4, ta_13 A1.1 (XV_ts V4) R4, ↓ta_13_b A1.1 (XV_ts V4) R4, ta_15 A1.1 (XV_ts V4) R4, ↓ta_15_b A1.1 (XV_ts V4) R4, ta_16 A1.1 (XV_ts V4) R4, ↓ta_16_b A1.1 (XV_ts V4) R4, ta_17 A1.1 (XV_ts V4) R4, ↓ta_17_b A1.1 (XV_ts V4) R4, tz_1 A1.1 (XV_ts V4) R4, ↓tz_1_b A1.1 (XV_ts V4) R4, tz_2 A1.1 (XV_ts V4) R4, ↓tz_2_b A1.1 (XV_ts V4) R4, tz_3 A1.1 (XV_ts V4) R4, ↓tz_3_b A1.1 (XV_ts V4) R4, tz_5 A1.1 (XV_ts V4) R4, ↓tz_5_b A1.1 (XV_ts V4) R4, tz_6 A1.1 (XV_ts V4) R4, ↓tz_6_b A1.1 (XV_ts V4) R4])
  have ew : w_kcu b n = if lw f (rn (qL b) + 1) = 0 then -2 else (lw f (rn (qL b) + 1) : Int) - 1 := by unfold w_kcu kcj; rw [← hf]
  have enk : n - 1 = (k : Int) := by omega
  replace e3 : F_gm_villageMoves 6 79 t (J (2 ^ rn (qL b) - 1 - (cN : Int))) (J k) h2 = some (J (f ((0 : Nat) : Int)), h3) := e3
  have ev : F_gm_firstCut 79 t 44 (J n) h1 = some (J (w_kcu b n), h4) := by
    unfold F_gm_firstCut
    rw [ck_e (GS_k (XV_g V1)), ew, ← y4, jm2]
    try simp only [j_0, j_1, j_2, j_3, j_4, j_5, j_6, j_7, j_8, j_9, j_10, j_11, j_12, j_13, j_14, j_15, j_16, j_17, j_18, j_19, j_20, j_21, j_22, j_23, j_24, j_25, j_26, j_27, j_28, j_29, j_30, j_31, j_32, j_33, j_34, j_35, j_36, j_37, j_38, j_39, j_40, j_41, j_42, j_43, j_44, j_45, j_46, j_47, j_48, j_49, j_50, j_51, j_52, j_57, j_59, j_63, j_74, j_75, j_93, j_97, j_99, j_100, j_122, j_200, j_255, j_300, j_465, j_496, j_900, j_999, j_1000, j_65536, j_65537, j_99999, j_252645135, j_858993459, j_1431655765, k_0, k_1, k_27, k_32, k_74, k_75, k_100, k_1000, k_65537]
    simp (disch := first | with_reducible assumption | omega | trivial) only [↓bn_s1, ↓bd_s1, ↓ei_l1, ↓ei_r1, ↓bn_if, ↓ilt_1, ↓ilt_0, ↓ieq_1, ↓ieq_0, bn_s1, bd_s1, ei_l1, ei_r1, J_add, J_sub, J_mul, J_neg, J_lt, J_le, J_eq, dv_J, rm_J, if_pos, if_neg, ↓reduceIte, bitJ, shlJ, orJ, j_0, j_1, j_2, j_3, j_4, j_5, j_6, j_7, j_8, j_9, j_10, j_11, j_12, j_13, j_14, j_15, j_16, j_17, j_18, j_19, j_20, j_21, j_22, j_23, j_24, j_25, j_26, j_27, j_28, j_29, j_30, j_31, j_32, j_33, j_34, j_35, j_36, j_37, j_38, j_39, j_40, j_41, j_42, j_43, j_44, j_45, j_46, j_47, j_48, j_49, j_50, j_51, j_52, j_57, j_59, j_63, j_74, j_75, j_93, j_97, j_99, j_100, j_122, j_200, j_255, j_300, j_465, j_496, j_900, j_999, j_1000, j_65536, j_65537, j_99999, j_252645135, j_858993459, j_1431655765, k_0, k_1, k_27, k_32, k_74, k_75, k_100, k_1000, k_65537, g_i V1, ↓g_i_b V1, g_p V1, ↓g_p_b V1, g_r0 V1, ↓g_r0_b V1, ↓bn_e (e2), e2, sr44_0 V2, ↓sr44_0_b V2, sr44_1 V2, ↓sr44_1_b V2, s44i V2, ↓s44i_b V2, s44p V2, ↓s44p_b V2, s45a V2, ↓s45a_b V2, s45s V2, ↓s45s_b V2, s46a V2, ↓s46a_b V2, s46s V2, ↓s46s_b V2, v2, enk, ↓bd_e (e3), e3, ↓bd_e (e4), e4]
  refine ⟨h4, ?_, sc_fm f4 (by omega), fm_fi f4 (by omega) 12⟩
  try simp only [j_0, j_1, j_2, j_3, j_4, j_5, j_6, j_7, j_8, j_9, j_10, j_11, j_12, j_13, j_14, j_15, j_16, j_17, j_18, j_19, j_20, j_21, j_22, j_23, j_24, j_25, j_26, j_27, j_28, j_29, j_30, j_31, j_32, j_33, j_34, j_35, j_36, j_37, j_38, j_39, j_40, j_41, j_42, j_43, j_44, j_45, j_46, j_47, j_48, j_49, j_50, j_51, j_52, j_57, j_59, j_63, j_74, j_75, j_93, j_97, j_99, j_100, j_122, j_200, j_255, j_300, j_465, j_496, j_900, j_999, j_1000, j_65536, j_65537, j_99999, j_252645135, j_858993459, j_1431655765, k_0, k_1, k_27, k_32, k_74, k_75, k_100, k_1000, k_65537]
  simp (disch := first | with_reducible assumption | omega | trivial) only [↓bn_s1, ↓bd_s1, ↓ei_l1, ↓ei_r1, ↓bn_if, ↓ilt_1, ↓ilt_0, ↓ieq_1, ↓ieq_0, bn_s1, bd_s1, ei_l1, ei_r1, J_add, J_sub, J_mul, J_neg, J_lt, J_le, J_eq, dv_J, rm_J, if_pos, if_neg, ↓reduceIte, bitJ, shlJ, orJ, j_0, j_1, j_2, j_3, j_4, j_5, j_6, j_7, j_8, j_9, j_10, j_11, j_12, j_13, j_14, j_15, j_16, j_17, j_18, j_19, j_20, j_21, j_22, j_23, j_24, j_25, j_26, j_27, j_28, j_29, j_30, j_31, j_32, j_33, j_34, j_35, j_36, j_37, j_38, j_39, j_40, j_41, j_42, j_43, j_44, j_45, j_46, j_47, j_48, j_49, j_50, j_51, j_52, j_57, j_59, j_63, j_74, j_75, j_93, j_97, j_99, j_100, j_122, j_200, j_255, j_300, j_465, j_496, j_900, j_999, j_1000, j_65536, j_65537, j_99999, j_252645135, j_858993459, j_1431655765, k_0, k_1, k_27, k_32, k_74, k_75, k_100, k_1000, k_65537, vr_0 V1, ↓vr_0_b V1, vr_2 V1, ↓vr_2_b V1, vr_4 V1, ↓vr_4_b V1, vr_5 V1, ↓vr_5_b V1, vr_6 V1, ↓vr_6_b V1, vr_7 V1, ↓vr_7_b V1, vr_8 V1, ↓vr_8_b V1, vr_9 V1, ↓vr_9_b V1, vr_10 V1, ↓vr_10_b V1, vr_11 V1, ↓vr_11_b V1, vr_3 V1, ↓vr_3_b V1, v0i V1, ↓v0i_b V1, v0p V1, ↓v0p_b V1, ↓bd_e (ev), ev]
