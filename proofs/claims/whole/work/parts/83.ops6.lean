/-! sinks, wetFeast -/
def fsi (p : Nat → Bool) : Nat → Nat
  | 0 => 0
  | n + 1 => if fsi p n < n then fsi p n else if p n = true then n else n + 1
theorem fsi_p (p : Nat → Bool) (n : Nat) : fsi p n ≤ n ∧ (∀ j, j < fsi p n → p j = false) ∧ (fsi p n < n → p (fsi p n) = true) := by
  induction n with
  | zero => exact ⟨by unfold fsi; omega, fun j hj => by unfold fsi at hj; omega, fun q => by omega⟩
  | succ n ih =>
    obtain ⟨i1, i2, i3⟩ := ih
    unfold fsi
    by_cases c : fsi p n < n
    · rw [if_pos c]; exact ⟨by omega, i2, fun _ => i3 c⟩
    · rw [if_neg c]
      have e : fsi p n = n := by omega
      rw [e] at i2
      by_cases d : p n = true
      · rw [if_pos d]; exact ⟨by omega, i2, fun _ => d⟩
      · rw [if_neg d]
        refine ⟨by omega, fun j hj => ?_, fun q => by omega⟩
        by_cases ej : j = n
        · rw [ej]; cases h : p n with
          | true => exact absurd h d
          | false => rfl
        · exact i2 j (by omega)
def w_sin (a : Ab) (z : Int) : Nat := fsi (fun i => decide (hgt (qL a) (sfn (qL a) (qS a) i) z < 0)) 21
def v_sin (a : Ab) (z : Int) : Int := if inr z (qL a 1 0) then (if w_sin a z < 21 then (w_sin a z : Int) else -2) else -1
theorem c_sin {a : Ab} {t : Nat} {h : Hp} {z : Int} (HA : AW a) (H : CI a t h) (hz : rng z) : Cq (F_cs_sinks 0 (J z) h) h (v_sin a z) (t_p (inr z (qL a 1 0))) := by
  have k := XS_k (XV_x H.1)
  have b1 := LW_h HA.1
  have W := HA.2.1.1
  unfold v_sin t_p
  by_cases c : inr z (qL a 1 0)
  · rw [if_pos c, if_pos c]
    have H1 := CI_w (v := 0) (by omega) H
    have o := XV_o H1.1
    have X1 := XV_x H1.1
    have k1 := XS_k X1; have r5 := XS_r5 X1; have r4 := XS_r4 X1
    obtain ⟨h1, e1, f1, S1⟩ := C_copyFrom (S := qS a) HA.1 (XV_s47 H1.1) (XV_s44 H1.1) H1.2.2.1 (by omega) (by omega) (by omega)
    obtain ⟨m1, m2, m3⟩ := fsi_p (fun i => decide (hgt (qL a) (sfn (qL a) (qS a) i) z < 0)) 21
    have wl : w_sin a z ≤ 21 := m1
    have stp : ∀ (i : Nat) (h2 : Hp), Sc (wF h 0 12 0) h2 → fi h2 0 12 = 0 → SR (qL a) 47 (sfn (qL a) (qS a) i) h2 → ∃ h3, F_ra_measure 50 t 47 h2 = some h3 ∧ Sc (wF h 0 12 0) h3 ∧ fi h3 0 12 = 0 ∧ SR (qL a) 47 (sfn (qL a) (qS a) i) h3 ∧ ia h3 53 z = hgt (qL a) (sfn (qL a) (qS a) i) z := by
      intro i h2 s2 g2 S2
      have V2 := XV_fm s2.1 (by omega) H1.1
      have Wi := sfn_sw HA.1 (by omega) W i
      obtain ⟨h3, e3, f3, g3⟩ := C_measure HA.1 (XV_c V2) (XV_r50 V2) (XV_ts V2) (sc_TR s2 o H1.2.1) (XV_s47 V2) S2 Wi.2.2.1 Wi.1 (by omega) Wi.2.2.2.1 Wi.2.2.2.2.1 (by omega) (by omega) (by omega)
      exact ⟨h3, e3, sc_tr s2 (sc_fm f3 (by omega)), by rw [fm_fi f3 (by omega)]; exact g2, SR_fm f3 (by omega) S2, RM_ia g3 c.1 c.2⟩
    obtain ⟨y, h2, e2, q2⟩ := lp_for (b := B_cs_sinks_28 0 (J z)) (f := FU) (s := J 0) (h := h1) (fun i s h' => s = J i ∧ Sc (wF h 0 12 0) h' ∧ fi h' 0 12 = 0 ∧ SR (qL a) 47 (sfn (qL a) (qS a) i) h') (fun y h' => y = (if w_sin a z < 21 then Sum.inr (J (w_sin a z : Nat)) else Sum.inl ()) ∧ Sc (wF h 0 12 0) h' ∧ fi h' 0 12 = 0) (w_sin a z) (by unfold w_sin FU; omega) ⟨rfl, sc_fm f1 (by omega), by rw [fm_fi f1 (by omega)]; exact fi12 h (by omega), S1⟩ (fun i s h2 hi hI => by
        obtain ⟨rfl, s2, g2, S2⟩ := hI
        have hi' : i < 21 := by unfold w_sin at hi; omega
        obtain ⟨h3, e3, s3, g3, S3, v3⟩ := stp i h2 s2 g2 S2
        have V2 := XV_fm s2.1 (by omega) H1.1
        have X2 := XV_x V2
        have V3 := XV_fm s3.1 (by omega) H1.1
        have X3 := XV_x V3
        have R3 := XV_r50 V3
        have kk := XS_k X2; have r6 := XS_r6 X2; have rt := XV_t V2; have r52 := XS_r5 X2; have kk3 := XS_k X3; have r63 := XS_r6 X3; have r53 := XS_r5 X3; have rk := RS_k R3; have rr := RS_r3 R3; have rk3 := RS_k3 R3; have rn3 := RS_n3 R3
        have Wi := sfn_sw HA.1 (by omega) W i
        have hb := hgt_b HA.1 (sw_stk (by omega) Wi) c.1 c.2
        have nn : ¬ hgt (qL a) (sfn (qL a) (qS a) i) z < 0 := of_decide_eq_false (m2 i hi)
        obtain ⟨h4, e4, f4, S4⟩ := C_softenL HA.1 Wi (XV_s47 V3) S3 (by omega)
        refine ⟨J (i + 1), h4, ?_, rfl, sc_tr s3 (sc_fm f4 (by omega)), by rw [fm_fi f4 (by omega)]; exact g3, S4⟩
        unfold B_cs_sinks_28
        simp (disch := first | with_reducible assumption | omega | trivial) only [bn_s1, bd_s1, ei_l1, ei_r1, gI_J, gL_J, gR_J, aI_J, aL_J, sI_J, sL_J, pI_J, pL_J, J_add, J_sub, J_mul, J_neg, J_lt, J_le, J_eq, dv_J, rm_J, if_pos, if_neg, ↓reduceIte, bitJ, shlJ, orJ, j_0, j_1, j_2, j_3, j_4, j_5, j_6, j_7, j_8, j_9, j_10, j_11, j_12, j_13, j_14, j_15, j_16, j_17, j_18, j_19, j_20, j_21, j_22, j_23, j_24, j_25, j_26, j_27, j_28, j_29, j_30, j_31, j_32, j_33, j_34, j_35, j_36, j_37, j_38, j_39, j_40, j_41, j_42, j_43, j_44, j_45, j_46, j_47, j_48, j_49, j_50, j_51, j_52, j_57, j_59, j_63, j_74, j_75, j_93, j_97, j_99, j_100, j_122, j_200, j_255, j_300, j_465, j_496, j_900, j_999, j_1000, j_65536, j_65537, j_99999, j_252645135, j_858993459, j_1431655765, k_0, k_1, k_27, k_32, k_74, k_75, k_100, k_1000, k_65537, r6, rt, r52, e3, r63, rr, v3, r53, e4]) (fun s h2 hI => by
        obtain ⟨rfl, s2, g2, S2⟩ := hI
        by_cases cm : w_sin a z < 21
        · obtain ⟨h3, e3, s3, g3, S3, v3⟩ := stp _ h2 s2 g2 S2
          have V2 := XV_fm s2.1 (by omega) H1.1
          have X2 := XV_x V2
          have V3 := XV_fm s3.1 (by omega) H1.1
          have X3 := XV_x V3
          have R3 := XV_r50 V3
          have kk := XS_k X2; have r6 := XS_r6 X2; have rt := XV_t V2; have r52 := XS_r5 X2; have kk3 := XS_k X3; have r63 := XS_r6 X3; have r53 := XS_r5 X3; have rk := RS_k R3; have rr := RS_r3 R3; have rk3 := RS_k3 R3; have rn3 := RS_n3 R3
          have Wi := sfn_sw HA.1 (by omega) W (w_sin a z)
          have hb := hgt_b HA.1 (sw_stk (by omega) Wi) c.1 c.2
          have yy : hgt (qL a) (sfn (qL a) (qS a) (w_sin a z)) z < 0 := of_decide_eq_true (m3 cm)
          refine ⟨_, h3, ?_, (if_pos cm).symm, s3, g3⟩
          unfold B_cs_sinks_28
          simp (disch := first | with_reducible assumption | omega | trivial) only [bn_s1, bd_s1, ei_l1, ei_r1, gI_J, gL_J, gR_J, aI_J, aL_J, sI_J, sL_J, pI_J, pL_J, J_add, J_sub, J_mul, J_neg, J_lt, J_le, J_eq, dv_J, rm_J, if_pos, if_neg, ↓reduceIte, bitJ, shlJ, orJ, j_0, j_1, j_2, j_3, j_4, j_5, j_6, j_7, j_8, j_9, j_10, j_11, j_12, j_13, j_14, j_15, j_16, j_17, j_18, j_19, j_20, j_21, j_22, j_23, j_24, j_25, j_26, j_27, j_28, j_29, j_30, j_31, j_32, j_33, j_34, j_35, j_36, j_37, j_38, j_39, j_40, j_41, j_42, j_43, j_44, j_45, j_46, j_47, j_48, j_49, j_50, j_51, j_52, j_57, j_59, j_63, j_74, j_75, j_93, j_97, j_99, j_100, j_122, j_200, j_255, j_300, j_465, j_496, j_900, j_999, j_1000, j_65536, j_65537, j_99999, j_252645135, j_858993459, j_1431655765, k_0, k_1, k_27, k_32, k_74, k_75, k_100, k_1000, k_65537, r6, rt, r52, e3, r63, rr, v3]
        · refine ⟨_, h2, ?_, (if_neg cm).symm, s2, g2⟩
          unfold B_cs_sinks_28
          simp (disch := first | with_reducible assumption | omega | trivial) only [bn_s1, bd_s1, ei_l1, ei_r1, gI_J, gL_J, gR_J, aI_J, aL_J, sI_J, sL_J, pI_J, pL_J, J_add, J_sub, J_mul, J_neg, J_lt, J_le, J_eq, dv_J, rm_J, if_pos, if_neg, ↓reduceIte, bitJ, shlJ, orJ, j_0, j_1, j_2, j_3, j_4, j_5, j_6, j_7, j_8, j_9, j_10, j_11, j_12, j_13, j_14, j_15, j_16, j_17, j_18, j_19, j_20, j_21, j_22, j_23, j_24, j_25, j_26, j_27, j_28, j_29, j_30, j_31, j_32, j_33, j_34, j_35, j_36, j_37, j_38, j_39, j_40, j_41, j_42, j_43, j_44, j_45, j_46, j_47, j_48, j_49, j_50, j_51, j_52, j_57, j_59, j_63, j_74, j_75, j_93, j_97, j_99, j_100, j_122, j_200, j_255, j_300, j_465, j_496, j_900, j_999, j_1000, j_65536, j_65537, j_99999, j_252645135, j_858993459, j_1431655765, k_0, k_1, k_27, k_32, k_74, k_75, k_100, k_1000, k_65537])
    refine ⟨h2, ?_, sc_tr (sc_w h 0) q2.2.1, q2.2.2⟩
    unfold F_cs_sinks
    rw [ck_e k]
    by_cases cm : w_sin a z < 21
    · rw [if_pos cm] at q2 ⊢
      simp (disch := first | with_reducible assumption | omega | trivial) only [bn_s1, bd_s1, ei_l1, ei_r1, gI_J, gL_J, gR_J, aI_J, aL_J, sI_J, sL_J, pI_J, pL_J, J_add, J_sub, J_mul, J_neg, J_lt, J_le, J_eq, dv_J, rm_J, if_pos, if_neg, ↓reduceIte, bitJ, shlJ, orJ, j_0, j_1, j_2, j_3, j_4, j_5, j_6, j_7, j_8, j_9, j_10, j_11, j_12, j_13, j_14, j_15, j_16, j_17, j_18, j_19, j_20, j_21, j_22, j_23, j_24, j_25, j_26, j_27, j_28, j_29, j_30, j_31, j_32, j_33, j_34, j_35, j_36, j_37, j_38, j_39, j_40, j_41, j_42, j_43, j_44, j_45, j_46, j_47, j_48, j_49, j_50, j_51, j_52, j_57, j_59, j_63, j_74, j_75, j_93, j_97, j_99, j_100, j_122, j_200, j_255, j_300, j_465, j_496, j_900, j_999, j_1000, j_65536, j_65537, j_99999, j_252645135, j_858993459, j_1431655765, k_0, k_1, k_27, k_32, k_74, k_75, k_100, k_1000, k_65537, n1_0 HA H hz c, ref_0 k, r5, r4, e1, e2, q2.1]
    · rw [if_neg cm] at q2 ⊢
      simp (disch := first | with_reducible assumption | omega | trivial) only [bn_s1, bd_s1, ei_l1, ei_r1, gI_J, gL_J, gR_J, aI_J, aL_J, sI_J, sL_J, pI_J, pL_J, J_add, J_sub, J_mul, J_neg, J_lt, J_le, J_eq, dv_J, rm_J, if_pos, if_neg, ↓reduceIte, bitJ, shlJ, orJ, j_0, j_1, j_2, j_3, j_4, j_5, j_6, j_7, j_8, j_9, j_10, j_11, j_12, j_13, j_14, j_15, j_16, j_17, j_18, j_19, j_20, j_21, j_22, j_23, j_24, j_25, j_26, j_27, j_28, j_29, j_30, j_31, j_32, j_33, j_34, j_35, j_36, j_37, j_38, j_39, j_40, j_41, j_42, j_43, j_44, j_45, j_46, j_47, j_48, j_49, j_50, j_51, j_52, j_57, j_59, j_63, j_74, j_75, j_93, j_97, j_99, j_100, j_122, j_200, j_255, j_300, j_465, j_496, j_900, j_999, j_1000, j_65536, j_65537, j_99999, j_252645135, j_858993459, j_1431655765, k_0, k_1, k_27, k_32, k_74, k_75, k_100, k_1000, k_65537, n1_0 HA H hz c, ref_0 k, r5, r4, e1, e2, q2.1]
  · rw [if_neg c, if_neg c]
    refine ⟨wF h 0 12 1, ?_, sc_w h 1, fi12 h (by omega)⟩
    unfold F_cs_sinks
    rw [ck_e k]
    simp (disch := first | with_reducible assumption | omega | trivial) only [bn_s1, bd_s1, ei_l1, ei_r1, gI_J, gL_J, gR_J, aI_J, aL_J, sI_J, sL_J, pI_J, pL_J, J_add, J_sub, J_mul, J_neg, J_lt, J_le, J_eq, dv_J, rm_J, if_pos, if_neg, ↓reduceIte, bitJ, shlJ, orJ, j_0, j_1, j_2, j_3, j_4, j_5, j_6, j_7, j_8, j_9, j_10, j_11, j_12, j_13, j_14, j_15, j_16, j_17, j_18, j_19, j_20, j_21, j_22, j_23, j_24, j_25, j_26, j_27, j_28, j_29, j_30, j_31, j_32, j_33, j_34, j_35, j_36, j_37, j_38, j_39, j_40, j_41, j_42, j_43, j_44, j_45, j_46, j_47, j_48, j_49, j_50, j_51, j_52, j_57, j_59, j_63, j_74, j_75, j_93, j_97, j_99, j_100, j_122, j_200, j_255, j_300, j_465, j_496, j_900, j_999, j_1000, j_65536, j_65537, j_99999, j_252645135, j_858993459, j_1431655765, k_0, k_1, k_27, k_32, k_74, k_75, k_100, k_1000, k_65537, n1_1 HA H hz c, ref_1 k]
theorem d_sin {a : Ab} {h : Hp} {z : Int} (HA : AW a) (H : RI a h) (hz : rng z) : Dq (F_md_sinks 88 (J z) h) h (v_sin a z) (t_p (inr z (qL a 1 0))) := by
  have k := MS_k H.1
  have H1 := RI_0 H
  have k1 := MS_k H1.1
  have b1 := LW_h HA.1
  have W := HA.2.1.1
  unfold v_sin t_p
  by_cases c : inr z (qL a 1 0)
  · rw [if_pos c, if_pos c]
    obtain ⟨b, C1⟩ := lk_1 H1 (by omega)
    obtain ⟨h2, e2, q2, x2, s2⟩ := wrk HA H1
    obtain ⟨m1, m2, m3⟩ := fsi_p (fun i => decide (hgt (qL a) (sfn (qL a) (qS a) i) z < 0)) 21
    have wl : w_sin a z ≤ 21 := m1
    have ez' : ((z.toNat : Nat) : Int) = z := by omega
    obtain ⟨y, h3, e3, q3⟩ := lp_for (b := B_md_sinks_25 88 (J z)) (f := FU) (s := J 0) (h := h2) (fun i s h' => s = J i ∧ Qr (wF h 88 0 0) h' ∧ XR (sfn (qL a) (qS a) i) h') (fun y h' => (w_sin a z < 21 → (y = Sum.inr (J (w_sin a z : Nat)) ∧ Qr (wF h 88 0 0) h' ∧ fi h' 88 1 = 0 ∧ fi h' 88 2 = -1)) ∧ (¬ w_sin a z < 21 → (y = Sum.inl () ∧ Qr (wF h 88 0 0) h'))) (w_sin a z) (by unfold w_sin FU; omega) ⟨rfl, q2, x2⟩ (fun i s h3 hi hI => by
        obtain ⟨rfl, q3, x3⟩ := hI
        have hi' : i < 21 := by unfold w_sin at hi; omega
        have C3 := RC_qr q3 C1
        have Wi := sfn_sw HA.1 (by omega) W i
        have eh := D_heightOf HA.1 C3 x3 (sw_stk (by omega) Wi) (z := z.toNat) (by omega)
        rw [ez'] at eh
        have hb := hgt_b HA.1 (sw_stk (by omega) Wi) c.1 c.2
        have nn : ¬ hgt (qL a) (sfn (qL a) (qS a) i) z < 0 := of_decide_eq_false (m2 i hi)
        obtain ⟨h4, e4, f4, x4⟩ := D_softens HA.1 C3 x3
        refine ⟨J (i + 1), h4, ?_, rfl, qr_tr q3 (qr_91 f4), x4⟩
        unfold B_md_sinks_25
        simp (disch := first | with_reducible assumption | omega | trivial) only [bn_s1, bd_s1, ei_l1, ei_r1, gI_J, gL_J, gR_J, aI_J, aL_J, sI_J, sL_J, pI_J, pL_J, J_add, J_sub, J_mul, J_neg, J_lt, J_le, J_eq, dv_J, rm_J, if_pos, if_neg, ↓reduceIte, bitJ, shlJ, orJ, j_0, j_1, j_2, j_3, j_4, j_5, j_6, j_7, j_8, j_9, j_10, j_11, j_12, j_13, j_14, j_15, j_16, j_17, j_18, j_19, j_20, j_21, j_22, j_23, j_24, j_25, j_26, j_27, j_28, j_29, j_30, j_31, j_32, j_33, j_34, j_35, j_36, j_37, j_38, j_39, j_40, j_41, j_42, j_43, j_44, j_45, j_46, j_47, j_48, j_49, j_50, j_51, j_52, j_57, j_59, j_63, j_74, j_75, j_93, j_97, j_99, j_100, j_122, j_200, j_255, j_300, j_465, j_496, j_900, j_999, j_1000, j_65536, j_65537, j_99999, j_252645135, j_858993459, j_1431655765, k_0, k_1, k_27, k_32, k_74, k_75, k_100, k_1000, k_65537, eh, e4]) (fun s h3 hI => by
        obtain ⟨rfl, q3, x3⟩ := hI
        by_cases cm : w_sin a z < 21
        · have C3 := RC_qr q3 C1
          have Wi := sfn_sw HA.1 (by omega) W (w_sin a z)
          have eh := D_heightOf HA.1 C3 x3 (sw_stk (by omega) Wi) (z := z.toNat) (by omega)
          rw [ez'] at eh
          have hb := hgt_b HA.1 (sw_stk (by omega) Wi) c.1 c.2
          have yy : hgt (qL a) (sfn (qL a) (qS a) (w_sin a z)) z < 0 := of_decide_eq_true (m3 cm)
          obtain ⟨h4, e4, q4, f4⟩ := good_e (h := h3) (v := (w_sin a z : Nat)) C3.1
          refine ⟨Sum.inr (J (w_sin a z : Nat)), h4, ?_, ?_⟩
          · unfold B_md_sinks_25
            simp (disch := first | with_reducible assumption | omega | trivial) only [bn_s1, bd_s1, ei_l1, ei_r1, gI_J, gL_J, gR_J, aI_J, aL_J, sI_J, sL_J, pI_J, pL_J, J_add, J_sub, J_mul, J_neg, J_lt, J_le, J_eq, dv_J, rm_J, if_pos, if_neg, ↓reduceIte, bitJ, shlJ, orJ, j_0, j_1, j_2, j_3, j_4, j_5, j_6, j_7, j_8, j_9, j_10, j_11, j_12, j_13, j_14, j_15, j_16, j_17, j_18, j_19, j_20, j_21, j_22, j_23, j_24, j_25, j_26, j_27, j_28, j_29, j_30, j_31, j_32, j_33, j_34, j_35, j_36, j_37, j_38, j_39, j_40, j_41, j_42, j_43, j_44, j_45, j_46, j_47, j_48, j_49, j_50, j_51, j_52, j_57, j_59, j_63, j_74, j_75, j_93, j_97, j_99, j_100, j_122, j_200, j_255, j_300, j_465, j_496, j_900, j_999, j_1000, j_65536, j_65537, j_99999, j_252645135, j_858993459, j_1431655765, k_0, k_1, k_27, k_32, k_74, k_75, k_100, k_1000, k_65537, eh, e4]
          · exact ⟨fun _ => ⟨rfl, qr_tr q3 q4, f4⟩, fun x => absurd cm x⟩
        · refine ⟨Sum.inl (), h3, ?_, ?_⟩
          · unfold B_md_sinks_25
            simp (disch := first | with_reducible assumption | omega | trivial) only [bn_s1, bd_s1, ei_l1, ei_r1, gI_J, gL_J, gR_J, aI_J, aL_J, sI_J, sL_J, pI_J, pL_J, J_add, J_sub, J_mul, J_neg, J_lt, J_le, J_eq, dv_J, rm_J, if_pos, if_neg, ↓reduceIte, bitJ, shlJ, orJ, j_0, j_1, j_2, j_3, j_4, j_5, j_6, j_7, j_8, j_9, j_10, j_11, j_12, j_13, j_14, j_15, j_16, j_17, j_18, j_19, j_20, j_21, j_22, j_23, j_24, j_25, j_26, j_27, j_28, j_29, j_30, j_31, j_32, j_33, j_34, j_35, j_36, j_37, j_38, j_39, j_40, j_41, j_42, j_43, j_44, j_45, j_46, j_47, j_48, j_49, j_50, j_51, j_52, j_57, j_59, j_63, j_74, j_75, j_93, j_97, j_99, j_100, j_122, j_200, j_255, j_300, j_465, j_496, j_900, j_999, j_1000, j_65536, j_65537, j_99999, j_252645135, j_858993459, j_1431655765, k_0, k_1, k_27, k_32, k_74, k_75, k_100, k_1000, k_65537]
          · exact ⟨fun x => absurd x cm, fun _ => ⟨rfl, q3⟩⟩)
    by_cases cm : w_sin a z < 21
    · rw [if_pos cm]
      replace q3 := q3.1 cm
      refine ⟨h3, ?_, qr_tr (q00 h) q3.2.1, q3.2.2⟩
      unfold F_md_sinks
      rw [ck_e k]
      simp (disch := first | with_reducible assumption | omega | trivial) only [bn_s1, bd_s1, ei_l1, ei_r1, gI_J, gL_J, gR_J, aI_J, aL_J, sI_J, sL_J, pI_J, pL_J, J_add, J_sub, J_mul, J_neg, J_lt, J_le, J_eq, dv_J, rm_J, if_pos, if_neg, ↓reduceIte, bitJ, shlJ, orJ, j_0, j_1, j_2, j_3, j_4, j_5, j_6, j_7, j_8, j_9, j_10, j_11, j_12, j_13, j_14, j_15, j_16, j_17, j_18, j_19, j_20, j_21, j_22, j_23, j_24, j_25, j_26, j_27, j_28, j_29, j_30, j_31, j_32, j_33, j_34, j_35, j_36, j_37, j_38, j_39, j_40, j_41, j_42, j_43, j_44, j_45, j_46, j_47, j_48, j_49, j_50, j_51, j_52, j_57, j_59, j_63, j_74, j_75, j_93, j_97, j_99, j_100, j_122, j_200, j_255, j_300, j_465, j_496, j_900, j_999, j_1000, j_65536, j_65537, j_99999, j_252645135, j_858993459, j_1431655765, k_0, k_1, k_27, k_32, k_74, k_75, k_100, k_1000, k_65537, im1_1 HA H1 hz c, e2, e3, q3.1]
    · rw [if_neg cm]
      replace q3 := q3.2 cm
      obtain ⟨h4, e4, q4, f4⟩ := good_e (h := h3) (v := -2) (MS_fm q3.2.1 H1.1)
      refine ⟨h4, ?_, qr_tr (q00 h) (qr_tr q3.2 q4), f4⟩
      unfold F_md_sinks
      rw [ck_e k]
      simp (disch := first | with_reducible assumption | omega | trivial) only [bn_s1, bd_s1, ei_l1, ei_r1, gI_J, gL_J, gR_J, aI_J, aL_J, sI_J, sL_J, pI_J, pL_J, J_add, J_sub, J_mul, J_neg, J_lt, J_le, J_eq, dv_J, rm_J, if_pos, if_neg, ↓reduceIte, bitJ, shlJ, orJ, j_0, j_1, j_2, j_3, j_4, j_5, j_6, j_7, j_8, j_9, j_10, j_11, j_12, j_13, j_14, j_15, j_16, j_17, j_18, j_19, j_20, j_21, j_22, j_23, j_24, j_25, j_26, j_27, j_28, j_29, j_30, j_31, j_32, j_33, j_34, j_35, j_36, j_37, j_38, j_39, j_40, j_41, j_42, j_43, j_44, j_45, j_46, j_47, j_48, j_49, j_50, j_51, j_52, j_57, j_59, j_63, j_74, j_75, j_93, j_97, j_99, j_100, j_122, j_200, j_255, j_300, j_465, j_496, j_900, j_999, j_1000, j_65536, j_65537, j_99999, j_252645135, j_858993459, j_1431655765, k_0, k_1, k_27, k_32, k_74, k_75, k_100, k_1000, k_65537, im1_1 HA H1 hz c, e2, e3, q3.1, e4]
  · rw [if_neg c, if_neg c]
    obtain ⟨h2, e2, q2, f2⟩ := ref_e (y := 1) H1.1 (by omega)
    refine ⟨h2, ?_, qr_tr (q00 h) q2, f2⟩
    unfold F_md_sinks
    rw [ck_e k]
    simp (disch := first | with_reducible assumption | omega | trivial) only [bn_s1, bd_s1, ei_l1, ei_r1, gI_J, gL_J, gR_J, aI_J, aL_J, sI_J, sL_J, pI_J, pL_J, J_add, J_sub, J_mul, J_neg, J_lt, J_le, J_eq, dv_J, rm_J, if_pos, if_neg, ↓reduceIte, bitJ, shlJ, orJ, j_0, j_1, j_2, j_3, j_4, j_5, j_6, j_7, j_8, j_9, j_10, j_11, j_12, j_13, j_14, j_15, j_16, j_17, j_18, j_19, j_20, j_21, j_22, j_23, j_24, j_25, j_26, j_27, j_28, j_29, j_30, j_31, j_32, j_33, j_34, j_35, j_36, j_37, j_38, j_39, j_40, j_41, j_42, j_43, j_44, j_45, j_46, j_47, j_48, j_49, j_50, j_51, j_52, j_57, j_59, j_63, j_74, j_75, j_93, j_97, j_99, j_100, j_122, j_200, j_255, j_300, j_465, j_496, j_900, j_999, j_1000, j_65536, j_65537, j_99999, j_252645135, j_858993459, j_1431655765, k_0, k_1, k_27, k_32, k_74, k_75, k_100, k_1000, k_65537, im1_0 HA H1 hz c, e2]
