/-! tilt; weeks to come -/
def v_til (a : Ab) (z : Int) : Int := if inr z (qL a 1 0) then mxt (net (qL a) (qS a)) (raft (qL a) (qS a 28).toNat z) (net (qL a) (qS a) z) (hn (qL a)) - mnt (net (qL a) (qS a)) (raft (qL a) (qS a 28).toNat z) (net (qL a) (qS a) z) (hn (qL a)) else -1
theorem nob {a : Ab} (HA : AW a) : OB (qL a) (net (qL a) (qS a)) := net_ob HA.1 HA.2.1.1.1 (by omega)
theorem c_til {a : Ab} {t : Nat} {h : Hp} {z : Int} (HA : AW a) (H : CI a t h) (hz : rng z) : Cq (F_cs_tilt 0 (J z) h) h (v_til a z) (t_p (inr z (qL a 1 0))) := by
  have k := XS_k (XV_x H.1)
  unfold v_til t_p
  by_cases c : inr z (qL a 1 0)
  · rw [if_pos c, if_pos c]
    have H1 := CI_w (v := 0) (by omega) H
    obtain ⟨h1, e1, s1, g1, m1⟩ := C_meas (AW_w (v := 0) (by omega) HA) H1
    have X1 := XV_x H1.1
    have X2 := XS_fm s1.1 X1
    have k1 := XS_k X1; have r6 := XS_r6 X1; have rt := XV_t H1.1; have r4 := XS_r4 X1; have k2 := XS_k X2; have r6' := XS_r6 X2
    have eu := C_tiltOf HA.1 (RS_fm s1.1 (XV_r50 H1.1)) m1.1 m1.2.2.1 m1.2.1 (nob HA) c.1 c.2
    refine ⟨h1, ?_, sc_tr (sc_w h 0) s1, by rw [g1]; exact fi12 h (by omega)⟩
    unfold F_cs_tilt
    rw [ck_e k]
    simp (disch := first | with_reducible assumption | omega | trivial) only [bn_s1, bd_s1, ei_l1, ei_r1, gI_J, gL_J, gR_J, aI_J, aL_J, sI_J, sL_J, pI_J, pL_J, J_add, J_sub, J_mul, J_neg, J_lt, J_le, J_eq, dv_J, rm_J, if_pos, if_neg, ↓reduceIte, bitJ, shlJ, orJ, j_0, j_1, j_2, j_3, j_4, j_5, j_6, j_7, j_8, j_9, j_10, j_11, j_12, j_13, j_14, j_15, j_16, j_17, j_18, j_19, j_20, j_21, j_22, j_23, j_24, j_25, j_26, j_27, j_28, j_29, j_30, j_31, j_32, j_33, j_34, j_35, j_36, j_37, j_38, j_39, j_40, j_41, j_42, j_43, j_44, j_45, j_46, j_47, j_48, j_49, j_50, j_51, j_52, j_57, j_59, j_63, j_74, j_75, j_93, j_97, j_99, j_100, j_122, j_200, j_255, j_300, j_465, j_496, j_900, j_999, j_1000, j_65536, j_65537, j_99999, j_252645135, j_858993459, j_1431655765, k_0, k_1, k_27, k_32, k_74, k_75, k_100, k_1000, k_65537, n1_0 HA H hz c, ref_0 k, r6, rt, r4, e1, r6', eu]
    rfl
  · rw [if_neg c, if_neg c]
    refine ⟨wF h 0 12 1, ?_, sc_w h 1, fi12 h (by omega)⟩
    unfold F_cs_tilt
    rw [ck_e k]
    simp (disch := first | with_reducible assumption | omega | trivial) only [bn_s1, bd_s1, ei_l1, ei_r1, gI_J, gL_J, gR_J, aI_J, aL_J, sI_J, sL_J, pI_J, pL_J, J_add, J_sub, J_mul, J_neg, J_lt, J_le, J_eq, dv_J, rm_J, if_pos, if_neg, ↓reduceIte, bitJ, shlJ, orJ, j_0, j_1, j_2, j_3, j_4, j_5, j_6, j_7, j_8, j_9, j_10, j_11, j_12, j_13, j_14, j_15, j_16, j_17, j_18, j_19, j_20, j_21, j_22, j_23, j_24, j_25, j_26, j_27, j_28, j_29, j_30, j_31, j_32, j_33, j_34, j_35, j_36, j_37, j_38, j_39, j_40, j_41, j_42, j_43, j_44, j_45, j_46, j_47, j_48, j_49, j_50, j_51, j_52, j_57, j_59, j_63, j_74, j_75, j_93, j_97, j_99, j_100, j_122, j_200, j_255, j_300, j_465, j_496, j_900, j_999, j_1000, j_65536, j_65537, j_99999, j_252645135, j_858993459, j_1431655765, k_0, k_1, k_27, k_32, k_74, k_75, k_100, k_1000, k_65537, n1_1 HA H hz c, ref_1 k]
theorem d_til {a : Ab} {h : Hp} {z : Int} (HA : AW a) (H : RI a h) (hz : rng z) : Dq (F_md_tilt 88 (J z) h) h (v_til a z) (t_p (inr z (qL a 1 0))) := by
  have k := MS_k H.1
  have H1 := RI_0 H
  have k1 := MS_k H1.1
  unfold v_til t_p
  by_cases c : inr z (qL a 1 0)
  · rw [if_pos c, if_pos c]
    have b1 := LW_h HA.1
    have hne := hn_e HA.1
    obtain ⟨b, C1⟩ := lk_1 H1 (by omega)
    obtain ⟨h2, e2, q2, x2, s2⟩ := wrk HA H1
    have C2 := RC_qr q2 C1
    have rb := C2.2.1
    have yk := YS_k C2.2.2.1
    have ch := C2.2.2.2.1.1.2.1
    have k2 := MS_k C2.1
    have ez : ((z.toNat : Nat) : Int) = z := by omega
    have er := D_raftOf HA.1 C2 x2 s2.2.1 s2.2.2.1 (z := z.toNat) (by omega)
    rw [ez] at er
    have en := D_netOf HA.1 C2 x2 s2.1 c.1 c.2
    have hp := raft_p HA.1 (qS a 28).toNat c.1 c.2
    have oz := nob HA z c.1 c.2
    obtain ⟨o, ho⟩ : ∃ o, o = net (qL a) (qS a) := ⟨_, rfl⟩
    obtain ⟨x, hx⟩ : ∃ x, x = raft (qL a) (qS a 28).toNat z := ⟨_, rfl⟩
    have OBo := nob HA
    rw [← hx] at er hp ⊢
    rw [← ho] at en oz OBo ⊢
    have el := lq_for (b := B_md_tilt_45 88 (J x) h2) (r := (J (mxt o x (o z) (hn (qL a))), J (mnt o x (o z) (hn (qL a))))) (f := FU) (s := (J (o z), J (o z), J 0)) (fun i => (J (mxt o x (o z) i), J (mnt o x (o z) i), J i)) (hn (qL a)) (by unfold FU; omega) rfl (fun i hi => by
      have bb := mxt_b OBo x oz.1 oz.2 (n := i) (by omega)
      have oi := OBo i (by omega) (by omega)
      have eni := D_netOf HA.1 C2 x2 s2.1 (z := i) (by omega) (by omega)
      rw [← ho] at eni
      have bc := bit_e (n := x) (z := i) hp.2.1 (by omega) (by omega)
      rw [Int.toNat_natCast] at bc
      have e6 : mxt o x (o z) (i + 1) = if x.testBit i = true then max (mxt o x (o z) i) (o i) else mxt o x (o z) i := rfl
      have e7 : mnt o x (o z) (i + 1) = if x.testBit i = true then min (mnt o x (o z) i) (o i) else mnt o x (o z) i := rfl
      unfold B_md_tilt_45
      by_cases cb : x.testBit i = true
      · rw [if_pos cb] at e6 e7 bc
        by_cases c1 : mxt o x (o z) i < o i
        · have m1 : max (mxt o x (o z) i) (o i) = o i := by omega
          rw [m1] at e6
          by_cases c2 : o i < mnt o x (o z) i
          · have m2 : min (mnt o x (o z) i) (o i) = o i := by omega
            rw [m2] at e7
            simp (disch := first | with_reducible assumption | omega | trivial) only [bn_s1, bd_s1, ei_l1, ei_r1, gI_J, gL_J, gR_J, aI_J, aL_J, sI_J, sL_J, pI_J, pL_J, J_add, J_sub, J_mul, J_neg, J_lt, J_le, J_eq, dv_J, rm_J, if_pos, if_neg, ↓reduceIte, bitJ, shlJ, orJ, j_0, j_1, j_2, j_3, j_4, j_5, j_6, j_7, j_8, j_9, j_10, j_11, j_12, j_13, j_14, j_15, j_16, j_17, j_18, j_19, j_20, j_21, j_22, j_23, j_24, j_25, j_26, j_27, j_28, j_29, j_30, j_31, j_32, j_33, j_34, j_35, j_36, j_37, j_38, j_39, j_40, j_41, j_42, j_43, j_44, j_45, j_46, j_47, j_48, j_49, j_50, j_51, j_52, j_57, j_59, j_63, j_74, j_75, j_93, j_97, j_99, j_100, j_122, j_200, j_255, j_300, j_465, j_496, j_900, j_999, j_1000, j_65536, j_65537, j_99999, j_252645135, j_858993459, j_1431655765, k_0, k_1, k_27, k_32, k_74, k_75, k_100, k_1000, k_65537, rb, ch, bc, eni, e6, e7]
            rfl
          · have m2 : min (mnt o x (o z) i) (o i) = mnt o x (o z) i := by omega
            rw [m2] at e7
            simp (disch := first | with_reducible assumption | omega | trivial) only [bn_s1, bd_s1, ei_l1, ei_r1, gI_J, gL_J, gR_J, aI_J, aL_J, sI_J, sL_J, pI_J, pL_J, J_add, J_sub, J_mul, J_neg, J_lt, J_le, J_eq, dv_J, rm_J, if_pos, if_neg, ↓reduceIte, bitJ, shlJ, orJ, j_0, j_1, j_2, j_3, j_4, j_5, j_6, j_7, j_8, j_9, j_10, j_11, j_12, j_13, j_14, j_15, j_16, j_17, j_18, j_19, j_20, j_21, j_22, j_23, j_24, j_25, j_26, j_27, j_28, j_29, j_30, j_31, j_32, j_33, j_34, j_35, j_36, j_37, j_38, j_39, j_40, j_41, j_42, j_43, j_44, j_45, j_46, j_47, j_48, j_49, j_50, j_51, j_52, j_57, j_59, j_63, j_74, j_75, j_93, j_97, j_99, j_100, j_122, j_200, j_255, j_300, j_465, j_496, j_900, j_999, j_1000, j_65536, j_65537, j_99999, j_252645135, j_858993459, j_1431655765, k_0, k_1, k_27, k_32, k_74, k_75, k_100, k_1000, k_65537, rb, ch, bc, eni, e6, e7]
            rfl
        · have m1 : max (mxt o x (o z) i) (o i) = mxt o x (o z) i := by omega
          rw [m1] at e6
          by_cases c2 : o i < mnt o x (o z) i
          · have m2 : min (mnt o x (o z) i) (o i) = o i := by omega
            rw [m2] at e7
            simp (disch := first | with_reducible assumption | omega | trivial) only [bn_s1, bd_s1, ei_l1, ei_r1, gI_J, gL_J, gR_J, aI_J, aL_J, sI_J, sL_J, pI_J, pL_J, J_add, J_sub, J_mul, J_neg, J_lt, J_le, J_eq, dv_J, rm_J, if_pos, if_neg, ↓reduceIte, bitJ, shlJ, orJ, j_0, j_1, j_2, j_3, j_4, j_5, j_6, j_7, j_8, j_9, j_10, j_11, j_12, j_13, j_14, j_15, j_16, j_17, j_18, j_19, j_20, j_21, j_22, j_23, j_24, j_25, j_26, j_27, j_28, j_29, j_30, j_31, j_32, j_33, j_34, j_35, j_36, j_37, j_38, j_39, j_40, j_41, j_42, j_43, j_44, j_45, j_46, j_47, j_48, j_49, j_50, j_51, j_52, j_57, j_59, j_63, j_74, j_75, j_93, j_97, j_99, j_100, j_122, j_200, j_255, j_300, j_465, j_496, j_900, j_999, j_1000, j_65536, j_65537, j_99999, j_252645135, j_858993459, j_1431655765, k_0, k_1, k_27, k_32, k_74, k_75, k_100, k_1000, k_65537, rb, ch, bc, eni, e6, e7]
            rfl
          · have m2 : min (mnt o x (o z) i) (o i) = mnt o x (o z) i := by omega
            rw [m2] at e7
            simp (disch := first | with_reducible assumption | omega | trivial) only [bn_s1, bd_s1, ei_l1, ei_r1, gI_J, gL_J, gR_J, aI_J, aL_J, sI_J, sL_J, pI_J, pL_J, J_add, J_sub, J_mul, J_neg, J_lt, J_le, J_eq, dv_J, rm_J, if_pos, if_neg, ↓reduceIte, bitJ, shlJ, orJ, j_0, j_1, j_2, j_3, j_4, j_5, j_6, j_7, j_8, j_9, j_10, j_11, j_12, j_13, j_14, j_15, j_16, j_17, j_18, j_19, j_20, j_21, j_22, j_23, j_24, j_25, j_26, j_27, j_28, j_29, j_30, j_31, j_32, j_33, j_34, j_35, j_36, j_37, j_38, j_39, j_40, j_41, j_42, j_43, j_44, j_45, j_46, j_47, j_48, j_49, j_50, j_51, j_52, j_57, j_59, j_63, j_74, j_75, j_93, j_97, j_99, j_100, j_122, j_200, j_255, j_300, j_465, j_496, j_900, j_999, j_1000, j_65536, j_65537, j_99999, j_252645135, j_858993459, j_1431655765, k_0, k_1, k_27, k_32, k_74, k_75, k_100, k_1000, k_65537, rb, ch, bc, eni, e6, e7]
            rfl
      · rw [if_neg cb] at e6 e7 bc
        simp (disch := first | with_reducible assumption | omega | trivial) only [bn_s1, bd_s1, ei_l1, ei_r1, gI_J, gL_J, gR_J, aI_J, aL_J, sI_J, sL_J, pI_J, pL_J, J_add, J_sub, J_mul, J_neg, J_lt, J_le, J_eq, dv_J, rm_J, if_pos, if_neg, ↓reduceIte, bitJ, shlJ, orJ, j_0, j_1, j_2, j_3, j_4, j_5, j_6, j_7, j_8, j_9, j_10, j_11, j_12, j_13, j_14, j_15, j_16, j_17, j_18, j_19, j_20, j_21, j_22, j_23, j_24, j_25, j_26, j_27, j_28, j_29, j_30, j_31, j_32, j_33, j_34, j_35, j_36, j_37, j_38, j_39, j_40, j_41, j_42, j_43, j_44, j_45, j_46, j_47, j_48, j_49, j_50, j_51, j_52, j_57, j_59, j_63, j_74, j_75, j_93, j_97, j_99, j_100, j_122, j_200, j_255, j_300, j_465, j_496, j_900, j_999, j_1000, j_65536, j_65537, j_99999, j_252645135, j_858993459, j_1431655765, k_0, k_1, k_27, k_32, k_74, k_75, k_100, k_1000, k_65537, rb, ch, bc, e6, e7]
        rfl) (by
      unfold B_md_tilt_45
      simp (disch := first | with_reducible assumption | omega | trivial) only [bn_s1, bd_s1, ei_l1, ei_r1, gI_J, gL_J, gR_J, aI_J, aL_J, sI_J, sL_J, pI_J, pL_J, J_add, J_sub, J_mul, J_neg, J_lt, J_le, J_eq, dv_J, rm_J, if_pos, if_neg, ↓reduceIte, bitJ, shlJ, orJ, j_0, j_1, j_2, j_3, j_4, j_5, j_6, j_7, j_8, j_9, j_10, j_11, j_12, j_13, j_14, j_15, j_16, j_17, j_18, j_19, j_20, j_21, j_22, j_23, j_24, j_25, j_26, j_27, j_28, j_29, j_30, j_31, j_32, j_33, j_34, j_35, j_36, j_37, j_38, j_39, j_40, j_41, j_42, j_43, j_44, j_45, j_46, j_47, j_48, j_49, j_50, j_51, j_52, j_57, j_59, j_63, j_74, j_75, j_93, j_97, j_99, j_100, j_122, j_200, j_255, j_300, j_465, j_496, j_900, j_999, j_1000, j_65536, j_65537, j_99999, j_252645135, j_858993459, j_1431655765, k_0, k_1, k_27, k_32, k_74, k_75, k_100, k_1000, k_65537, rb, ch])
    obtain ⟨h3, e3, q3, f3⟩ := good_e (h := h2) (v := mxt o x (o z) (hn (qL a)) - mnt o x (o z) (hn (qL a))) C2.1
    refine ⟨h3, ?_, qr_tr (q00 h) (qr_tr q2 q3), f3⟩
    unfold F_md_tilt
    rw [ck_e k]
    simp (disch := first | with_reducible assumption | omega | trivial) only [bn_s1, bd_s1, ei_l1, ei_r1, gI_J, gL_J, gR_J, aI_J, aL_J, sI_J, sL_J, pI_J, pL_J, J_add, J_sub, J_mul, J_neg, J_lt, J_le, J_eq, dv_J, rm_J, if_pos, if_neg, ↓reduceIte, bitJ, shlJ, orJ, j_0, j_1, j_2, j_3, j_4, j_5, j_6, j_7, j_8, j_9, j_10, j_11, j_12, j_13, j_14, j_15, j_16, j_17, j_18, j_19, j_20, j_21, j_22, j_23, j_24, j_25, j_26, j_27, j_28, j_29, j_30, j_31, j_32, j_33, j_34, j_35, j_36, j_37, j_38, j_39, j_40, j_41, j_42, j_43, j_44, j_45, j_46, j_47, j_48, j_49, j_50, j_51, j_52, j_57, j_59, j_63, j_74, j_75, j_93, j_97, j_99, j_100, j_122, j_200, j_255, j_300, j_465, j_496, j_900, j_999, j_1000, j_65536, j_65537, j_99999, j_252645135, j_858993459, j_1431655765, k_0, k_1, k_27, k_32, k_74, k_75, k_100, k_1000, k_65537, im1_1 HA H1 hz c, e2, er, en, el, e3]
  · rw [if_neg c, if_neg c]
    obtain ⟨h2, e2, q2, f2⟩ := ref_e (y := 1) H1.1 (by omega)
    refine ⟨h2, ?_, qr_tr (q00 h) q2, f2⟩
    unfold F_md_tilt
    rw [ck_e k]
    simp (disch := first | with_reducible assumption | omega | trivial) only [bn_s1, bd_s1, ei_l1, ei_r1, gI_J, gL_J, gR_J, aI_J, aL_J, sI_J, sL_J, pI_J, pL_J, J_add, J_sub, J_mul, J_neg, J_lt, J_le, J_eq, dv_J, rm_J, if_pos, if_neg, ↓reduceIte, bitJ, shlJ, orJ, j_0, j_1, j_2, j_3, j_4, j_5, j_6, j_7, j_8, j_9, j_10, j_11, j_12, j_13, j_14, j_15, j_16, j_17, j_18, j_19, j_20, j_21, j_22, j_23, j_24, j_25, j_26, j_27, j_28, j_29, j_30, j_31, j_32, j_33, j_34, j_35, j_36, j_37, j_38, j_39, j_40, j_41, j_42, j_43, j_44, j_45, j_46, j_47, j_48, j_49, j_50, j_51, j_52, j_57, j_59, j_63, j_74, j_75, j_93, j_97, j_99, j_100, j_122, j_200, j_255, j_300, j_465, j_496, j_900, j_999, j_1000, j_65536, j_65537, j_99999, j_252645135, j_858993459, j_1431655765, k_0, k_1, k_27, k_32, k_74, k_75, k_100, k_1000, k_65537, im1_0 HA H1 hz c, e2]
/-! measureIn -/
theorem C_measureIn {a : Ab} {t : Nat} {h : Hp} {n : Nat} (HA : AW a) (H : CI a t h) (hn' : n ≤ 20) : ∃ h', F_cs_measureIn 0 (J n) h = some h' ∧ Sc h h' ∧ fi h' 0 12 = fi h 0 12 ∧ RM (qL a) (net (qL a) (sfn (qL a) (qS a) n)) (sfn (qL a) (qS a) n 28).toNat 50 h' := by
  have X := XV_x H.1
  have k := XS_k X; have r5 := XS_r5 X; have r4 := XS_r4 X
  have o := XV_o H.1
  have W := HA.2.1.1
  obtain ⟨h1, e1, f1, S1⟩ := C_copyFrom HA.1 (XV_s47 H.1) (XV_s44 H.1) H.2.2.1 (by omega) (by omega) (by omega)
  obtain ⟨y, h2, e2, f2, S2⟩ := lp_for (b := B_cs_measureIn_13 0 (J n)) (f := FU) (s := J 0) (h := h1) (fun i s h' => s = J i ∧ Fm 47 50 h h' ∧ SR (qL a) 47 (sfn (qL a) (qS a) i) h') (fun _ h' => Fm 47 50 h h' ∧ SR (qL a) 47 (sfn (qL a) (qS a) n) h') n (by unfold FU; omega) ⟨rfl, f1, S1⟩ (fun i s h2 hi hI => by
      obtain ⟨rfl, f2, S2⟩ := hI
      have X2 := XS_fm f2 X
      have k2 := XS_k X2; have r52 := XS_r5 X2
      obtain ⟨h3, e3, f3, S3⟩ := C_softenL HA.1 (sfn_sw HA.1 (by omega) W i) (SS_fm f2 (XV_s47 H.1)) S2 (by omega)
      refine ⟨J (i + 1), h3, ?_, rfl, fm_tr f2 (fm_wd f3 (by omega) (by omega)), S3⟩
      unfold B_cs_measureIn_13
      simp (disch := first | with_reducible assumption | omega | trivial) only [bn_s1, bd_s1, ei_l1, ei_r1, gI_J, gL_J, gR_J, aI_J, aL_J, sI_J, sL_J, pI_J, pL_J, J_add, J_sub, J_mul, J_neg, J_lt, J_le, J_eq, dv_J, rm_J, if_pos, if_neg, ↓reduceIte, bitJ, shlJ, orJ, j_0, j_1, j_2, j_3, j_4, j_5, j_6, j_7, j_8, j_9, j_10, j_11, j_12, j_13, j_14, j_15, j_16, j_17, j_18, j_19, j_20, j_21, j_22, j_23, j_24, j_25, j_26, j_27, j_28, j_29, j_30, j_31, j_32, j_33, j_34, j_35, j_36, j_37, j_38, j_39, j_40, j_41, j_42, j_43, j_44, j_45, j_46, j_47, j_48, j_49, j_50, j_51, j_52, j_57, j_59, j_63, j_74, j_75, j_93, j_97, j_99, j_100, j_122, j_200, j_255, j_300, j_465, j_496, j_900, j_999, j_1000, j_65536, j_65537, j_99999, j_252645135, j_858993459, j_1431655765, k_0, k_1, k_27, k_32, k_74, k_75, k_100, k_1000, k_65537, r52, e3]) (fun s h2 hI => by
      obtain ⟨rfl, f2, S2⟩ := hI
      refine ⟨(), h2, ?_, f2, S2⟩
      unfold B_cs_measureIn_13
      simp (disch := first | with_reducible assumption | omega | trivial) only [bn_s1, bd_s1, ei_l1, ei_r1, gI_J, gL_J, gR_J, aI_J, aL_J, sI_J, sL_J, pI_J, pL_J, J_add, J_sub, J_mul, J_neg, J_lt, J_le, J_eq, dv_J, rm_J, if_pos, if_neg, ↓reduceIte, bitJ, shlJ, orJ, j_0, j_1, j_2, j_3, j_4, j_5, j_6, j_7, j_8, j_9, j_10, j_11, j_12, j_13, j_14, j_15, j_16, j_17, j_18, j_19, j_20, j_21, j_22, j_23, j_24, j_25, j_26, j_27, j_28, j_29, j_30, j_31, j_32, j_33, j_34, j_35, j_36, j_37, j_38, j_39, j_40, j_41, j_42, j_43, j_44, j_45, j_46, j_47, j_48, j_49, j_50, j_51, j_52, j_57, j_59, j_63, j_74, j_75, j_93, j_97, j_99, j_100, j_122, j_200, j_255, j_300, j_465, j_496, j_900, j_999, j_1000, j_65536, j_65537, j_99999, j_252645135, j_858993459, j_1431655765, k_0, k_1, k_27, k_32, k_74, k_75, k_100, k_1000, k_65537])
  have V2 := XV_fm f2 (by omega) H.1
  have X2 := XV_x V2
  have k2 := XS_k X2; have r52 := XS_r5 X2; have r62 := XS_r6 X2; have rt2 := XV_t V2
  have Wn := sfn_sw HA.1 (by omega) W n
  obtain ⟨h3, e3, f3, g3⟩ := C_measure HA.1 (XV_c V2) (XV_r50 V2) (XV_ts V2) (TR_fm f2 (by omega) H.2.1) (XV_s47 V2) S2 Wn.2.2.1 Wn.1 (by omega) Wn.2.2.2.1 Wn.2.2.2.2.1 (by omega) (by omega) (by omega)
  refine ⟨h3, ?_, sc_tr (sc_fm f2 (by omega)) (sc_fm f3 (by omega)), ?_, g3⟩
  · unfold F_cs_measureIn
    rw [ck_e k]
    simp (disch := first | with_reducible assumption | omega | trivial) only [bn_s1, bd_s1, ei_l1, ei_r1, gI_J, gL_J, gR_J, aI_J, aL_J, sI_J, sL_J, pI_J, pL_J, J_add, J_sub, J_mul, J_neg, J_lt, J_le, J_eq, dv_J, rm_J, if_pos, if_neg, ↓reduceIte, bitJ, shlJ, orJ, j_0, j_1, j_2, j_3, j_4, j_5, j_6, j_7, j_8, j_9, j_10, j_11, j_12, j_13, j_14, j_15, j_16, j_17, j_18, j_19, j_20, j_21, j_22, j_23, j_24, j_25, j_26, j_27, j_28, j_29, j_30, j_31, j_32, j_33, j_34, j_35, j_36, j_37, j_38, j_39, j_40, j_41, j_42, j_43, j_44, j_45, j_46, j_47, j_48, j_49, j_50, j_51, j_52, j_57, j_59, j_63, j_74, j_75, j_93, j_97, j_99, j_100, j_122, j_200, j_255, j_300, j_465, j_496, j_900, j_999, j_1000, j_65536, j_65537, j_99999, j_252645135, j_858993459, j_1431655765, k_0, k_1, k_27, k_32, k_74, k_75, k_100, k_1000, k_65537, r5, r4, e1, e2, r62, rt2, r52, e3]
  · rw [fm_fi f3 (by omega), fm_fi f2 (by omega)]
