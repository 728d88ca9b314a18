/-! questions: now -/
def Cq (o : Option (Int32 × Hp)) (h : Hp) (v tr : Int) : Prop := ∃ h', o = some (J v, h') ∧ Sc h h' ∧ fi h' 0 12 = tr
def Dq (o : Option (Int32 × Hp)) (h : Hp) (v tr : Int) : Prop := ∃ h', o = some (J v, h') ∧ Qr h h' ∧ fi h' 88 1 = tr ∧ fi h' 88 2 = -1
theorem C_meas {a : Ab} {t : Nat} {h : Hp} (HA : AW a) (H : CI a t h) : ∃ h', F_ra_measure 50 t 44 h = some h' ∧ Sc h h' ∧ fi h' 0 12 = fi h 0 12 ∧ RM (qL a) (net (qL a) (qS a)) (qS a 28).toNat 50 h' := by
  have o := XV_o H.1
  have w := HA.2.1.1
  obtain ⟨h1, e1, f1, g1⟩ := C_measure HA.1 (XV_c H.1) (XV_r50 H.1) (XV_ts H.1) H.2.1 (XV_s44 H.1) H.2.2.1 w.2.2.1 w.1 (by omega) w.2.2.2.1 w.2.2.2.2.1 (by omega) (by omega) (by omega)
  exact ⟨h1, e1, sc_fm f1 (by omega), fm_fi f1 (by omega) 12, g1⟩
theorem CI_w {a : Ab} {t : Nat} {h : Hp} {v : Int} (hv : 0 ≤ v ∧ v ≤ 6) (H : CI a t h) : CI (sTr a v) t (wF h 0 12 v) := CI_q (sc_w h v) (fi_same (by omega) (by omega)) H
theorem AW_w {a : Ab} {v : Int} (hv : 0 ≤ v ∧ v ≤ 6) (H : AW a) : AW (sTr a v) := by
  obtain ⟨a1, a2, a3, a4, a5, a6, a7, a8, a9⟩ := H
  exact ⟨a1, a2, a3, a4, a5, hv, a7, a8, a9⟩
theorem RI_0 {a : Ab} {h : Hp} (H : RI a h) : RI a (wF h 88 0 0) := by
  obtain ⟨a1, a2, a3, ⟨a4, a4'⟩, ⟨a5, a5'⟩, ⟨a6, a6'⟩, a7, a8, a9, a10, a11⟩ := H
  have f : Fm 88 102 h (wF h 88 0 0) := fm_wF (by omega) (by omega)
  refine ⟨MS_fm f a1, RLk_fm f (by omega) a2, a3, ⟨?_, a4'⟩, ⟨?_, a5'⟩, ⟨?_, a6'⟩, ?_, ?_, ?_, a10, a11⟩
  · rw [fi_ne (by omega)]; exact a4
  · rw [fi_ne (by omega)]; exact a5
  · rw [fi_ne (by omega)]; exact a6
  · rw [fi_ne (by omega)]; exact a7
  · rw [fi_ne (by omega)]; exact a8
  · rw [fi_ne (by omega)]; exact a9
theorem end_2 {h : Hp} (y : Int) (hy : 0 ≤ y ∧ y ≤ 6) : Qr h (wF (wF h 88 1 y) 88 2 (-1)) ∧ fi (wF (wF h 88 1 y) 88 2 (-1)) 88 1 = y ∧ fi (wF (wF h 88 1 y) 88 2 (-1)) 88 2 = -1 := by
  refine ⟨qr_tr (qr_w y (by omega)) (qr_w (-1) (by omega)), ?_, fi_same (by omega) (by omega)⟩
  rw [fi_ne (by omega), fi_same (by omega) (by omega)]
theorem c_und {a : Ab} {t : Nat} {h : Hp} (HA : AW a) (H : CI a t h) : Cq (F_cs_under 0 h) h (if qL a 1 0 = 0 then -1 else (und (hgt (qL a) (qS a)) (hn (qL a)) : Nat)) (if qL a 1 0 = 0 then 1 else 0) := by
  have k := XS_k (XV_x H.1)
  have eL := C_noLake HA H
  have eR := C_refused (h := h) k (qL a 1 0 = 0) False
  by_cases c : qL a 1 0 = 0
  · simp only [if_pos c, if_pos (Or.inl c : qL a 1 0 = 0 ∨ False), if_neg (show ¬ False by trivial)] at eL eR ⊢
    refine ⟨wF h 0 12 1, ?_, sc_w h 1, fi_same (by omega) (by omega)⟩
    unfold F_cs_under
    rw [ck_e k]
    simp (disch := first | with_reducible assumption | omega | trivial) only [bn_s1, bd_s1, ei_l1, ei_r1, gI_J, gL_J, gR_J, aI_J, aL_J, sI_J, sL_J, pI_J, pL_J, J_add, J_sub, J_mul, J_neg, J_lt, J_le, J_eq, dv_J, rm_J, if_pos, if_neg, ↓reduceIte, bitJ, shlJ, orJ, j_0, j_1, j_2, j_3, j_4, j_5, j_6, j_7, j_8, j_9, j_10, j_11, j_12, j_13, j_14, j_15, j_16, j_17, j_18, j_19, j_20, j_21, j_22, j_23, j_24, j_25, j_26, j_27, j_28, j_29, j_30, j_31, j_32, j_33, j_34, j_35, j_36, j_37, j_38, j_39, j_40, j_41, j_42, j_43, j_44, j_45, j_46, j_47, j_48, j_49, j_50, j_51, j_52, j_57, j_59, j_63, j_74, j_75, j_93, j_97, j_99, j_100, j_122, j_200, j_255, j_300, j_465, j_496, j_900, j_999, j_1000, j_65536, j_65537, j_99999, j_252645135, j_858993459, j_1431655765, k_0, k_1, k_27, k_32, k_74, k_75, k_100, k_1000, k_65537, eL, eR]
  · simp only [if_neg c, if_neg (not_or.mpr ⟨c, not_false⟩ : ¬ (qL a 1 0 = 0 ∨ False)), if_neg (show ¬ False by trivial)] at eL eR ⊢
    have H1 := CI_w (v := 0) (by omega) H
    obtain ⟨h1, e1, s1, g1, m1⟩ := C_meas (AW_w (v := 0) (by omega) HA) H1
    have X1 := XV_x H1.1
    have X2 := XS_fm s1.1 X1
    have k1 := XS_k X1; have r6 := XS_r6 X1; have rt := XV_t H1.1; have r4 := XS_r4 X1; have k2 := XS_k X2; have r6' := XS_r6 X2
    have eu := C_underBits HA.1 (RS_fm s1.1 (XV_r50 H1.1)) m1.1 m1.2.2.2
    refine ⟨h1, ?_, sc_tr (sc_w h 0) s1, by rw [g1]; exact fi_same (by omega) (by omega)⟩
    unfold F_cs_under
    rw [ck_e k]
    simp (disch := first | with_reducible assumption | omega | trivial) only [bn_s1, bd_s1, ei_l1, ei_r1, gI_J, gL_J, gR_J, aI_J, aL_J, sI_J, sL_J, pI_J, pL_J, J_add, J_sub, J_mul, J_neg, J_lt, J_le, J_eq, dv_J, rm_J, if_pos, if_neg, ↓reduceIte, bitJ, shlJ, orJ, j_0, j_1, j_2, j_3, j_4, j_5, j_6, j_7, j_8, j_9, j_10, j_11, j_12, j_13, j_14, j_15, j_16, j_17, j_18, j_19, j_20, j_21, j_22, j_23, j_24, j_25, j_26, j_27, j_28, j_29, j_30, j_31, j_32, j_33, j_34, j_35, j_36, j_37, j_38, j_39, j_40, j_41, j_42, j_43, j_44, j_45, j_46, j_47, j_48, j_49, j_50, j_51, j_52, j_57, j_59, j_63, j_74, j_75, j_93, j_97, j_99, j_100, j_122, j_200, j_255, j_300, j_465, j_496, j_900, j_999, j_1000, j_65536, j_65537, j_99999, j_252645135, j_858993459, j_1431655765, k_0, k_1, k_27, k_32, k_74, k_75, k_100, k_1000, k_65537, eL, eR, r6, rt, r4, e1, r6', eu]
    rfl
theorem d_und {a : Ab} {h : Hp} (HA : AW a) (H : RI a h) : Dq (F_md_under 88 h) h (if qL a 1 0 = 0 then -1 else (und (hgt (qL a) (qS a)) (hn (qL a)) : Nat)) (if qL a 1 0 = 0 then 1 else 0) := by
  have k := MS_k H.1
  have H1 := RI_0 H
  have k1 := MS_k H1.1
  cases H1.2.1 with
  | inl q =>
    have e := q.2.1
    have er := D_refused (h := wF h 88 0 0) (y := 1) k1
    rw [if_pos q.1, if_pos q.1]
    have fin := end_2 (h := wF h 88 0 0) 1 (by omega)
    refine ⟨_, ?_, qr_tr (qr_w 0 (by omega)) fin.1, fin.2⟩
    unfold F_md_under
    rw [ck_e k]
    simp (disch := first | with_reducible assumption | omega | trivial) only [bn_s1, bd_s1, ei_l1, ei_r1, gI_J, gL_J, gR_J, aI_J, aL_J, sI_J, sL_J, pI_J, pL_J, J_add, J_sub, J_mul, J_neg, J_lt, J_le, J_eq, dv_J, rm_J, if_pos, if_neg, ↓reduceIte, bitJ, shlJ, orJ, j_0, j_1, j_2, j_3, j_4, j_5, j_6, j_7, j_8, j_9, j_10, j_11, j_12, j_13, j_14, j_15, j_16, j_17, j_18, j_19, j_20, j_21, j_22, j_23, j_24, j_25, j_26, j_27, j_28, j_29, j_30, j_31, j_32, j_33, j_34, j_35, j_36, j_37, j_38, j_39, j_40, j_41, j_42, j_43, j_44, j_45, j_46, j_47, j_48, j_49, j_50, j_51, j_52, j_57, j_59, j_63, j_74, j_75, j_93, j_97, j_99, j_100, j_122, j_200, j_255, j_300, j_465, j_496, j_900, j_999, j_1000, j_65536, j_65537, j_99999, j_252645135, j_858993459, j_1431655765, k_0, k_1, k_27, k_32, k_74, k_75, k_100, k_1000, k_65537, gQ_J, e, er]
  | inr q =>
    obtain ⟨q1, b, q2⟩ := q
    have e := q2.2.1
    have ne : ¬ (some b = none) := by intro x; cases x
    have c : ¬ qL a 1 0 = 0 := by omega
    rw [if_neg c, if_neg c]
    obtain ⟨h2, e2, f2, x2⟩ := D_works q2.1 H1.2.2.1
    have C2 := RC_fm f2 (by omega) q2
    have eu := D_underNow HA.1 C2 x2 (sw_stk (by omega) HA.2.1.1)
    have k2 := MS_k C2.1
    have eg := D_good (h := h2) (y := (und (hgt (qL a) (qS a)) (hn (qL a)) : Nat)) k2
    have fin := end_2 (h := h2) 0 (by omega)
    refine ⟨_, ?_, qr_tr (qr_w 0 (by omega)) (qr_tr (qr_91 f2) fin.1), fin.2⟩
    unfold F_md_under
    rw [ck_e k]
    simp (disch := first | with_reducible assumption | omega | trivial) only [bn_s1, bd_s1, ei_l1, ei_r1, gI_J, gL_J, gR_J, aI_J, aL_J, sI_J, sL_J, pI_J, pL_J, J_add, J_sub, J_mul, J_neg, J_lt, J_le, J_eq, dv_J, rm_J, if_pos, if_neg, ↓reduceIte, bitJ, shlJ, orJ, j_0, j_1, j_2, j_3, j_4, j_5, j_6, j_7, j_8, j_9, j_10, j_11, j_12, j_13, j_14, j_15, j_16, j_17, j_18, j_19, j_20, j_21, j_22, j_23, j_24, j_25, j_26, j_27, j_28, j_29, j_30, j_31, j_32, j_33, j_34, j_35, j_36, j_37, j_38, j_39, j_40, j_41, j_42, j_43, j_44, j_45, j_46, j_47, j_48, j_49, j_50, j_51, j_52, j_57, j_59, j_63, j_74, j_75, j_93, j_97, j_99, j_100, j_122, j_200, j_255, j_300, j_465, j_496, j_900, j_999, j_1000, j_65536, j_65537, j_99999, j_252645135, j_858993459, j_1431655765, k_0, k_1, k_27, k_32, k_74, k_75, k_100, k_1000, k_65537, gQ_J, e, ne, e2, eu, eg]
