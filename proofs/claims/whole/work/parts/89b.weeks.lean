/-! weeks, eaten, sunkAt -/
theorem net_hi {L : Lk} (HL : LW L) (S : Sk) {j : Int} (hj : 28 ≤ j) (v : Int) : ∀ i : Nat, i < hn L → net L (upS S j v) i = net L S i := by
  intro i hi
  have b1 := LW_h HL
  have hne := hn_e HL
  have b3 := LW_g HL
  unfold net wgt lft gsm
  rw [upS_ne (by omega), upS_ne (by omega), upS_ne (by omega), upS_ne (by omega), upS_ne (by omega)]
  congr 2
  refine sm_e (fun g hg => ?_)
  rw [upS_ne (by omega)]
theorem hgt_hi {L : Lk} (HL : LW L) (S : Sk) {j : Int} (hj : 29 ≤ j) (v z : Int) : hgt L (upS S j v) z = hgt L S z := by
  unfold hgt
  rw [upS_ne (show (28 : Int) ≠ j by omega)]
  exact hgo_e _ z (net_hi HL S (by omega) v)
theorem sw_29 {m : Int} {L : Lk} {S : Sk} (HL : LW L) (H : SW m L S) (v : Int) : SW m L (upS S 29 v) := by
  have b3 := LW_g HL
  refine ⟨fun i i0 i1 => ?_, fun i i0 i1 => ?_, fun g g0 g1 => ?_, ?_, ?_, ?_⟩
  · rw [upS_ne (by omega)]; exact H.1 i i0 i1
  · rw [upS_ne (by omega)]; exact H.2.1 i i0 i1
  · rw [upS_ne (by omega)]; exact H.2.2.1 g g0 g1
  · rw [upS_ne (by omega)]; exact H.2.2.2.1
  · rw [upS_ne (by omega)]; exact H.2.2.2.2.1
  · rw [upS_ne (by omega)]; exact H.2.2.2.2.2
theorem sw_30 {m : Int} {L : Lk} {S : Sk} (HL : LW L) (H : SW m L S) {v : Int} (hv : 0 ≤ v ∧ v ≤ 65536) : SW m L (upS S 30 v) := by
  have b3 := LW_g HL
  refine ⟨fun i i0 i1 => ?_, fun i i0 i1 => ?_, fun g g0 g1 => ?_, ?_, ?_, ?_⟩
  · rw [upS_ne (by omega)]; exact H.1 i i0 i1
  · rw [upS_ne (by omega)]; exact H.2.1 i i0 i1
  · rw [upS_ne (by omega)]; exact H.2.2.1 g g0 g1
  · rw [upS_ne (by omega)]; exact H.2.2.2.1
  · rw [upS_ne (by omega)]; exact H.2.2.2.2.1
  · show 0 ≤ (if (30 : Int) = 30 then v else S 30) ∧ (if (30 : Int) = 30 then v else S 30) ≤ 65536
    rw [if_pos rfl]; exact hv
/-- alike but for the week -/
def E29 (S T : Sk) : Prop := ∀ i, i ≠ 29 → S i = T i
theorem e29_u (S : Sk) (v : Int) : E29 (upS S 29 v) S := fun _ hi => upS_ne hi
theorem e29_up {S T : Sk} (h : E29 S T) (u : Int) : upS S 29 u = upS T 29 u := by
  funext i
  unfold upS
  by_cases e : i = 29
  · rw [if_pos e, if_pos e]
  · rw [if_neg e, if_neg e]; exact h i e
theorem e29_sfu {S T : Sk} (h : E29 S T) {z : Int} (hz : z < 5) : E29 (sfu S z) (sfu T z) := by
  intro i hi
  unfold sfu
  rw [h (5 * z + 1) (by omega), h (5 * z) (by omega), h i hi]
theorem e29_sft {S T : Sk} (h : E29 S T) : ∀ n : Nat, n ≤ 5 → E29 (sft S n) (sft T n) := by
  intro n
  induction n with
  | zero => intro _; exact h
  | succ n ih => intro hn'; exact e29_sfu (ih (by omega)) (by omega)
theorem e29_bk {S T : Sk} (h : E29 S T) {z : Int} (hz : z < 5) : bk S z = bk T z := by
  unfold bk
  rw [h (5 * z + 2) (by omega), h (5 * z + 1) (by omega), h (5 * z + 3) (by omega), h (5 * z) (by omega), h (5 * z + 4) (by omega)]
theorem e29_lse {S T : Sk} (h : E29 S T) {z : Int} (hz : z < 5) : E29 (lse S z) (lse T z) := by
  intro i hi
  unfold lse
  rw [e29_bk h hz, h i hi]
theorem e29_30 {S T : Sk} (h : E29 S T) (v : Int) : E29 (upS S 30 v) (upS T 30 v) := by
  intro i hi
  unfold upS
  rw [h i hi]
theorem e29_mst {L : Lk} {p q : Sk × Int} (h : E29 p.1 q.1) (h2 : p.2 = q.2) {z : Int} (hz : z < 5) : E29 (mst L p z).1 (mst L q z).1 ∧ (mst L p z).2 = (mst L q z).2 := by
  have s : sd p.1 = sd q.1 := by unfold sd; rw [h 30 (by omega)]
  unfold mst
  rw [s]
  by_cases c : L 9 z = 0
  · rw [if_pos c, if_pos c]
    by_cases d : sd q.1 % 100 < L 0 0
    · rw [if_pos d, if_pos d]
      refine ⟨e29_lse (e29_30 h _) hz, ?_⟩
      show p.2 + _ = q.2 + _
      rw [h2, e29_bk (e29_30 h _) hz]
    · rw [if_neg d, if_neg d]; exact ⟨e29_30 h _, h2⟩
  · rw [if_neg c, if_neg c]; exact ⟨h, h2⟩
theorem e29_mws {L : Lk} {p q : Sk × Int} (h : E29 p.1 q.1) (h2 : p.2 = q.2) : ∀ n : Nat, n ≤ 5 → E29 (mws L p n).1 (mws L q n).1 ∧ (mws L p n).2 = (mws L q n).2 := by
  intro n
  induction n with
  | zero => intro _; exact ⟨h, h2⟩
  | succ n ih => intro hn'; have := ih (by omega); exact e29_mst this.1 this.2 (by omega)
theorem wkm_29 {L : Lk} (HL : LW L) (S : Sk) (v u : Int) : upS (wkm L (upS S 29 v)).1 29 u = upS (wkm L S).1 29 u ∧ (wkm L (upS S 29 v)).2 = (wkm L S).2 := by
  have b1 := LW_h HL
  have hne := hn_e HL
  have := e29_mws (L := L) (p := (sft (upS S 29 v) (hn L), 0)) (q := (sft S (hn L), 0)) (e29_sft (e29_u S v) (hn L) (by omega)) rfl (hn L) (by omega)
  exact ⟨e29_up this.1 u, this.2⟩
def wks (L : Lk) (S : Sk) : Nat → Sk × Int
  | 0 => (S, 0)
  | n + 1 => ((wkm L (wks L S n).1).1, (wks L S n).2 + (wkm L (wks L S n).1).2)
theorem wkm_sw {m : Int} {L : Lk} {S : Sk} (HL : LW L) (hm : 0 ≤ m) (H : SW m L S) : SW m L (wkm L S).1 := mws_sw HL (p := (sft S (hn L), 0)) (sft_sw HL hm H) (hn L) (by have := hn_e HL; omega)
theorem wkm_g {L : Lk} (HL : LW L) (S : Sk) : 0 ≤ (wkm L S).2 ∧ (wkm L S).2 ≤ 5 := by
  have b1 := LW_h HL
  have hne := hn_e HL
  have := mws_g (L := L) (p := (sft S (hn L), 0)) (by show (0 : Int) ≤ 0; omega) (hn L)
  unfold wkm
  omega
theorem wks_p {m : Int} {L : Lk} {S : Sk} (HL : LW L) (hm : 0 ≤ m) (H : SW m L S) : ∀ n : Nat, SW m L (wks L S n).1 ∧ 0 ≤ (wks L S n).2 ∧ (wks L S n).2 ≤ 5 * n := by
  intro n
  induction n with
  | zero => exact ⟨H, by show (0 : Int) ≤ 0; omega, by show (0 : Int) ≤ 5 * (0 : Nat); omega⟩
  | succ n ih =>
    have g := wkm_g HL (wks L S n).1
    refine ⟨wkm_sw HL hm ih.1, ?_, ?_⟩
    · show 0 ≤ (wks L S n).2 + (wkm L (wks L S n).1).2; omega
    · show (wks L S n).2 + (wkm L (wks L S n).1).2 ≤ 5 * (n + 1 : Nat); omega
theorem C_pass {a : Ab} {t : Nat} {h1 h2 : Hp} {T : Sk} {v : Int} (HA : AW a) (H : CI a t h1) (s : Sc h1 h2) (W : SW 999 (qL a) T) (hv : 0 ≤ v ∧ v ≤ 2000) (S : SR (qL a) 47 (upS T 29 v) h2) : ∃ h3, F_st_passWithMice 47 t h2 = some (J (wkm (qL a) T).2, h3) ∧ Sc h2 h3 ∧ fi h3 0 12 = fi h2 0 12 ∧ SR (qL a) 47 (upS (wkm (qL a) T).1 29 (v + 1)) h3 := by
  have o := XV_o H.1
  have V2 := XV_fm s.1 (by omega) H.1
  have v29 : upS T 29 v 29 = v := if_pos rfl
  obtain ⟨h3, e3, f3, S3⟩ := C_passWithMice HA.1 (XV_c V2) (XV_ts V2) (sc_TR s o H.2.1) (sw_29 HA.1 W v) (by omega) (XV_s47 V2) S (by rw [v29]; omega) (by omega) (by omega)
  have e := wkm_29 HA.1 T v (v + 1)
  rw [v29, e.1] at S3
  rw [e.2] at e3
  exact ⟨h3, e3, sc_fm f3 (by omega), fm_fi f3 (by omega) 12, S3⟩
theorem C_eatLater {a : Ab} {t : Nat} {h : Hp} {sd n : Int} (HA : AW a) (H : CI a t h) (hs : 0 ≤ sd ∧ sd ≤ 65536) (hn' : 0 ≤ n ∧ n ≤ 20) : ∃ h', F_cs_eatLater 0 (J sd) (J n) h = some (J (wks (qL a) (upS (qS a) 30 sd) n.toNat).2, h') ∧ Sc h h' ∧ fi h' 0 12 = fi h 0 12 ∧ SR (qL a) 47 (upS (wks (qL a) (upS (qS a) 30 sd) n.toNat).1 29 (qS a 29 + n)) h' := by
  have V := H.1
  have o := XV_o V
  have W := HA.2.1.1
  have wk := HA.2.1.2.1
  obtain ⟨N, rfl⟩ := Int.eq_ofNat_of_zero_le hn'.1
  rw [Int.toNat_natCast]
  obtain ⟨h1, e1, f1, S1⟩ := C_copyFrom HA.1 (XV_s47 V) (XV_s44 V) H.2.2.1 (by omega) (by omega) (by omega)
  have V1 := XV_fm f1 (by omega) V
  have f2 : Fm 47 50 h1 (wF h1 47 3 sd) := fm_wF (by omega) (by omega)
  have s2 : Sc h (wF h1 47 3 sd) := sc_tr (sc_fm f1 (by omega)) (sc_fm f2 (by omega))
  have V2 := XV_fm f2 (by omega) V1
  have b3 := LW_g HA.1
  have S2 : SR (qL a) 47 (upS (upS (qS a) 30 sd) 29 (qS a 29 + 0)) (wF h1 47 3 sd) := by
    refine ⟨fun i i0 i1 => ?_, fun g g0 g1 => ?_, ?_, ?_, ?_⟩
    · rw [upS_ne (by omega), upS_ne (by omega)]; exact S1.1 i i0 i1
    · rw [upS_ne (by omega), upS_ne (by omega)]; exact S1.2.1 g g0 g1
    · rw [upS_ne (by omega), upS_ne (by omega), fi_ne (by omega)]; exact S1.2.2.1
    · rw [fi_same (by omega) (by omega), upS_ne (by omega)]; exact (if_pos rfl).symm
    · rw [fi_ne (by omega), S1.2.2.2.2, Int.add_zero]; exact (if_pos rfl).symm
  have W2 := sw_30 HA.1 W hs
  obtain ⟨y, h3, e3, q3⟩ := lp_for (b := B_cs_eatLater_24 0 (J N)) (f := FU) (s := (J 0, J 0)) (h := wF h1 47 3 sd) (fun i s h' => s = (J (wks (qL a) (upS (qS a) 30 sd) i).2, J i) ∧ Sc h h' ∧ fi h' 0 12 = fi h 0 12 ∧ SR (qL a) 47 (upS (wks (qL a) (upS (qS a) 30 sd) i).1 29 (qS a 29 + i)) h') (fun y h' => y = J (wks (qL a) (upS (qS a) 30 sd) N).2 ∧ Sc h h' ∧ fi h' 0 12 = fi h 0 12 ∧ SR (qL a) 47 (upS (wks (qL a) (upS (qS a) 30 sd) N).1 29 (qS a 29 + N)) h') N (by unfold FU; omega) ⟨rfl, s2, by rw [fm_fi f2 (by omega), fm_fi f1 (by omega)], S2⟩ (fun i s h3 hi hI => by
      obtain ⟨rfl, s3, g3, S3⟩ := hI
      have V3 := XV_fm s3.1 (by omega) V
      have wp := wks_p HA.1 (by omega) W2 i
      obtain ⟨h4, e4, s4, g4, S4⟩ := C_pass HA H s3 wp.1 (by omega) S3
      refine ⟨(J (wks (qL a) (upS (qS a) 30 sd) (i + 1)).2, J (i + 1 : Nat)), h4, ?_, rfl, sc_tr s3 s4, g4.trans g3, ?_⟩
      · unfold B_cs_eatLater_24
        try simp only [j_0, j_1, j_2, j_3, j_4, j_5, j_6, j_7, j_8, j_9, j_10, j_11, j_12, j_13, j_14, j_15, j_16, j_17, j_18, j_19, j_20, j_21, j_22, j_23, j_24, j_25, j_26, j_27, j_28, j_29, j_30, j_31, j_32, j_33, j_34, j_35, j_36, j_37, j_38, j_39, j_40, j_41, j_42, j_43, j_44, j_45, j_46, j_47, j_48, j_49, j_50, j_51, j_52, j_57, j_59, j_63, j_74, j_75, j_93, j_97, j_99, j_100, j_122, j_200, j_255, j_300, j_465, j_496, j_900, j_999, j_1000, j_65536, j_65537, j_99999, j_252645135, j_858993459, j_1431655765, k_0, k_1, k_27, k_32, k_74, k_75, k_100, k_1000, k_65537]
        simp (disch := first | with_reducible assumption | omega | trivial) only [↓bn_s1, ↓bd_s1, ↓ei_l1, ↓ei_r1, ↓bn_if, ↓ilt_1, ↓ilt_0, ↓ieq_1, ↓ieq_0, bn_s1, bd_s1, ei_l1, ei_r1, J_add, J_sub, J_mul, J_neg, J_lt, J_le, J_eq, dv_J, rm_J, if_pos, if_neg, ↓reduceIte, bitJ, shlJ, orJ, j_0, j_1, j_2, j_3, j_4, j_5, j_6, j_7, j_8, j_9, j_10, j_11, j_12, j_13, j_14, j_15, j_16, j_17, j_18, j_19, j_20, j_21, j_22, j_23, j_24, j_25, j_26, j_27, j_28, j_29, j_30, j_31, j_32, j_33, j_34, j_35, j_36, j_37, j_38, j_39, j_40, j_41, j_42, j_43, j_44, j_45, j_46, j_47, j_48, j_49, j_50, j_51, j_52, j_57, j_59, j_63, j_74, j_75, j_93, j_97, j_99, j_100, j_122, j_200, j_255, j_300, j_465, j_496, j_900, j_999, j_1000, j_65536, j_65537, j_99999, j_252645135, j_858993459, j_1431655765, k_0, k_1, k_27, k_32, k_74, k_75, k_100, k_1000, k_65537, vr_0 V3, ↓vr_0_b V3, vr_2 V3, ↓vr_2_b V3, vr_4 V3, ↓vr_4_b V3, vr_5 V3, ↓vr_5_b V3, vr_6 V3, ↓vr_6_b V3, vr_7 V3, ↓vr_7_b V3, vr_8 V3, ↓vr_8_b V3, vr_9 V3, ↓vr_9_b V3, vr_10 V3, ↓vr_10_b V3, vr_11 V3, ↓vr_11_b V3, vr_3 V3, ↓vr_3_b V3, v0i V3, ↓v0i_b V3, v0p V3, ↓v0p_b V3, ↓bd_e (e4), e4]
        rfl
      · have e5 : qS a 29 + ((i + 1 : Nat) : Int) = qS a 29 + i + 1 := by omega
        rw [e5]; exact S4) (fun s h3 hI => by
      obtain ⟨rfl, s3, g3, S3⟩ := hI
      refine ⟨_, h3, ?_, rfl, s3, g3, S3⟩
      unfold B_cs_eatLater_24
      try simp only [j_0, j_1, j_2, j_3, j_4, j_5, j_6, j_7, j_8, j_9, j_10, j_11, j_12, j_13, j_14, j_15, j_16, j_17, j_18, j_19, j_20, j_21, j_22, j_23, j_24, j_25, j_26, j_27, j_28, j_29, j_30, j_31, j_32, j_33, j_34, j_35, j_36, j_37, j_38, j_39, j_40, j_41, j_42, j_43, j_44, j_45, j_46, j_47, j_48, j_49, j_50, j_51, j_52, j_57, j_59, j_63, j_74, j_75, j_93, j_97, j_99, j_100, j_122, j_200, j_255, j_300, j_465, j_496, j_900, j_999, j_1000, j_65536, j_65537, j_99999, j_252645135, j_858993459, j_1431655765, k_0, k_1, k_27, k_32, k_74, k_75, k_100, k_1000, k_65537]
      simp (disch := first | with_reducible assumption | omega | trivial) only [↓bn_s1, ↓bd_s1, ↓ei_l1, ↓ei_r1, ↓bn_if, ↓ilt_1, ↓ilt_0, ↓ieq_1, ↓ieq_0, bn_s1, bd_s1, ei_l1, ei_r1, J_add, J_sub, J_mul, J_neg, J_lt, J_le, J_eq, dv_J, rm_J, if_pos, if_neg, ↓reduceIte, bitJ, shlJ, orJ, j_0, j_1, j_2, j_3, j_4, j_5, j_6, j_7, j_8, j_9, j_10, j_11, j_12, j_13, j_14, j_15, j_16, j_17, j_18, j_19, j_20, j_21, j_22, j_23, j_24, j_25, j_26, j_27, j_28, j_29, j_30, j_31, j_32, j_33, j_34, j_35, j_36, j_37, j_38, j_39, j_40, j_41, j_42, j_43, j_44, j_45, j_46, j_47, j_48, j_49, j_50, j_51, j_52, j_57, j_59, j_63, j_74, j_75, j_93, j_97, j_99, j_100, j_122, j_200, j_255, j_300, j_465, j_496, j_900, j_999, j_1000, j_65536, j_65537, j_99999, j_252645135, j_858993459, j_1431655765, k_0, k_1, k_27, k_32, k_74, k_75, k_100, k_1000, k_65537])
  refine ⟨h3, ?_, q3.2⟩
  unfold F_cs_eatLater
  rw [ck_e (XS_k (XV_x V))]
  try simp only [j_0, j_1, j_2, j_3, j_4, j_5, j_6, j_7, j_8, j_9, j_10, j_11, j_12, j_13, j_14, j_15, j_16, j_17, j_18, j_19, j_20, j_21, j_22, j_23, j_24, j_25, j_26, j_27, j_28, j_29, j_30, j_31, j_32, j_33, j_34, j_35, j_36, j_37, j_38, j_39, j_40, j_41, j_42, j_43, j_44, j_45, j_46, j_47, j_48, j_49, j_50, j_51, j_52, j_57, j_59, j_63, j_74, j_75, j_93, j_97, j_99, j_100, j_122, j_200, j_255, j_300, j_465, j_496, j_900, j_999, j_1000, j_65536, j_65537, j_99999, j_252645135, j_858993459, j_1431655765, k_0, k_1, k_27, k_32, k_74, k_75, k_100, k_1000, k_65537]
  simp (disch := first | with_reducible assumption | omega | trivial) only [↓bn_s1, ↓bd_s1, ↓ei_l1, ↓ei_r1, ↓bn_if, ↓ilt_1, ↓ilt_0, ↓ieq_1, ↓ieq_0, bn_s1, bd_s1, ei_l1, ei_r1, J_add, J_sub, J_mul, J_neg, J_lt, J_le, J_eq, dv_J, rm_J, if_pos, if_neg, ↓reduceIte, bitJ, shlJ, orJ, j_0, j_1, j_2, j_3, j_4, j_5, j_6, j_7, j_8, j_9, j_10, j_11, j_12, j_13, j_14, j_15, j_16, j_17, j_18, j_19, j_20, j_21, j_22, j_23, j_24, j_25, j_26, j_27, j_28, j_29, j_30, j_31, j_32, j_33, j_34, j_35, j_36, j_37, j_38, j_39, j_40, j_41, j_42, j_43, j_44, j_45, j_46, j_47, j_48, j_49, j_50, j_51, j_52, j_57, j_59, j_63, j_74, j_75, j_93, j_97, j_99, j_100, j_122, j_200, j_255, j_300, j_465, j_496, j_900, j_999, j_1000, j_65536, j_65537, j_99999, j_252645135, j_858993459, j_1431655765, k_0, k_1, k_27, k_32, k_74, k_75, k_100, k_1000, k_65537, vr_0 V, ↓vr_0_b V, vr_2 V, ↓vr_2_b V, vr_4 V, ↓vr_4_b V, vr_5 V, ↓vr_5_b V, vr_6 V, ↓vr_6_b V, vr_7 V, ↓vr_7_b V, vr_8 V, ↓vr_8_b V, vr_9 V, ↓vr_9_b V, vr_10 V, ↓vr_10_b V, vr_11 V, ↓vr_11_b V, vr_3 V, ↓vr_3_b V, v0i V, ↓v0i_b V, v0p V, ↓v0p_b V, ↓bn_e (e1), e1, vr_0 V1, ↓vr_0_b V1, vr_2 V1, ↓vr_2_b V1, vr_4 V1, ↓vr_4_b V1, vr_5 V1, ↓vr_5_b V1, vr_6 V1, ↓vr_6_b V1, vr_7 V1, ↓vr_7_b V1, vr_8 V1, ↓vr_8_b V1, vr_9 V1, ↓vr_9_b V1, vr_10 V1, ↓vr_10_b V1, vr_11 V1, ↓vr_11_b V1, vr_3 V1, ↓vr_3_b V1, v0i V1, ↓v0i_b V1, v0p V1, ↓v0p_b V1, sr47_0 V1, ↓sr47_0_b V1, sr47_1 V1, ↓sr47_1_b V1, s47i V1, ↓s47i_b V1, s47p V1, ↓s47p_b V1, s48a V1, ↓s48a_b V1, s48s V1, ↓s48s_b V1, s49a V1, ↓s49a_b V1, s49s V1, ↓s49s_b V1, ↓bd_e (e3), e3, q3.1]
/-- measured there -/
theorem C_meas47 {a : Ab} {t : Nat} {h h2 : Hp} {T : Sk} {v : Int} (HA : AW a) (H : CI a t h) (s : Sc h h2) (W : SW 999 (qL a) T) (S : SR (qL a) 47 (upS T 29 v) h2) : ∃ h3, F_ra_measure 50 t 47 h2 = some h3 ∧ Sc h2 h3 ∧ fi h3 0 12 = fi h2 0 12 ∧ SR (qL a) 47 (upS T 29 v) h3 ∧ fi h3 50 0 = qL a 1 0 ∧ ∀ i, 0 ≤ i → i < qL a 1 0 → ia h3 53 i = hgt (qL a) T i := by
  have o := XV_o H.1
  have V2 := XV_fm s.1 (by omega) H.1
  have W' := sw_29 HA.1 W v
  obtain ⟨h3, e3, f3, m3⟩ := C_measure HA.1 (XV_c V2) (XV_r50 V2) (XV_ts V2) (sc_TR s o H.2.1) (XV_s47 V2) S W'.2.2.1 W'.1 (by omega) W'.2.2.2.1 W'.2.2.2.2.1 (by omega) (by omega) (by omega)
  refine ⟨h3, e3, sc_fm f3 (by omega), fm_fi f3 (by omega) 12, SR_fm f3 (by omega) S, m3.1, fun i i0 i1 => ?_⟩
  rw [← hgt_hi HA.1 T (j := 29) (by omega) v i]
  exact RM_ia m3 i0 i1
def wkx (a : Ab) (s n : Int) : Sk × Int := wks (qL a) (upS (qS a) 30 s) n.toNat
def w_wks (a : Ab) (z s n : Int) : Int := 1000 + hgt (qL a) (wkx a s n).1 z
theorem c_wks {a : Ab} {t : Nat} {h : Hp} {z s n : Int} (HA : AW a) (H : CI a t h) (hz : rng z) (hs : rng s) (hn' : rng n) : Cq (F_cs_weeks 0 (J z) (J s) (J n) h) h (if inr z (qL a 1 0) ∧ ((0 ≤ s ∧ s ≤ 65536) ∧ (0 ≤ n ∧ n ≤ 20)) then w_wks a z s n else -1) (t_2 (inr z (qL a 1 0)) ((0 ≤ s ∧ s ≤ 65536) ∧ (0 ≤ n ∧ n ≤ 20))) := by
  unfold F_cs_weeks
  refine cq_2 (V := fun b => w_wks b z s n) rfl jm1 HA H (pr_H HA H hz) (pr_w hs hn') (fun c d b h1 eb A1 H1 => ?_)
  rw [← eb] at c
  have b1 := LW_h A1.1
  obtain ⟨h2, e2, s2, g2, S2⟩ := C_eatLater A1 H1 d.1 d.2
  have wp := wks_p A1.1 (by omega) (sw_30 A1.1 A1.2.1.1 d.1) n.toNat
  obtain ⟨h3, e3, s3, g3, S3, z3, H3⟩ := C_meas47 A1 H1 s2 wp.1 S2
  have V1 := H1.1
  have V2 := XV_fm s2.1 (by omega) V1
  have V3 := XV_fm s3.1 (by omega) V2
  have v := H3 z c.1 c.2
  refine ⟨h3, ?_, sc_tr s2 s3, g3.trans g2⟩
  try simp only [j_0, j_1, j_2, j_3, j_4, j_5, j_6, j_7, j_8, j_9, j_10, j_11, j_12, j_13, j_14, j_15, j_16, j_17, j_18, j_19, j_20, j_21, j_22, j_23, j_24, j_25, j_26, j_27, j_28, j_29, j_30, j_31, j_32, j_33, j_34, j_35, j_36, j_37, j_38, j_39, j_40, j_41, j_42, j_43, j_44, j_45, j_46, j_47, j_48, j_49, j_50, j_51, j_52, j_57, j_59, j_63, j_74, j_75, j_93, j_97, j_99, j_100, j_122, j_200, j_255, j_300, j_465, j_496, j_900, j_999, j_1000, j_65536, j_65537, j_99999, j_252645135, j_858993459, j_1431655765, k_0, k_1, k_27, k_32, k_74, k_75, k_100, k_1000, k_65537]
  simp (disch := first | with_reducible assumption | omega | trivial) only [↓bn_s1, ↓bd_s1, ↓ei_l1, ↓ei_r1, ↓bn_if, ↓ilt_1, ↓ilt_0, ↓ieq_1, ↓ieq_0, bn_s1, bd_s1, ei_l1, ei_r1, J_add, J_sub, J_mul, J_neg, J_lt, J_le, J_eq, dv_J, rm_J, if_pos, if_neg, ↓reduceIte, bitJ, shlJ, orJ, j_0, j_1, j_2, j_3, j_4, j_5, j_6, j_7, j_8, j_9, j_10, j_11, j_12, j_13, j_14, j_15, j_16, j_17, j_18, j_19, j_20, j_21, j_22, j_23, j_24, j_25, j_26, j_27, j_28, j_29, j_30, j_31, j_32, j_33, j_34, j_35, j_36, j_37, j_38, j_39, j_40, j_41, j_42, j_43, j_44, j_45, j_46, j_47, j_48, j_49, j_50, j_51, j_52, j_57, j_59, j_63, j_74, j_75, j_93, j_97, j_99, j_100, j_122, j_200, j_255, j_300, j_465, j_496, j_900, j_999, j_1000, j_65536, j_65537, j_99999, j_252645135, j_858993459, j_1431655765, k_0, k_1, k_27, k_32, k_74, k_75, k_100, k_1000, k_65537, ↓bd_e (e2), e2, vr_0 V2, ↓vr_0_b V2, vr_2 V2, ↓vr_2_b V2, vr_4 V2, ↓vr_4_b V2, vr_5 V2, ↓vr_5_b V2, vr_6 V2, ↓vr_6_b V2, vr_7 V2, ↓vr_7_b V2, vr_8 V2, ↓vr_8_b V2, vr_9 V2, ↓vr_9_b V2, vr_10 V2, ↓vr_10_b V2, vr_11 V2, ↓vr_11_b V2, vr_3 V2, ↓vr_3_b V2, v0i V2, ↓v0i_b V2, v0p V2, ↓v0p_b V2, ↓bn_e (e3), e3, vr_0 V3, ↓vr_0_b V3, vr_2 V3, ↓vr_2_b V3, vr_4 V3, ↓vr_4_b V3, vr_5 V3, ↓vr_5_b V3, vr_6 V3, ↓vr_6_b V3, vr_7 V3, ↓vr_7_b V3, vr_8 V3, ↓vr_8_b V3, vr_9 V3, ↓vr_9_b V3, vr_10 V3, ↓vr_10_b V3, vr_11 V3, ↓vr_11_b V3, vr_3 V3, ↓vr_3_b V3, v0i V3, ↓v0i_b V3, v0p V3, ↓v0p_b V3, rr50_1 V3, ↓rr50_1_b V3, r51a V3, ↓r51a_b V3, r51s V3, ↓r51s_b V3, rr50_2 V3, ↓rr50_2_b V3, r52a V3, ↓r52a_b V3, r52s V3, ↓r52s_b V3, rr50_3 V3, ↓rr50_3_b V3, r53a V3, ↓r53a_b V3, r53s V3, ↓r53s_b V3, r50i V3, ↓r50i_b V3, r50p V3, ↓r50p_b V3, v]
  show _ = some (J (1000 + _), h3)
  rw [Int.add_comm]
  rfl
def w_eat (a : Ab) (s n : Int) : Int := (wkx a s n).2
theorem c_eat {a : Ab} {t : Nat} {h : Hp} {s n : Int} (HA : AW a) (H : CI a t h) (hs : rng s) (hn' : rng n) : Cq (F_cs_eaten 0 (J s) (J n) h) h (if ¬ qL a 1 0 = 0 ∧ ((0 ≤ s ∧ s ≤ 65536) ∧ (0 ≤ n ∧ n ≤ 20)) then w_eat a s n else -1) (t_2 (¬ qL a 1 0 = 0) ((0 ≤ s ∧ s ≤ 65536) ∧ (0 ≤ n ∧ n ≤ 20))) := by
  unfold F_cs_eaten
  refine cq_2 (V := fun b => w_eat b s n) rfl jm1 HA H (pr_L HA H) (pr_w hs hn') (fun c d b h1 eb A1 H1 => ?_)
  obtain ⟨h2, e2, s2, g2, S2⟩ := C_eatLater A1 H1 d.1 d.2
  refine ⟨h2, ?_, s2, g2⟩
  simp (disch := first | with_reducible assumption | omega | trivial) only [↓bn_s1, ↓bd_s1, ↓ei_l1, ↓ei_r1, ↓bn_if, ↓ilt_1, ↓ilt_0, ↓ieq_1, ↓ieq_0, bn_s1, bd_s1, ei_l1, ei_r1, J_add, J_sub, J_mul, J_neg, J_lt, J_le, J_eq, dv_J, rm_J, if_pos, if_neg, ↓reduceIte, bitJ, shlJ, orJ, j_0, j_1, j_2, j_3, j_4, j_5, j_6, j_7, j_8, j_9, j_10, j_11, j_12, j_13, j_14, j_15, j_16, j_17, j_18, j_19, j_20, j_21, j_22, j_23, j_24, j_25, j_26, j_27, j_28, j_29, j_30, j_31, j_32, j_33, j_34, j_35, j_36, j_37, j_38, j_39, j_40, j_41, j_42, j_43, j_44, j_45, j_46, j_47, j_48, j_49, j_50, j_51, j_52, j_57, j_59, j_63, j_74, j_75, j_93, j_97, j_99, j_100, j_122, j_200, j_255, j_300, j_465, j_496, j_900, j_999, j_1000, j_65536, j_65537, j_99999, j_252645135, j_858993459, j_1431655765, k_0, k_1, k_27, k_32, k_74, k_75, k_100, k_1000, k_65537, ↓bd_e (e2), e2]
  rfl
/-- the first week with somebody under -/
def pun (a : Ab) (s : Int) (j : Nat) : Bool := decide (¬ und (hgt (qL a) (wks (qL a) (upS (qS a) 30 s) j).1) (hn (qL a)) = 0)
def fsz (p : Nat → Bool) (n : Nat) : Int := if fsi p (n + 1) < n + 1 then (fsi p (n + 1) : Int) else -2
def w_snk (a : Ab) (s n : Int) : Int := fsz (pun a s) n.toNat
theorem c_snk {a : Ab} {t : Nat} {h : Hp} {s n : Int} (HA : AW a) (H : CI a t h) (hs : rng s) (hn' : rng n) : Cq (F_cs_sunkAt 0 (J s) (J n) h) h (if ¬ qL a 1 0 = 0 ∧ ((0 ≤ s ∧ s ≤ 65536) ∧ (0 ≤ n ∧ n ≤ 20)) then w_snk a s n else -1) (t_2 (¬ qL a 1 0 = 0) ((0 ≤ s ∧ s ≤ 65536) ∧ (0 ≤ n ∧ n ≤ 20))) := by
  unfold F_cs_sunkAt
  refine cq_2 (V := fun b => w_snk b s n) rfl jm1 HA H (pr_L HA H) (pr_w hs hn') (fun c d b h1 eb A1 H1 => ?_)
  have b1 := LW_h A1.1
  have hne := hn_e A1.1
  obtain ⟨h2, e2, s2, g2, S2⟩ := C_eatLater A1 H1 (n := 0) d.1 (by omega)
  obtain ⟨N, rfl⟩ := Int.eq_ofNat_of_zero_le d.2.1
  have V1 := H1.1
  have wk := A1.2.1.2.1
  have W2 := sw_30 A1.1 A1.2.1.1 d.1
  obtain ⟨m1, m2, m3⟩ := fsi_p (pun b s) (N + 1)
  obtain ⟨w, hw⟩ : ∃ w, w = fsi (pun b s) (N + 1) := ⟨_, rfl⟩
  rw [← hw] at m1 m2 m3
  have stp : ∀ (i : Nat) (h3 : Hp), Sc h1 h3 → fi h3 0 12 = fi h1 0 12 → SR (qL b) 47 (upS (wks (qL b) (upS (qS b) 30 s) i).1 29 (qS b 29 + i)) h3 → ∃ h4, F_ra_measure 50 t 47 h3 = some h4 ∧ Sc h1 h4 ∧ fi h4 0 12 = fi h1 0 12 ∧ SR (qL b) 47 (upS (wks (qL b) (upS (qS b) 30 s) i).1 29 (qS b 29 + i)) h4 ∧ F_ra_underBits 50 h4 = some (J (und (hgt (qL b) (wks (qL b) (upS (qS b) 30 s) i).1) (hn (qL b)) : Nat)) := by
    intro i h3 s3 g3 S3
    obtain ⟨h4, e4, s4, g4, S4, z4, H4⟩ := C_meas47 A1 H1 s3 (wks_p A1.1 (by omega) W2 i).1 S3
    have V4 := XV_fm (sc_tr s3 s4).1 (by omega) V1
    exact ⟨h4, e4, sc_tr s3 s4, g4.trans g3, S4, C_underBits A1.1 (XV_r50 V4) z4 H4⟩
  obtain ⟨y, h3, e3, q3⟩ := lp_for (b := B_cs_sunkAt_27 0 (J N)) (f := FU) (s := J 0) (h := h2) (fun i s' h' => s' = J i ∧ Sc h1 h' ∧ fi h' 0 12 = fi h1 0 12 ∧ SR (qL b) 47 (upS (wks (qL b) (upS (qS b) 30 s) i).1 29 (qS b 29 + i)) h') (fun y h' => y = (if w < N + 1 then Sum.inr (J (w : Nat)) else Sum.inl ()) ∧ Sc h1 h' ∧ fi h' 0 12 = fi h1 0 12) w (by unfold FU; omega) ⟨rfl, s2, g2, S2⟩ (fun i s' h3 hi hI => by
      obtain ⟨rfl, s3, g3, S3⟩ := hI
      obtain ⟨h4, e4, s4, g4, S4, u4⟩ := stp i h3 s3 g3 S3
      have V3 := XV_fm s3.1 (by omega) V1
      have V4 := XV_fm s4.1 (by omega) V1
      have z0 : und (hgt (qL b) (wks (qL b) (upS (qS b) 30 s) i).1) (hn (qL b)) = 0 := Decidable.not_not.mp (of_decide_eq_false (m2 i hi))
      rw [z0] at u4
      replace u4 : F_ra_underBits 50 h4 = some (J 0) := u4
      obtain ⟨h5, e5, s5, g5, S5⟩ := C_pass A1 H1 s4 (wks_p A1.1 (by omega) W2 i).1 (by omega) S4
      refine ⟨J (i + 1 : Nat), h5, ?_, rfl, sc_tr s4 s5, g5.trans g4, ?_⟩
      · unfold B_cs_sunkAt_27
        try simp only [j_0, j_1, j_2, j_3, j_4, j_5, j_6, j_7, j_8, j_9, j_10, j_11, j_12, j_13, j_14, j_15, j_16, j_17, j_18, j_19, j_20, j_21, j_22, j_23, j_24, j_25, j_26, j_27, j_28, j_29, j_30, j_31, j_32, j_33, j_34, j_35, j_36, j_37, j_38, j_39, j_40, j_41, j_42, j_43, j_44, j_45, j_46, j_47, j_48, j_49, j_50, j_51, j_52, j_57, j_59, j_63, j_74, j_75, j_93, j_97, j_99, j_100, j_122, j_200, j_255, j_300, j_465, j_496, j_900, j_999, j_1000, j_65536, j_65537, j_99999, j_252645135, j_858993459, j_1431655765, k_0, k_1, k_27, k_32, k_74, k_75, k_100, k_1000, k_65537]
        simp (disch := first | with_reducible assumption | omega | trivial) only [↓bn_s1, ↓bd_s1, ↓ei_l1, ↓ei_r1, ↓bn_if, ↓ilt_1, ↓ilt_0, ↓ieq_1, ↓ieq_0, bn_s1, bd_s1, ei_l1, ei_r1, J_add, J_sub, J_mul, J_neg, J_lt, J_le, J_eq, dv_J, rm_J, if_pos, if_neg, ↓reduceIte, bitJ, shlJ, orJ, j_0, j_1, j_2, j_3, j_4, j_5, j_6, j_7, j_8, j_9, j_10, j_11, j_12, j_13, j_14, j_15, j_16, j_17, j_18, j_19, j_20, j_21, j_22, j_23, j_24, j_25, j_26, j_27, j_28, j_29, j_30, j_31, j_32, j_33, j_34, j_35, j_36, j_37, j_38, j_39, j_40, j_41, j_42, j_43, j_44, j_45, j_46, j_47, j_48, j_49, j_50, j_51, j_52, j_57, j_59, j_63, j_74, j_75, j_93, j_97, j_99, j_100, j_122, j_200, j_255, j_300, j_465, j_496, j_900, j_999, j_1000, j_65536, j_65537, j_99999, j_252645135, j_858993459, j_1431655765, k_0, k_1, k_27, k_32, k_74, k_75, k_100, k_1000, k_65537, vr_0 V3, ↓vr_0_b V3, vr_2 V3, ↓vr_2_b V3, vr_4 V3, ↓vr_4_b V3, vr_5 V3, ↓vr_5_b V3, vr_6 V3, ↓vr_6_b V3, vr_7 V3, ↓vr_7_b V3, vr_8 V3, ↓vr_8_b V3, vr_9 V3, ↓vr_9_b V3, vr_10 V3, ↓vr_10_b V3, vr_11 V3, ↓vr_11_b V3, vr_3 V3, ↓vr_3_b V3, v0i V3, ↓v0i_b V3, v0p V3, ↓v0p_b V3, ↓bn_e (e4), e4, vr_0 V4, ↓vr_0_b V4, vr_2 V4, ↓vr_2_b V4, vr_4 V4, ↓vr_4_b V4, vr_5 V4, ↓vr_5_b V4, vr_6 V4, ↓vr_6_b V4, vr_7 V4, ↓vr_7_b V4, vr_8 V4, ↓vr_8_b V4, vr_9 V4, ↓vr_9_b V4, vr_10 V4, ↓vr_10_b V4, vr_11 V4, ↓vr_11_b V4, vr_3 V4, ↓vr_3_b V4, v0i V4, ↓v0i_b V4, v0p V4, ↓v0p_b V4, ↓bn_e (u4), u4, ↓bd_e (e5), e5]
        rfl
      · have e6 : qS b 29 + ((i + 1 : Nat) : Int) = qS b 29 + i + 1 := by omega
        rw [e6]; exact S5) (fun s' h3 hI => by
      obtain ⟨rfl, s3, g3, S3⟩ := hI
      by_cases cm : w < N + 1
      · obtain ⟨h4, e4, s4, g4, S4, u4⟩ := stp w h3 s3 g3 S3
        have V3 := XV_fm s3.1 (by omega) V1
        have V4 := XV_fm s4.1 (by omega) V1
        have z0 : ¬ und (hgt (qL b) (wks (qL b) (upS (qS b) 30 s) w).1) (hn (qL b)) = 0 := of_decide_eq_true (m3 cm)
        have u32 := und_32 (hgt (qL b) (wks (qL b) (upS (qS b) 30 s) w).1) (n := hn (qL b)) (by omega)
        refine ⟨_, h4, ?_, (if_pos cm).symm, s4, g4⟩
        unfold B_cs_sunkAt_27
        try simp only [j_0, j_1, j_2, j_3, j_4, j_5, j_6, j_7, j_8, j_9, j_10, j_11, j_12, j_13, j_14, j_15, j_16, j_17, j_18, j_19, j_20, j_21, j_22, j_23, j_24, j_25, j_26, j_27, j_28, j_29, j_30, j_31, j_32, j_33, j_34, j_35, j_36, j_37, j_38, j_39, j_40, j_41, j_42, j_43, j_44, j_45, j_46, j_47, j_48, j_49, j_50, j_51, j_52, j_57, j_59, j_63, j_74, j_75, j_93, j_97, j_99, j_100, j_122, j_200, j_255, j_300, j_465, j_496, j_900, j_999, j_1000, j_65536, j_65537, j_99999, j_252645135, j_858993459, j_1431655765, k_0, k_1, k_27, k_32, k_74, k_75, k_100, k_1000, k_65537]
        simp (disch := first | with_reducible assumption | omega | trivial) only [↓bn_s1, ↓bd_s1, ↓ei_l1, ↓ei_r1, ↓bn_if, ↓ilt_1, ↓ilt_0, ↓ieq_1, ↓ieq_0, bn_s1, bd_s1, ei_l1, ei_r1, J_add, J_sub, J_mul, J_neg, J_lt, J_le, J_eq, dv_J, rm_J, if_pos, if_neg, ↓reduceIte, bitJ, shlJ, orJ, j_0, j_1, j_2, j_3, j_4, j_5, j_6, j_7, j_8, j_9, j_10, j_11, j_12, j_13, j_14, j_15, j_16, j_17, j_18, j_19, j_20, j_21, j_22, j_23, j_24, j_25, j_26, j_27, j_28, j_29, j_30, j_31, j_32, j_33, j_34, j_35, j_36, j_37, j_38, j_39, j_40, j_41, j_42, j_43, j_44, j_45, j_46, j_47, j_48, j_49, j_50, j_51, j_52, j_57, j_59, j_63, j_74, j_75, j_93, j_97, j_99, j_100, j_122, j_200, j_255, j_300, j_465, j_496, j_900, j_999, j_1000, j_65536, j_65537, j_99999, j_252645135, j_858993459, j_1431655765, k_0, k_1, k_27, k_32, k_74, k_75, k_100, k_1000, k_65537, vr_0 V3, ↓vr_0_b V3, vr_2 V3, ↓vr_2_b V3, vr_4 V3, ↓vr_4_b V3, vr_5 V3, ↓vr_5_b V3, vr_6 V3, ↓vr_6_b V3, vr_7 V3, ↓vr_7_b V3, vr_8 V3, ↓vr_8_b V3, vr_9 V3, ↓vr_9_b V3, vr_10 V3, ↓vr_10_b V3, vr_11 V3, ↓vr_11_b V3, vr_3 V3, ↓vr_3_b V3, v0i V3, ↓v0i_b V3, v0p V3, ↓v0p_b V3, ↓bn_e (e4), e4, vr_0 V4, ↓vr_0_b V4, vr_2 V4, ↓vr_2_b V4, vr_4 V4, ↓vr_4_b V4, vr_5 V4, ↓vr_5_b V4, vr_6 V4, ↓vr_6_b V4, vr_7 V4, ↓vr_7_b V4, vr_8 V4, ↓vr_8_b V4, vr_9 V4, ↓vr_9_b V4, vr_10 V4, ↓vr_10_b V4, vr_11 V4, ↓vr_11_b V4, vr_3 V4, ↓vr_3_b V4, v0i V4, ↓v0i_b V4, v0p V4, ↓v0p_b V4, ↓bn_e (u4), u4]
      · refine ⟨_, h3, ?_, (if_neg cm).symm, s3, g3⟩
        unfold B_cs_sunkAt_27
        try simp only [j_0, j_1, j_2, j_3, j_4, j_5, j_6, j_7, j_8, j_9, j_10, j_11, j_12, j_13, j_14, j_15, j_16, j_17, j_18, j_19, j_20, j_21, j_22, j_23, j_24, j_25, j_26, j_27, j_28, j_29, j_30, j_31, j_32, j_33, j_34, j_35, j_36, j_37, j_38, j_39, j_40, j_41, j_42, j_43, j_44, j_45, j_46, j_47, j_48, j_49, j_50, j_51, j_52, j_57, j_59, j_63, j_74, j_75, j_93, j_97, j_99, j_100, j_122, j_200, j_255, j_300, j_465, j_496, j_900, j_999, j_1000, j_65536, j_65537, j_99999, j_252645135, j_858993459, j_1431655765, k_0, k_1, k_27, k_32, k_74, k_75, k_100, k_1000, k_65537]
        simp (disch := first | with_reducible assumption | omega | trivial) only [↓bn_s1, ↓bd_s1, ↓ei_l1, ↓ei_r1, ↓bn_if, ↓ilt_1, ↓ilt_0, ↓ieq_1, ↓ieq_0, bn_s1, bd_s1, ei_l1, ei_r1, J_add, J_sub, J_mul, J_neg, J_lt, J_le, J_eq, dv_J, rm_J, if_pos, if_neg, ↓reduceIte, bitJ, shlJ, orJ, j_0, j_1, j_2, j_3, j_4, j_5, j_6, j_7, j_8, j_9, j_10, j_11, j_12, j_13, j_14, j_15, j_16, j_17, j_18, j_19, j_20, j_21, j_22, j_23, j_24, j_25, j_26, j_27, j_28, j_29, j_30, j_31, j_32, j_33, j_34, j_35, j_36, j_37, j_38, j_39, j_40, j_41, j_42, j_43, j_44, j_45, j_46, j_47, j_48, j_49, j_50, j_51, j_52, j_57, j_59, j_63, j_74, j_75, j_93, j_97, j_99, j_100, j_122, j_200, j_255, j_300, j_465, j_496, j_900, j_999, j_1000, j_65536, j_65537, j_99999, j_252645135, j_858993459, j_1431655765, k_0, k_1, k_27, k_32, k_74, k_75, k_100, k_1000, k_65537])
  refine ⟨h3, ?_, q3.2⟩
  have ev : w_snk b s N = if w < N + 1 then (w : Int) else -2 := by unfold w_snk fsz; rw [Int.toNat_natCast, ← hw]
  have q31 := q3.1
  show _ = some (J (w_snk b s N), h3)
  rw [ev, jm2]
  by_cases cm : w < N + 1
  · rw [if_pos cm] at q31 ⊢
    try simp only [j_0, j_1, j_2, j_3, j_4, j_5, j_6, j_7, j_8, j_9, j_10, j_11, j_12, j_13, j_14, j_15, j_16, j_17, j_18, j_19, j_20, j_21, j_22, j_23, j_24, j_25, j_26, j_27, j_28, j_29, j_30, j_31, j_32, j_33, j_34, j_35, j_36, j_37, j_38, j_39, j_40, j_41, j_42, j_43, j_44, j_45, j_46, j_47, j_48, j_49, j_50, j_51, j_52, j_57, j_59, j_63, j_74, j_75, j_93, j_97, j_99, j_100, j_122, j_200, j_255, j_300, j_465, j_496, j_900, j_999, j_1000, j_65536, j_65537, j_99999, j_252645135, j_858993459, j_1431655765, k_0, k_1, k_27, k_32, k_74, k_75, k_100, k_1000, k_65537]
    simp (disch := first | with_reducible assumption | omega | trivial) only [↓bn_s1, ↓bd_s1, ↓ei_l1, ↓ei_r1, ↓bn_if, ↓ilt_1, ↓ilt_0, ↓ieq_1, ↓ieq_0, bn_s1, bd_s1, ei_l1, ei_r1, J_add, J_sub, J_mul, J_neg, J_lt, J_le, J_eq, dv_J, rm_J, if_pos, if_neg, ↓reduceIte, bitJ, shlJ, orJ, j_0, j_1, j_2, j_3, j_4, j_5, j_6, j_7, j_8, j_9, j_10, j_11, j_12, j_13, j_14, j_15, j_16, j_17, j_18, j_19, j_20, j_21, j_22, j_23, j_24, j_25, j_26, j_27, j_28, j_29, j_30, j_31, j_32, j_33, j_34, j_35, j_36, j_37, j_38, j_39, j_40, j_41, j_42, j_43, j_44, j_45, j_46, j_47, j_48, j_49, j_50, j_51, j_52, j_57, j_59, j_63, j_74, j_75, j_93, j_97, j_99, j_100, j_122, j_200, j_255, j_300, j_465, j_496, j_900, j_999, j_1000, j_65536, j_65537, j_99999, j_252645135, j_858993459, j_1431655765, k_0, k_1, k_27, k_32, k_74, k_75, k_100, k_1000, k_65537, ↓bd_e (e2), e2, ↓bd_e (e3), e3, q31]
  · rw [if_neg cm] at q31 ⊢
    try simp only [j_0, j_1, j_2, j_3, j_4, j_5, j_6, j_7, j_8, j_9, j_10, j_11, j_12, j_13, j_14, j_15, j_16, j_17, j_18, j_19, j_20, j_21, j_22, j_23, j_24, j_25, j_26, j_27, j_28, j_29, j_30, j_31, j_32, j_33, j_34, j_35, j_36, j_37, j_38, j_39, j_40, j_41, j_42, j_43, j_44, j_45, j_46, j_47, j_48, j_49, j_50, j_51, j_52, j_57, j_59, j_63, j_74, j_75, j_93, j_97, j_99, j_100, j_122, j_200, j_255, j_300, j_465, j_496, j_900, j_999, j_1000, j_65536, j_65537, j_99999, j_252645135, j_858993459, j_1431655765, k_0, k_1, k_27, k_32, k_74, k_75, k_100, k_1000, k_65537]
    simp (disch := first | with_reducible assumption | omega | trivial) only [↓bn_s1, ↓bd_s1, ↓ei_l1, ↓ei_r1, ↓bn_if, ↓ilt_1, ↓ilt_0, ↓ieq_1, ↓ieq_0, bn_s1, bd_s1, ei_l1, ei_r1, J_add, J_sub, J_mul, J_neg, J_lt, J_le, J_eq, dv_J, rm_J, if_pos, if_neg, ↓reduceIte, bitJ, shlJ, orJ, j_0, j_1, j_2, j_3, j_4, j_5, j_6, j_7, j_8, j_9, j_10, j_11, j_12, j_13, j_14, j_15, j_16, j_17, j_18, j_19, j_20, j_21, j_22, j_23, j_24, j_25, j_26, j_27, j_28, j_29, j_30, j_31, j_32, j_33, j_34, j_35, j_36, j_37, j_38, j_39, j_40, j_41, j_42, j_43, j_44, j_45, j_46, j_47, j_48, j_49, j_50, j_51, j_52, j_57, j_59, j_63, j_74, j_75, j_93, j_97, j_99, j_100, j_122, j_200, j_255, j_300, j_465, j_496, j_900, j_999, j_1000, j_65536, j_65537, j_99999, j_252645135, j_858993459, j_1431655765, k_0, k_1, k_27, k_32, k_74, k_75, k_100, k_1000, k_65537, ↓bd_e (e2), e2, ↓bd_e (e3), e3, q31]
/-! the reference -/
theorem fsz_s (p : Nat → Bool) (n : Nat) : fsz p (n + 1) = if fsz p n = -2 then (if p (n + 1) = true then ((n + 1 : Nat) : Int) else -2) else fsz p n := by
  have f := (fsi_p p (n + 1)).1
  have e : fsi p (n + 1 + 1) = if fsi p (n + 1) < n + 1 then fsi p (n + 1) else if p (n + 1) = true then n + 1 else n + 1 + 1 := rfl
  unfold fsz
  rw [e]
  by_cases c : fsi p (n + 1) < n + 1
  · rw [if_pos c, if_pos c, if_pos (by omega), if_neg (by omega)]
  · rw [if_neg c, if_neg c, if_pos rfl]
    by_cases d : p (n + 1) = true
    · rw [if_pos d, if_pos d, if_pos (by omega)]
    · rw [if_neg d, if_neg d, if_neg (by omega)]
theorem D_weeksAll {a : Ab} {h : Hp} {s n : Int} (HA : AW a) (H : RI a h) (c : ¬ qL a 1 0 = 0) (hs : 0 ≤ s ∧ s ≤ 65536) (hn' : 0 ≤ n ∧ n ≤ 20) : ∃ h', F_md_weeksAll 88 (J s) (J n) h = some (J (w_snk a s n), h') ∧ Qr h h' ∧ XR (wkx a s n).1 h' ∧ fi h' 88 36 = (wkx a s n).2 := by
  obtain ⟨b, C1⟩ := lk_1 H c
  obtain ⟨h2, e2, q2, x2, s2⟩ := wrk HA H
  have C2 := RC_qr q2 C1
  have b1 := LW_h HA.1
  have hne := hn_e HA.1
  have W2 := sw_30 HA.1 HA.2.1.1 hs
  obtain ⟨N, rfl⟩ := Int.eq_ofNat_of_zero_le hn'.1
  have x3 := XR_w C2.1 x2 (z := 30) (v := s) (by omega) (by omega) (by omega)
  have C3 := RC_qr (qr_x (h := h2) 30 s) C2
  obtain ⟨h4, hh4⟩ : ∃ h4, h4 = wF (wA h2 91 30 s) 88 36 0 := ⟨_, rfl⟩
  have q4 : Qr h h4 := by rw [hh4]; exact qr_tr q2 (qr_tr (qr_x _ _) (qr_w 0 (by omega)))
  have C4 := RC_qr q4 C1
  have x4 : XR (upS (qS a) 30 s) h4 := by rw [hh4]; exact x3
  have v4 : fi h4 88 36 = 0 := by rw [hh4]; exact fi_same (by omega) (by omega)
  have pb : ∀ j : Nat, (pun a s j = true) = ¬ und (hgt (qL a) (wks (qL a) (upS (qS a) 30 s) j).1) (hn (qL a)) = 0 := fun j => by unfold pun; exact propext decide_eq_true_iff
  have u4 := D_underNow HA.1 C4 x4 (sw_stk (by omega) W2)
  have u32 : ∀ j : Nat, und (hgt (qL a) (wks (qL a) (upS (qS a) 30 s) j).1) (hn (qL a)) < 32 := fun j => und_32 _ (by omega)
  have fb : ∀ j : Nat, -2 ≤ fsz (pun a s) j ∧ fsz (pun a s) j ≤ j := fun j => by
    unfold fsz
    by_cases cc : fsi (pun a s) (j + 1) < j + 1
    · rw [if_pos cc]; omega
    · rw [if_neg cc]; omega
  obtain ⟨y, h5, e5, q5⟩ := lp_for (b := B_md_weeksAll_34 88 (J N)) (f := FU) (s := (J (fsz (pun a s) 0), J 1)) (h := h4) (fun i s' h' => s' = (J (fsz (pun a s) i), J (i + 1 : Nat)) ∧ Qr h h' ∧ XR (wks (qL a) (upS (qS a) 30 s) i).1 h' ∧ fi h' 88 36 = (wks (qL a) (upS (qS a) 30 s) i).2) (fun y h' => y = J (fsz (pun a s) N) ∧ Qr h h' ∧ XR (wks (qL a) (upS (qS a) 30 s) N).1 h' ∧ fi h' 88 36 = (wks (qL a) (upS (qS a) 30 s) N).2) N (by unfold FU; omega) ⟨rfl, q4, x4, v4⟩ (fun i s' h5 hi hI => by
      obtain ⟨rfl, q5, x5, v5⟩ := hI
      have C5 := RC_qr q5 C1
      have wp := wks_p HA.1 (by omega) W2 i
      obtain ⟨h6, e6, f6, x6, v6⟩ := D_aWeek HA.1 C5 x5 wp.1 (by omega) v5 (by omega)
      have q6 := qr_tr q5 (qr_fw f6)
      have C6 := RC_qr q6 C1
      have u6 := D_underNow HA.1 C6 x6 (sw_stk (by omega) (wks_p HA.1 (by omega) W2 (i + 1)).1)
      replace u6 : F_md_underNow 88 h6 = some (J (und (hgt (qL a) (wks (qL a) (upS (qS a) 30 s) (i + 1)).1) (hn (qL a)) : Nat)) := u6
      have ul := u32 (i + 1)
      have fs := fsz_s (pun a s) i
      have fi' := fb i
      refine ⟨(J (fsz (pun a s) (i + 1)), J (i + 1 + 1 : Nat)), h6, ?_, rfl, q6, x6, v6⟩
      unfold B_md_weeksAll_34
      rw [jm2]
      have pbi := pb (i + 1)
      generalize und (hgt (qL a) (wks (qL a) (upS (qS a) 30 s) (i + 1)).1) (hn (qL a)) = uu at u6 ul pbi
      by_cases cc : fsz (pun a s) i = -2
      · rw [if_pos cc] at fs
        by_cases dd : uu = 0
        · rw [if_neg (by rw [pbi]; exact fun x => x dd)] at fs
          rw [fs, cc]
          try simp only [j_0, j_1, j_2, j_3, j_4, j_5, j_6, j_7, j_8, j_9, j_10, j_11, j_12, j_13, j_14, j_15, j_16, j_17, j_18, j_19, j_20, j_21, j_22, j_23, j_24, j_25, j_26, j_27, j_28, j_29, j_30, j_31, j_32, j_33, j_34, j_35, j_36, j_37, j_38, j_39, j_40, j_41, j_42, j_43, j_44, j_45, j_46, j_47, j_48, j_49, j_50, j_51, j_52, j_57, j_59, j_63, j_74, j_75, j_93, j_97, j_99, j_100, j_122, j_200, j_255, j_300, j_465, j_496, j_900, j_999, j_1000, j_65536, j_65537, j_99999, j_252645135, j_858993459, j_1431655765, k_0, k_1, k_27, k_32, k_74, k_75, k_100, k_1000, k_65537]
          simp (disch := first | with_reducible assumption | omega | trivial) only [↓bn_s1, ↓bd_s1, ↓ei_l1, ↓ei_r1, ↓bn_if, ↓ilt_1, ↓ilt_0, ↓ieq_1, ↓ieq_0, bn_s1, bd_s1, ei_l1, ei_r1, J_add, J_sub, J_mul, J_neg, J_lt, J_le, J_eq, dv_J, rm_J, if_pos, if_neg, ↓reduceIte, bitJ, shlJ, orJ, j_0, j_1, j_2, j_3, j_4, j_5, j_6, j_7, j_8, j_9, j_10, j_11, j_12, j_13, j_14, j_15, j_16, j_17, j_18, j_19, j_20, j_21, j_22, j_23, j_24, j_25, j_26, j_27, j_28, j_29, j_30, j_31, j_32, j_33, j_34, j_35, j_36, j_37, j_38, j_39, j_40, j_41, j_42, j_43, j_44, j_45, j_46, j_47, j_48, j_49, j_50, j_51, j_52, j_57, j_59, j_63, j_74, j_75, j_93, j_97, j_99, j_100, j_122, j_200, j_255, j_300, j_465, j_496, j_900, j_999, j_1000, j_65536, j_65537, j_99999, j_252645135, j_858993459, j_1431655765, k_0, k_1, k_27, k_32, k_74, k_75, k_100, k_1000, k_65537, ↓bn_e (e6), e6, ↓bn_e (u6), u6, dd]
          rfl
        · rw [if_pos (by rw [pbi]; exact dd)] at fs
          rw [fs, cc]
          try simp only [j_0, j_1, j_2, j_3, j_4, j_5, j_6, j_7, j_8, j_9, j_10, j_11, j_12, j_13, j_14, j_15, j_16, j_17, j_18, j_19, j_20, j_21, j_22, j_23, j_24, j_25, j_26, j_27, j_28, j_29, j_30, j_31, j_32, j_33, j_34, j_35, j_36, j_37, j_38, j_39, j_40, j_41, j_42, j_43, j_44, j_45, j_46, j_47, j_48, j_49, j_50, j_51, j_52, j_57, j_59, j_63, j_74, j_75, j_93, j_97, j_99, j_100, j_122, j_200, j_255, j_300, j_465, j_496, j_900, j_999, j_1000, j_65536, j_65537, j_99999, j_252645135, j_858993459, j_1431655765, k_0, k_1, k_27, k_32, k_74, k_75, k_100, k_1000, k_65537]
          simp (disch := first | with_reducible assumption | omega | trivial) only [↓bn_s1, ↓bd_s1, ↓ei_l1, ↓ei_r1, ↓bn_if, ↓ilt_1, ↓ilt_0, ↓ieq_1, ↓ieq_0, bn_s1, bd_s1, ei_l1, ei_r1, J_add, J_sub, J_mul, J_neg, J_lt, J_le, J_eq, dv_J, rm_J, if_pos, if_neg, ↓reduceIte, bitJ, shlJ, orJ, j_0, j_1, j_2, j_3, j_4, j_5, j_6, j_7, j_8, j_9, j_10, j_11, j_12, j_13, j_14, j_15, j_16, j_17, j_18, j_19, j_20, j_21, j_22, j_23, j_24, j_25, j_26, j_27, j_28, j_29, j_30, j_31, j_32, j_33, j_34, j_35, j_36, j_37, j_38, j_39, j_40, j_41, j_42, j_43, j_44, j_45, j_46, j_47, j_48, j_49, j_50, j_51, j_52, j_57, j_59, j_63, j_74, j_75, j_93, j_97, j_99, j_100, j_122, j_200, j_255, j_300, j_465, j_496, j_900, j_999, j_1000, j_65536, j_65537, j_99999, j_252645135, j_858993459, j_1431655765, k_0, k_1, k_27, k_32, k_74, k_75, k_100, k_1000, k_65537, ↓bn_e (e6), e6, ↓bn_e (u6), u6]
          rfl
      · rw [if_neg cc] at fs
        rw [fs]
        try simp only [j_0, j_1, j_2, j_3, j_4, j_5, j_6, j_7, j_8, j_9, j_10, j_11, j_12, j_13, j_14, j_15, j_16, j_17, j_18, j_19, j_20, j_21, j_22, j_23, j_24, j_25, j_26, j_27, j_28, j_29, j_30, j_31, j_32, j_33, j_34, j_35, j_36, j_37, j_38, j_39, j_40, j_41, j_42, j_43, j_44, j_45, j_46, j_47, j_48, j_49, j_50, j_51, j_52, j_57, j_59, j_63, j_74, j_75, j_93, j_97, j_99, j_100, j_122, j_200, j_255, j_300, j_465, j_496, j_900, j_999, j_1000, j_65536, j_65537, j_99999, j_252645135, j_858993459, j_1431655765, k_0, k_1, k_27, k_32, k_74, k_75, k_100, k_1000, k_65537]
        simp (disch := first | with_reducible assumption | omega | trivial) only [↓bn_s1, ↓bd_s1, ↓ei_l1, ↓ei_r1, ↓bn_if, ↓ilt_1, ↓ilt_0, ↓ieq_1, ↓ieq_0, bn_s1, bd_s1, ei_l1, ei_r1, J_add, J_sub, J_mul, J_neg, J_lt, J_le, J_eq, dv_J, rm_J, if_pos, if_neg, ↓reduceIte, bitJ, shlJ, orJ, j_0, j_1, j_2, j_3, j_4, j_5, j_6, j_7, j_8, j_9, j_10, j_11, j_12, j_13, j_14, j_15, j_16, j_17, j_18, j_19, j_20, j_21, j_22, j_23, j_24, j_25, j_26, j_27, j_28, j_29, j_30, j_31, j_32, j_33, j_34, j_35, j_36, j_37, j_38, j_39, j_40, j_41, j_42, j_43, j_44, j_45, j_46, j_47, j_48, j_49, j_50, j_51, j_52, j_57, j_59, j_63, j_74, j_75, j_93, j_97, j_99, j_100, j_122, j_200, j_255, j_300, j_465, j_496, j_900, j_999, j_1000, j_65536, j_65537, j_99999, j_252645135, j_858993459, j_1431655765, k_0, k_1, k_27, k_32, k_74, k_75, k_100, k_1000, k_65537, ↓bn_e (e6), e6]
        rfl) (fun s' h5 hI => by
      obtain ⟨rfl, q5, x5, v5⟩ := hI
      refine ⟨_, h5, ?_, rfl, q5, x5, v5⟩
      unfold B_md_weeksAll_34
      try simp only [j_0, j_1, j_2, j_3, j_4, j_5, j_6, j_7, j_8, j_9, j_10, j_11, j_12, j_13, j_14, j_15, j_16, j_17, j_18, j_19, j_20, j_21, j_22, j_23, j_24, j_25, j_26, j_27, j_28, j_29, j_30, j_31, j_32, j_33, j_34, j_35, j_36, j_37, j_38, j_39, j_40, j_41, j_42, j_43, j_44, j_45, j_46, j_47, j_48, j_49, j_50, j_51, j_52, j_57, j_59, j_63, j_74, j_75, j_93, j_97, j_99, j_100, j_122, j_200, j_255, j_300, j_465, j_496, j_900, j_999, j_1000, j_65536, j_65537, j_99999, j_252645135, j_858993459, j_1431655765, k_0, k_1, k_27, k_32, k_74, k_75, k_100, k_1000, k_65537]
      simp (disch := first | with_reducible assumption | omega | trivial) only [↓bn_s1, ↓bd_s1, ↓ei_l1, ↓ei_r1, ↓bn_if, ↓ilt_1, ↓ilt_0, ↓ieq_1, ↓ieq_0, bn_s1, bd_s1, ei_l1, ei_r1, J_add, J_sub, J_mul, J_neg, J_lt, J_le, J_eq, dv_J, rm_J, if_pos, if_neg, ↓reduceIte, bitJ, shlJ, orJ, j_0, j_1, j_2, j_3, j_4, j_5, j_6, j_7, j_8, j_9, j_10, j_11, j_12, j_13, j_14, j_15, j_16, j_17, j_18, j_19, j_20, j_21, j_22, j_23, j_24, j_25, j_26, j_27, j_28, j_29, j_30, j_31, j_32, j_33, j_34, j_35, j_36, j_37, j_38, j_39, j_40, j_41, j_42, j_43, j_44, j_45, j_46, j_47, j_48, j_49, j_50, j_51, j_52, j_57, j_59, j_63, j_74, j_75, j_93, j_97, j_99, j_100, j_122, j_200, j_255, j_300, j_465, j_496, j_900, j_999, j_1000, j_65536, j_65537, j_99999, j_252645135, j_858993459, j_1431655765, k_0, k_1, k_27, k_32, k_74, k_75, k_100, k_1000, k_65537])
  have ew : w_snk a s N = fsz (pun a s) N := by unfold w_snk; rw [Int.toNat_natCast]
  have ex : wkx a s N = wks (qL a) (upS (qS a) 30 s) N := by unfold wkx; rw [Int.toNat_natCast]
  rw [ew, ex]
  refine ⟨h5, ?_, q5.2⟩
  unfold F_md_weeksAll
  rw [ck_e (MS_k H.1), jm2]
  have q51 := q5.1
  have fs0 : fsz (pun a s) 0 = if pun a s 0 = true then 0 else -2 := by
    have e1 : fsi (pun a s) (0 + 1) = if 0 < 0 then 0 else if pun a s 0 = true then 0 else 1 := rfl
    rw [if_neg (by omega)] at e1
    unfold fsz
    rw [e1]
    by_cases cc : pun a s 0 = true
    · rw [if_pos cc, if_pos cc, if_pos (by omega)]; rfl
    · rw [if_neg cc, if_neg cc, if_neg (by omega)]
  have ul := u32 0
  have pb0 := pb 0
  replace u4 : F_md_underNow 88 h4 = some (J (und (hgt (qL a) (wks (qL a) (upS (qS a) 30 s) 0).1) (hn (qL a)) : Nat)) := u4
  generalize und (hgt (qL a) (wks (qL a) (upS (qS a) 30 s) 0).1) (hn (qL a)) = uu at u4 ul pb0
  by_cases dd : uu = 0
  · rw [if_neg (by rw [pb0]; exact fun x => x dd)] at fs0
    rw [fs0] at e5
    try simp only [j_0, j_1, j_2, j_3, j_4, j_5, j_6, j_7, j_8, j_9, j_10, j_11, j_12, j_13, j_14, j_15, j_16, j_17, j_18, j_19, j_20, j_21, j_22, j_23, j_24, j_25, j_26, j_27, j_28, j_29, j_30, j_31, j_32, j_33, j_34, j_35, j_36, j_37, j_38, j_39, j_40, j_41, j_42, j_43, j_44, j_45, j_46, j_47, j_48, j_49, j_50, j_51, j_52, j_57, j_59, j_63, j_74, j_75, j_93, j_97, j_99, j_100, j_122, j_200, j_255, j_300, j_465, j_496, j_900, j_999, j_1000, j_65536, j_65537, j_99999, j_252645135, j_858993459, j_1431655765, k_0, k_1, k_27, k_32, k_74, k_75, k_100, k_1000, k_65537]
    simp (disch := first | with_reducible assumption | omega | trivial) only [↓bn_s1, ↓bd_s1, ↓ei_l1, ↓ei_r1, ↓bn_if, ↓ilt_1, ↓ilt_0, ↓ieq_1, ↓ieq_0, bn_s1, bd_s1, ei_l1, ei_r1, J_add, J_sub, J_mul, J_neg, J_lt, J_le, J_eq, dv_J, rm_J, if_pos, if_neg, ↓reduceIte, bitJ, shlJ, orJ, j_0, j_1, j_2, j_3, j_4, j_5, j_6, j_7, j_8, j_9, j_10, j_11, j_12, j_13, j_14, j_15, j_16, j_17, j_18, j_19, j_20, j_21, j_22, j_23, j_24, j_25, j_26, j_27, j_28, j_29, j_30, j_31, j_32, j_33, j_34, j_35, j_36, j_37, j_38, j_39, j_40, j_41, j_42, j_43, j_44, j_45, j_46, j_47, j_48, j_49, j_50, j_51, j_52, j_57, j_59, j_63, j_74, j_75, j_93, j_97, j_99, j_100, j_122, j_200, j_255, j_300, j_465, j_496, j_900, j_999, j_1000, j_65536, j_65537, j_99999, j_252645135, j_858993459, j_1431655765, k_0, k_1, k_27, k_32, k_74, k_75, k_100, k_1000, k_65537, ↓bn_e (e2), e2, cl_r C2, ↓cl_r_b C2, cl_q C2, ↓cl_q_b C2, ci_0 C2, ↓ci_0_b C2, ci_1 C2, ↓ci_1_b C2, ci_2 C2, ↓ci_2_b C2, ci_3 C2, ↓ci_3_b C2, ci_4 C2, ↓ci_4_b C2, ci_5 C2, ↓ci_5_b C2, ci_6 C2, ↓ci_6_b C2, ci_7 C2, ↓ci_7_b C2, cr_9 C2, ↓cr_9_b C2, cr_10 C2, ↓cr_10_b C2, cr_11 C2, ↓cr_11_b C2, cr_13 C2, ↓cr_13_b C2, cr_14 C2, ↓cr_14_b C2, cr_15 C2, ↓cr_15_b C2, cr_16 C2, ↓cr_16_b C2, cr_17 C2, ↓cr_17_b C2, cr_18 C2, ↓cr_18_b C2, cr_19 C2, ↓cr_19_b C2, cr_20 C2, ↓cr_20_b C2, cr_21 C2, ↓cr_21_b C2, cr_22 C2, ↓cr_22_b C2, cr_23 C2, ↓cr_23_b C2, cr_24 C2, ↓cr_24_b C2, cr_25 C2, ↓cr_25_b C2, cr_26 C2, ↓cr_26_b C2, ca_9 HA.1 C2, ↓ca_9_b HA.1 C2, ca_10 HA.1 C2, ↓ca_10_b HA.1 C2, ca_11 HA.1 C2, ↓ca_11_b HA.1 C2, ca_13 HA.1 C2, ↓ca_13_b HA.1 C2, ca_14 HA.1 C2, ↓ca_14_b HA.1 C2, ca_15 HA.1 C2, ↓ca_15_b HA.1 C2, ca_16 HA.1 C2, ↓ca_16_b HA.1 C2, ca_17 HA.1 C2, ↓ca_17_b HA.1 C2, ca_18 HA.1 C2, ↓ca_18_b HA.1 C2, ca_19 HA.1 C2, ↓ca_19_b HA.1 C2, ca_20 HA.1 C2, ↓ca_20_b HA.1 C2, ca_21 HA.1 C2, ↓ca_21_b HA.1 C2, ca_22 HA.1 C2, ↓ca_22_b HA.1 C2, ca_23 HA.1 C2, ↓ca_23_b HA.1 C2, ca_24 HA.1 C2, ↓ca_24_b HA.1 C2, ca_25 HA.1 C2, ↓ca_25_b HA.1 C2, ca_26 HA.1 C2, ↓ca_26_b HA.1 C2, m_i C2.1, ↓m_i_b C2.1, m_p C2.1, ↓m_p_b C2.1, m_l C2.1, ↓m_l_b C2.1, m_pl C2.1, ↓m_pl_b C2.1, mr_15 C2.1, ↓mr_15_b C2.1, mr_16 C2.1, ↓mr_16_b C2.1, mr_17 C2.1, ↓mr_17_b C2.1, mr_18 C2.1, ↓mr_18_b C2.1, mr_21 C2.1, ↓mr_21_b C2.1, mr_22 C2.1, ↓mr_22_b C2.1, mr_23 C2.1, ↓mr_23_b C2.1, mr_24 C2.1, ↓mr_24_b C2.1, mr_25 C2.1, ↓mr_25_b C2.1, mr_30 C2.1, ↓mr_30_b C2.1, mr_31 C2.1, ↓mr_31_b C2.1, m90a C2.1, ↓m90a_b C2.1, m90s C2.1, ↓m90s_b C2.1, m91a C2.1, ↓m91a_b C2.1, m91s C2.1, ↓m91s_b C2.1, m92a C2.1, ↓m92a_b C2.1, m92s C2.1, ↓m92s_b C2.1, m93a C2.1, ↓m93a_b C2.1, m93s C2.1, ↓m93s_b C2.1, m94a C2.1, ↓m94a_b C2.1, m94s C2.1, ↓m94s_b C2.1, m95a C2.1, ↓m95a_b C2.1, m95s C2.1, ↓m95s_b C2.1, m96a C2.1, ↓m96a_b C2.1, m96s C2.1, ↓m96s_b C2.1, m97a C2.1, ↓m97a_b C2.1, m97s C2.1, ↓m97s_b C2.1, m98a C2.1, ↓m98a_b C2.1, m98s C2.1, ↓m98s_b C2.1, m99a C2.1, ↓m99a_b C2.1, m99s C2.1, ↓m99s_b C2.1, m100a C2.1, ↓m100a_b C2.1, m100s C2.1, ↓m100s_b C2.1, m_i C3.1, ↓m_i_b C3.1, m_p C3.1, ↓m_p_b C3.1, m_l C3.1, ↓m_l_b C3.1, m_pl C3.1, ↓m_pl_b C3.1, mr_15 C3.1, ↓mr_15_b C3.1, mr_16 C3.1, ↓mr_16_b C3.1, mr_17 C3.1, ↓mr_17_b C3.1, mr_18 C3.1, ↓mr_18_b C3.1, mr_21 C3.1, ↓mr_21_b C3.1, mr_22 C3.1, ↓mr_22_b C3.1, mr_23 C3.1, ↓mr_23_b C3.1, mr_24 C3.1, ↓mr_24_b C3.1, mr_25 C3.1, ↓mr_25_b C3.1, mr_30 C3.1, ↓mr_30_b C3.1, mr_31 C3.1, ↓mr_31_b C3.1, m90a C3.1, ↓m90a_b C3.1, m90s C3.1, ↓m90s_b C3.1, m91a C3.1, ↓m91a_b C3.1, m91s C3.1, ↓m91s_b C3.1, m92a C3.1, ↓m92a_b C3.1, m92s C3.1, ↓m92s_b C3.1, m93a C3.1, ↓m93a_b C3.1, m93s C3.1, ↓m93s_b C3.1, m94a C3.1, ↓m94a_b C3.1, m94s C3.1, ↓m94s_b C3.1, m95a C3.1, ↓m95a_b C3.1, m95s C3.1, ↓m95s_b C3.1, m96a C3.1, ↓m96a_b C3.1, m96s C3.1, ↓m96s_b C3.1, m97a C3.1, ↓m97a_b C3.1, m97s C3.1, ↓m97s_b C3.1, m98a C3.1, ↓m98a_b C3.1, m98s C3.1, ↓m98s_b C3.1, m99a C3.1, ↓m99a_b C3.1, m99s C3.1, ↓m99s_b C3.1, m100a C3.1, ↓m100a_b C3.1, m100s C3.1, ↓m100s_b C3.1, ← hh4, ↓bn_e (u4), u4, dd, ↓bd_e (e5), e5, q51]
  · rw [if_pos (by rw [pb0]; exact dd)] at fs0
    rw [fs0] at e5
    try simp only [j_0, j_1, j_2, j_3, j_4, j_5, j_6, j_7, j_8, j_9, j_10, j_11, j_12, j_13, j_14, j_15, j_16, j_17, j_18, j_19, j_20, j_21, j_22, j_23, j_24, j_25, j_26, j_27, j_28, j_29, j_30, j_31, j_32, j_33, j_34, j_35, j_36, j_37, j_38, j_39, j_40, j_41, j_42, j_43, j_44, j_45, j_46, j_47, j_48, j_49, j_50, j_51, j_52, j_57, j_59, j_63, j_74, j_75, j_93, j_97, j_99, j_100, j_122, j_200, j_255, j_300, j_465, j_496, j_900, j_999, j_1000, j_65536, j_65537, j_99999, j_252645135, j_858993459, j_1431655765, k_0, k_1, k_27, k_32, k_74, k_75, k_100, k_1000, k_65537]
    simp (disch := first | with_reducible assumption | omega | trivial) only [↓bn_s1, ↓bd_s1, ↓ei_l1, ↓ei_r1, ↓bn_if, ↓ilt_1, ↓ilt_0, ↓ieq_1, ↓ieq_0, bn_s1, bd_s1, ei_l1, ei_r1, J_add, J_sub, J_mul, J_neg, J_lt, J_le, J_eq, dv_J, rm_J, if_pos, if_neg, ↓reduceIte, bitJ, shlJ, orJ, j_0, j_1, j_2, j_3, j_4, j_5, j_6, j_7, j_8, j_9, j_10, j_11, j_12, j_13, j_14, j_15, j_16, j_17, j_18, j_19, j_20, j_21, j_22, j_23, j_24, j_25, j_26, j_27, j_28, j_29, j_30, j_31, j_32, j_33, j_34, j_35, j_36, j_37, j_38, j_39, j_40, j_41, j_42, j_43, j_44, j_45, j_46, j_47, j_48, j_49, j_50, j_51, j_52, j_57, j_59, j_63, j_74, j_75, j_93, j_97, j_99, j_100, j_122, j_200, j_255, j_300, j_465, j_496, j_900, j_999, j_1000, j_65536, j_65537, j_99999, j_252645135, j_858993459, j_1431655765, k_0, k_1, k_27, k_32, k_74, k_75, k_100, k_1000, k_65537, ↓bn_e (e2), e2, cl_r C2, ↓cl_r_b C2, cl_q C2, ↓cl_q_b C2, ci_0 C2, ↓ci_0_b C2, ci_1 C2, ↓ci_1_b C2, ci_2 C2, ↓ci_2_b C2, ci_3 C2, ↓ci_3_b C2, ci_4 C2, ↓ci_4_b C2, ci_5 C2, ↓ci_5_b C2, ci_6 C2, ↓ci_6_b C2, ci_7 C2, ↓ci_7_b C2, cr_9 C2, ↓cr_9_b C2, cr_10 C2, ↓cr_10_b C2, cr_11 C2, ↓cr_11_b C2, cr_13 C2, ↓cr_13_b C2, cr_14 C2, ↓cr_14_b C2, cr_15 C2, ↓cr_15_b C2, cr_16 C2, ↓cr_16_b C2, cr_17 C2, ↓cr_17_b C2, cr_18 C2, ↓cr_18_b C2, cr_19 C2, ↓cr_19_b C2, cr_20 C2, ↓cr_20_b C2, cr_21 C2, ↓cr_21_b C2, cr_22 C2, ↓cr_22_b C2, cr_23 C2, ↓cr_23_b C2, cr_24 C2, ↓cr_24_b C2, cr_25 C2, ↓cr_25_b C2, cr_26 C2, ↓cr_26_b C2, ca_9 HA.1 C2, ↓ca_9_b HA.1 C2, ca_10 HA.1 C2, ↓ca_10_b HA.1 C2, ca_11 HA.1 C2, ↓ca_11_b HA.1 C2, ca_13 HA.1 C2, ↓ca_13_b HA.1 C2, ca_14 HA.1 C2, ↓ca_14_b HA.1 C2, ca_15 HA.1 C2, ↓ca_15_b HA.1 C2, ca_16 HA.1 C2, ↓ca_16_b HA.1 C2, ca_17 HA.1 C2, ↓ca_17_b HA.1 C2, ca_18 HA.1 C2, ↓ca_18_b HA.1 C2, ca_19 HA.1 C2, ↓ca_19_b HA.1 C2, ca_20 HA.1 C2, ↓ca_20_b HA.1 C2, ca_21 HA.1 C2, ↓ca_21_b HA.1 C2, ca_22 HA.1 C2, ↓ca_22_b HA.1 C2, ca_23 HA.1 C2, ↓ca_23_b HA.1 C2, ca_24 HA.1 C2, ↓ca_24_b HA.1 C2, ca_25 HA.1 C2, ↓ca_25_b HA.1 C2, ca_26 HA.1 C2, ↓ca_26_b HA.1 C2, m_i C2.1, ↓m_i_b C2.1, m_p C2.1, ↓m_p_b C2.1, m_l C2.1, ↓m_l_b C2.1, m_pl C2.1, ↓m_pl_b C2.1, mr_15 C2.1, ↓mr_15_b C2.1, mr_16 C2.1, ↓mr_16_b C2.1, mr_17 C2.1, ↓mr_17_b C2.1, mr_18 C2.1, ↓mr_18_b C2.1, mr_21 C2.1, ↓mr_21_b C2.1, mr_22 C2.1, ↓mr_22_b C2.1, mr_23 C2.1, ↓mr_23_b C2.1, mr_24 C2.1, ↓mr_24_b C2.1, mr_25 C2.1, ↓mr_25_b C2.1, mr_30 C2.1, ↓mr_30_b C2.1, mr_31 C2.1, ↓mr_31_b C2.1, m90a C2.1, ↓m90a_b C2.1, m90s C2.1, ↓m90s_b C2.1, m91a C2.1, ↓m91a_b C2.1, m91s C2.1, ↓m91s_b C2.1, m92a C2.1, ↓m92a_b C2.1, m92s C2.1, ↓m92s_b C2.1, m93a C2.1, ↓m93a_b C2.1, m93s C2.1, ↓m93s_b C2.1, m94a C2.1, ↓m94a_b C2.1, m94s C2.1, ↓m94s_b C2.1, m95a C2.1, ↓m95a_b C2.1, m95s C2.1, ↓m95s_b C2.1, m96a C2.1, ↓m96a_b C2.1, m96s C2.1, ↓m96s_b C2.1, m97a C2.1, ↓m97a_b C2.1, m97s C2.1, ↓m97s_b C2.1, m98a C2.1, ↓m98a_b C2.1, m98s C2.1, ↓m98s_b C2.1, m99a C2.1, ↓m99a_b C2.1, m99s C2.1, ↓m99s_b C2.1, m100a C2.1, ↓m100a_b C2.1, m100s C2.1, ↓m100s_b C2.1, m_i C3.1, ↓m_i_b C3.1, m_p C3.1, ↓m_p_b C3.1, m_l C3.1, ↓m_l_b C3.1, m_pl C3.1, ↓m_pl_b C3.1, mr_15 C3.1, ↓mr_15_b C3.1, mr_16 C3.1, ↓mr_16_b C3.1, mr_17 C3.1, ↓mr_17_b C3.1, mr_18 C3.1, ↓mr_18_b C3.1, mr_21 C3.1, ↓mr_21_b C3.1, mr_22 C3.1, ↓mr_22_b C3.1, mr_23 C3.1, ↓mr_23_b C3.1, mr_24 C3.1, ↓mr_24_b C3.1, mr_25 C3.1, ↓mr_25_b C3.1, mr_30 C3.1, ↓mr_30_b C3.1, mr_31 C3.1, ↓mr_31_b C3.1, m90a C3.1, ↓m90a_b C3.1, m90s C3.1, ↓m90s_b C3.1, m91a C3.1, ↓m91a_b C3.1, m91s C3.1, ↓m91s_b C3.1, m92a C3.1, ↓m92a_b C3.1, m92s C3.1, ↓m92s_b C3.1, m93a C3.1, ↓m93a_b C3.1, m93s C3.1, ↓m93s_b C3.1, m94a C3.1, ↓m94a_b C3.1, m94s C3.1, ↓m94s_b C3.1, m95a C3.1, ↓m95a_b C3.1, m95s C3.1, ↓m95s_b C3.1, m96a C3.1, ↓m96a_b C3.1, m96s C3.1, ↓m96s_b C3.1, m97a C3.1, ↓m97a_b C3.1, m97s C3.1, ↓m97s_b C3.1, m98a C3.1, ↓m98a_b C3.1, m98s C3.1, ↓m98s_b C3.1, m99a C3.1, ↓m99a_b C3.1, m99s C3.1, ↓m99s_b C3.1, m100a C3.1, ↓m100a_b C3.1, m100s C3.1, ↓m100s_b C3.1, ← hh4, ↓bn_e (u4), u4, ↓bd_e (e5), e5, q51]
theorem d_wks {a : Ab} {h : Hp} {z s n : Int} (HA : AW a) (H : RI a h) (hz : rng z) (hs : rng s) (hn' : rng n) : Dq (F_md_weeks 88 (J z) (J s) (J n) h) h (if inr z (qL a 1 0) ∧ ((0 ≤ s ∧ s ≤ 65536) ∧ (0 ≤ n ∧ n ≤ 20)) then w_wks a z s n else -1) (t_2 (inr z (qL a 1 0)) ((0 ≤ s ∧ s ≤ 65536) ∧ (0 ≤ n ∧ n ≤ 20))) := by
  have H0 := RI_0 H
  unfold F_md_weeks
  refine dq_w (X := fun h1 => F_md_isHouse 88 (J z) h1) (R := fun x h1 => F_md_refusesSeed 88 x (J s) (J n) h1) H (by show bn (F_md_isHouse 88 (J z) (wF h 88 0 0)) _ = _; rw [pr_i1 HA H0 hz, bn_s1]; exact pr_rs (MS_k H0.1) hs hn' _) (fun c d h1 H1 => ?_)
  have b1 := LW_h HA.1
  have c0 : ¬ qL a 1 0 = 0 := by omega
  obtain ⟨b, C1⟩ := lk_1 H1 c0
  obtain ⟨h2, e2, q2, x2, v2⟩ := D_weeksAll HA H1 c0 d.1 d.2
  have C2 := RC_qr q2 C1
  have eh := D_heightOfZ HA.1 C2 x2 (sw_stk (by omega) (wks_p HA.1 (by omega) (sw_30 HA.1 HA.2.1.1 d.1) n.toNat).1) c.1 c.2
  refine dg_e H1.1 q2 ?_
  rw [e2, bd_s1, eh, bn_s1, j_1000, J_add]
  rfl
theorem d_eat {a : Ab} {h : Hp} {s n : Int} (HA : AW a) (H : RI a h) (hs : rng s) (hn' : rng n) : Dq (F_md_eaten 88 (J s) (J n) h) h (if ¬ qL a 1 0 = 0 ∧ ((0 ≤ s ∧ s ≤ 65536) ∧ (0 ≤ n ∧ n ≤ 20)) then w_eat a s n else -1) (t_2 (¬ qL a 1 0 = 0) ((0 ≤ s ∧ s ≤ 65536) ∧ (0 ≤ n ∧ n ≤ 20))) := by
  have H0 := RI_0 H
  obtain ⟨o, eo, eo'⟩ := pr_qL H0
  unfold F_md_eaten
  refine dq_w3 (X := fun h1 => gQ h1 88 13 3) (E := fun x3 => if x3 = none then some (0 : Int32) else some (1 : Int32)) (R := fun x h1 => F_md_refusesSeed 88 x (J s) (J n) h1) H (by show bn (gQ (wF h 88 0 0) 88 13 3) _ = _; rw [eo, bn_s1, eo', bn_s1]; exact pr_rs (MS_k H0.1) hs hn' _) (fun c d h1 H1 => ?_)
  obtain ⟨h2, e2, q2, x2, v2⟩ := D_weeksAll HA H1 c d.1 d.2
  refine dg_e H1.1 q2 ?_
  rw [e2, bd_s1, gI_J (MS_k (MS_fm q2.1 H1.1)), bn_s1, v2]
  rfl
theorem d_snk {a : Ab} {h : Hp} {s n : Int} (HA : AW a) (H : RI a h) (hs : rng s) (hn' : rng n) : Dq (F_md_sunkAt 88 (J s) (J n) h) h (if ¬ qL a 1 0 = 0 ∧ ((0 ≤ s ∧ s ≤ 65536) ∧ (0 ≤ n ∧ n ≤ 20)) then w_snk a s n else -1) (t_2 (¬ qL a 1 0 = 0) ((0 ≤ s ∧ s ≤ 65536) ∧ (0 ≤ n ∧ n ≤ 20))) := by
  have H0 := RI_0 H
  obtain ⟨o, eo, eo'⟩ := pr_qL H0
  unfold F_md_sunkAt
  refine dq_w3 (X := fun h1 => gQ h1 88 13 3) (E := fun x3 => if x3 = none then some (0 : Int32) else some (1 : Int32)) (R := fun x h1 => F_md_refusesSeed 88 x (J s) (J n) h1) H (by show bn (gQ (wF h 88 0 0) 88 13 3) _ = _; rw [eo, bn_s1, eo', bn_s1]; exact pr_rs (MS_k H0.1) hs hn' _) (fun c d h1 H1 => ?_)
  obtain ⟨h2, e2, q2, x2, v2⟩ := D_weeksAll HA H1 c d.1 d.2
  refine dg_e H1.1 q2 ?_
  rw [e2, bd_s1]
