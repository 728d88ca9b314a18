/-! find: what is lacking -/
def oag (a : Ab) (g : Int) : Int → Int := net (qL a) (sfn (qL a) (qS a) g.toNat)
def cq0 (a : Ab) (P : Int → Int) : Prop := ∀ z : Nat, z < hn (qL a) → ncd (qL a) (qS a 28).toNat (oag a 0) z 0 0 P
def cqf (a : Ab) (s : Int) (P : Int → Int) : Prop := ∀ f : Nat, (f : Int) < qL a 5 0 → min (qL a 20 f) 3 < s → ncd (qL a) (qS a 28).toNat (oag a (min (qL a 20 f) 3)) (qL a 19 f).toNat (min (qL a 20 f) 3) (qL a 21 f) P
def Cnd (a : Ab) (e : Int) (P : Int → Int) : Prop := cq0 a P ∧ (e = 0 ∨ cqf a 4 P)
theorem C_noteHouses {a : Ab} {t : Nat} {h : Hp} {Q : (Int → Int) → Prop} {c : Nat} {o : Int → Int} (HA : AW a) (V : XV t h) (R : TR (qL a) t h) (M : RM (qL a) o c 58 h) (ho : OB (qL a) o) (X : LPn (qL a) c Q (fun i => ia h 65 i)) : ∃ h', F_pl_noteHouses 57 t h = some h' ∧ Fm 65 66 h h' ∧ LPn (qL a) c (fun P => Q P ∧ ∀ z : Nat, z < hn (qL a) → ncd (qL a) c o z 0 0 P) (fun i => ia h' 65 i) := by
  have HL := HA.1
  have b1 := LW_h HL
  have hne := hn_e HL
  have ox := XV_o V
  obtain ⟨y, h1, e1, f1, x1⟩ := lp_for (b := B_pl_noteHouses_2 57 t) (f := FU) (s := J 0) (h := h) (fun i s h' => s = J i ∧ Fm 65 66 h h' ∧ LPn (qL a) c (fun P => Q P ∧ ∀ z : Nat, z < i → ncd (qL a) c o z 0 0 P) (fun i => ia h' 65 i)) (fun _ h' => Fm 65 66 h h' ∧ LPn (qL a) c (fun P => Q P ∧ ∀ z : Nat, z < hn (qL a) → ncd (qL a) c o z 0 0 P) (fun i => ia h' 65 i)) (hn (qL a)) (by unfold FU; omega) ⟨rfl, fm_rf _ _ _, LPn_iff (fun P => ⟨fun x => ⟨x, fun z hz => by omega⟩, fun x => x.1⟩) X⟩ (fun i s h1 hi hI => by
      obtain ⟨rfl, f1, x1⟩ := hI
      have V1 := XV_fm f1 (by omega) V
      have R1 := TR_fm f1 (by omega) R
      have M1 : RM (qL a) o c 58 h1 := ⟨by rw [fm_fi f1 (by omega)]; exact M.1, fun j j0 j1 => by rw [fm_ia f1 (by omega)]; exact M.2.1 j j0 j1, fun j j0 j1 => by rw [fm_ia f1 (by omega)]; exact M.2.2.1 j j0 j1, fun j j0 j1 => by rw [fm_ia f1 (by omega)]; exact M.2.2.2 j j0 j1⟩
      obtain ⟨h2, e2, f2, x2⟩ := C_note (z := i) (g := 0) (hi := 0) HL V1 M1 ho (by omega) (by omega) (by omega) (by omega) x1
      refine ⟨J (i + 1 : Nat), h2, ?_, rfl, fm_tr f1 f2, LPn_iff (fun P => ?_) x2⟩
      · unfold B_pl_noteHouses_2
        try simp only [j_0, j_1, j_2, j_3, j_4, j_5, j_6, j_7, j_8, j_9, j_10, j_11, j_12, j_13, j_14, j_15, j_16, j_17, j_18, j_19, j_20, j_21, j_22, j_23, j_24, j_25, j_26, j_27, j_28, j_29, j_30, j_31, j_32, j_33, j_34, j_35, j_36, j_37, j_38, j_39, j_40, j_41, j_42, j_43, j_44, j_45, j_46, j_47, j_48, j_49, j_50, j_51, j_52, j_57, j_59, j_63, j_74, j_75, j_93, j_97, j_99, j_100, j_122, j_200, j_255, j_300, j_465, j_496, j_900, j_999, j_1000, j_65536, j_65537, j_99999, j_252645135, j_858993459, j_1431655765, k_0, k_1, k_27, k_32, k_74, k_75, k_100, k_1000, k_65537]
        simp (disch := first | with_reducible assumption | omega | trivial) only [↓bn_s1, ↓bd_s1, ↓ei_l1, ↓ei_r1, ↓bn_if, ↓ilt_1, ↓ilt_0, ↓ieq_1, ↓ieq_0, bn_s1, bd_s1, ei_l1, ei_r1, J_add, J_sub, J_mul, J_neg, J_lt, J_le, J_eq, dv_J, rm_J, if_pos, if_neg, ↓reduceIte, bitJ, shlJ, orJ, j_0, j_1, j_2, j_3, j_4, j_5, j_6, j_7, j_8, j_9, j_10, j_11, j_12, j_13, j_14, j_15, j_16, j_17, j_18, j_19, j_20, j_21, j_22, j_23, j_24, j_25, j_26, j_27, j_28, j_29, j_30, j_31, j_32, j_33, j_34, j_35, j_36, j_37, j_38, j_39, j_40, j_41, j_42, j_43, j_44, j_45, j_46, j_47, j_48, j_49, j_50, j_51, j_52, j_57, j_59, j_63, j_74, j_75, j_93, j_97, j_99, j_100, j_122, j_200, j_255, j_300, j_465, j_496, j_900, j_999, j_1000, j_65536, j_65537, j_99999, j_252645135, j_858993459, j_1431655765, k_0, k_1, k_27, k_32, k_74, k_75, k_100, k_1000, k_65537, ti_0 (XV_ts V1) R1, ↓ti_0_b (XV_ts V1) R1, ti_1 (XV_ts V1) R1, ↓ti_1_b (XV_ts V1) R1, ti_5 (XV_ts V1) R1, ↓ti_5_b (XV_ts V1) R1, ti_8 (XV_ts V1) R1, ↓ti_8_b (XV_ts V1) R1, ti_11 (XV_ts V1) R1, ↓ti_11_b (XV_ts V1) R1, ti_14 (XV_ts V1) R1, ↓ti_14_b (XV_ts V1) R1, ty_0 (XV_ts V1) R1, ↓ty_0_b (XV_ts V1) R1, ty_4 (XV_ts V1) R1, ↓ty_4_b (XV_ts V1) R1, trf_18 (XV_ts V1), ↓trf_18_b (XV_ts V1), trf_3 (XV_ts V1), ↓trf_3_b (XV_ts V1), trf_4 (XV_ts V1), ↓trf_4_b (XV_ts V1), trf_6 (XV_ts V1), ↓trf_6_b (XV_ts V1), trf_7 (XV_ts V1), ↓trf_7_b (XV_ts V1), trf_9 (XV_ts V1), ↓trf_9_b (XV_ts V1), trf_10 (XV_ts V1), ↓trf_10_b (XV_ts V1), trf_12 (XV_ts V1), ↓trf_12_b (XV_ts V1), trf_13 (XV_ts V1), ↓trf_13_b (XV_ts V1), trf_15 (XV_ts V1), ↓trf_15_b (XV_ts V1), trf_16 (XV_ts V1), ↓trf_16_b (XV_ts V1), trf_17 (XV_ts V1), ↓trf_17_b (XV_ts V1), try_1 (XV_ts V1), ↓try_1_b (XV_ts V1), try_2 (XV_ts V1), ↓try_2_b (XV_ts V1), try_3 (XV_ts V1), ↓try_3_b (XV_ts V1), try_5 (XV_ts V1), ↓try_5_b (XV_ts V1), try_6 (XV_ts V1), ↓try_6_b (XV_ts V1), ta_3 HL (XV_ts V1) R1, ↓ta_3_b HL (XV_ts V1) R1, ta_4 HL (XV_ts V1) R1, ↓ta_4_b HL (XV_ts V1) R1, ta_6 HL (XV_ts V1) R1, ↓ta_6_b HL (XV_ts V1) R1, ta_7 HL (XV_ts V1) R1, ↓ta_7_b HL (XV_ts V1) R1, ta_9 HL (XV_ts V1) R1, ↓ta_9_b HL (XV_ts V1) R1, ta_10 HL (XV_ts V1) R1, ↓ta_10_b HL (XV_ts V1) R1, ta_12 HL (XV_ts V1) R1, ↓ta_12_b HL (XV_ts V1) R1, ta_13 HL (XV_ts V1) R1, ↓ta_13_b HL (XV_ts V1) R1, ta_15 HL (XV_ts V1) R1, ↓ta_15_b HL (XV_ts V1) R1, ta_16 HL (XV_ts V1) R1, ↓ta_16_b HL (XV_ts V1) R1, ta_17 HL (XV_ts V1) R1, ↓ta_17_b HL (XV_ts V1) R1, tz_1 HL (XV_ts V1) R1, ↓tz_1_b HL (XV_ts V1) R1, tz_2 HL (XV_ts V1) R1, ↓tz_2_b HL (XV_ts V1) R1, tz_3 HL (XV_ts V1) R1, ↓tz_3_b HL (XV_ts V1) R1, tz_5 HL (XV_ts V1) R1, ↓tz_5_b HL (XV_ts V1) R1, tz_6 HL (XV_ts V1) R1, ↓tz_6_b HL (XV_ts V1) R1, ↓bn_e (e2), e2]
        rfl
      · constructor
        · rintro ⟨⟨p1, p2⟩, p3⟩
          refine ⟨p1, fun z hz => ?_⟩
          by_cases e : z = i
          · rw [e]; exact p3
          · exact p2 z (by omega)
        · rintro ⟨p1, p2⟩
          exact ⟨⟨p1, fun z hz => p2 z (by omega)⟩, p2 i (by omega)⟩) (fun s h1 hI => by
      obtain ⟨rfl, f1, x1⟩ := hI
      have V1 := XV_fm f1 (by omega) V
      have R1 := TR_fm f1 (by omega) R
      refine ⟨(), h1, ?_, f1, x1⟩
      unfold B_pl_noteHouses_2
      try simp only [j_0, j_1, j_2, j_3, j_4, j_5, j_6, j_7, j_8, j_9, j_10, j_11, j_12, j_13, j_14, j_15, j_16, j_17, j_18, j_19, j_20, j_21, j_22, j_23, j_24, j_25, j_26, j_27, j_28, j_29, j_30, j_31, j_32, j_33, j_34, j_35, j_36, j_37, j_38, j_39, j_40, j_41, j_42, j_43, j_44, j_45, j_46, j_47, j_48, j_49, j_50, j_51, j_52, j_57, j_59, j_63, j_74, j_75, j_93, j_97, j_99, j_100, j_122, j_200, j_255, j_300, j_465, j_496, j_900, j_999, j_1000, j_65536, j_65537, j_99999, j_252645135, j_858993459, j_1431655765, k_0, k_1, k_27, k_32, k_74, k_75, k_100, k_1000, k_65537]
      simp (disch := first | with_reducible assumption | omega | trivial) only [↓bn_s1, ↓bd_s1, ↓ei_l1, ↓ei_r1, ↓bn_if, ↓ilt_1, ↓ilt_0, ↓ieq_1, ↓ieq_0, bn_s1, bd_s1, ei_l1, ei_r1, J_add, J_sub, J_mul, J_neg, J_lt, J_le, J_eq, dv_J, rm_J, if_pos, if_neg, ↓reduceIte, bitJ, shlJ, orJ, j_0, j_1, j_2, j_3, j_4, j_5, j_6, j_7, j_8, j_9, j_10, j_11, j_12, j_13, j_14, j_15, j_16, j_17, j_18, j_19, j_20, j_21, j_22, j_23, j_24, j_25, j_26, j_27, j_28, j_29, j_30, j_31, j_32, j_33, j_34, j_35, j_36, j_37, j_38, j_39, j_40, j_41, j_42, j_43, j_44, j_45, j_46, j_47, j_48, j_49, j_50, j_51, j_52, j_57, j_59, j_63, j_74, j_75, j_93, j_97, j_99, j_100, j_122, j_200, j_255, j_300, j_465, j_496, j_900, j_999, j_1000, j_65536, j_65537, j_99999, j_252645135, j_858993459, j_1431655765, k_0, k_1, k_27, k_32, k_74, k_75, k_100, k_1000, k_65537, ti_0 (XV_ts V1) R1, ↓ti_0_b (XV_ts V1) R1, ti_1 (XV_ts V1) R1, ↓ti_1_b (XV_ts V1) R1, ti_5 (XV_ts V1) R1, ↓ti_5_b (XV_ts V1) R1, ti_8 (XV_ts V1) R1, ↓ti_8_b (XV_ts V1) R1, ti_11 (XV_ts V1) R1, ↓ti_11_b (XV_ts V1) R1, ti_14 (XV_ts V1) R1, ↓ti_14_b (XV_ts V1) R1, ty_0 (XV_ts V1) R1, ↓ty_0_b (XV_ts V1) R1, ty_4 (XV_ts V1) R1, ↓ty_4_b (XV_ts V1) R1, trf_18 (XV_ts V1), ↓trf_18_b (XV_ts V1), trf_3 (XV_ts V1), ↓trf_3_b (XV_ts V1), trf_4 (XV_ts V1), ↓trf_4_b (XV_ts V1), trf_6 (XV_ts V1), ↓trf_6_b (XV_ts V1), trf_7 (XV_ts V1), ↓trf_7_b (XV_ts V1), trf_9 (XV_ts V1), ↓trf_9_b (XV_ts V1), trf_10 (XV_ts V1), ↓trf_10_b (XV_ts V1), trf_12 (XV_ts V1), ↓trf_12_b (XV_ts V1), trf_13 (XV_ts V1), ↓trf_13_b (XV_ts V1), trf_15 (XV_ts V1), ↓trf_15_b (XV_ts V1), trf_16 (XV_ts V1), ↓trf_16_b (XV_ts V1), trf_17 (XV_ts V1), ↓trf_17_b (XV_ts V1), try_1 (XV_ts V1), ↓try_1_b (XV_ts V1), try_2 (XV_ts V1), ↓try_2_b (XV_ts V1), try_3 (XV_ts V1), ↓try_3_b (XV_ts V1), try_5 (XV_ts V1), ↓try_5_b (XV_ts V1), try_6 (XV_ts V1), ↓try_6_b (XV_ts V1), ta_3 HL (XV_ts V1) R1, ↓ta_3_b HL (XV_ts V1) R1, ta_4 HL (XV_ts V1) R1, ↓ta_4_b HL (XV_ts V1) R1, ta_6 HL (XV_ts V1) R1, ↓ta_6_b HL (XV_ts V1) R1, ta_7 HL (XV_ts V1) R1, ↓ta_7_b HL (XV_ts V1) R1, ta_9 HL (XV_ts V1) R1, ↓ta_9_b HL (XV_ts V1) R1, ta_10 HL (XV_ts V1) R1, ↓ta_10_b HL (XV_ts V1) R1, ta_12 HL (XV_ts V1) R1, ↓ta_12_b HL (XV_ts V1) R1, ta_13 HL (XV_ts V1) R1, ↓ta_13_b HL (XV_ts V1) R1, ta_15 HL (XV_ts V1) R1, ↓ta_15_b HL (XV_ts V1) R1, ta_16 HL (XV_ts V1) R1, ↓ta_16_b HL (XV_ts V1) R1, ta_17 HL (XV_ts V1) R1, ↓ta_17_b HL (XV_ts V1) R1, tz_1 HL (XV_ts V1) R1, ↓tz_1_b HL (XV_ts V1) R1, tz_2 HL (XV_ts V1) R1, ↓tz_2_b HL (XV_ts V1) R1, tz_3 HL (XV_ts V1) R1, ↓tz_3_b HL (XV_ts V1) R1, tz_5 HL (XV_ts V1) R1, ↓tz_5_b HL (XV_ts V1) R1, tz_6 HL (XV_ts V1) R1, ↓tz_6_b HL (XV_ts V1) R1])
  refine ⟨h1, ?_, f1, x1⟩
  unfold F_pl_noteHouses
  rw [ck_e (PS_k (XV_p V))]
  try simp only [j_0, j_1, j_2, j_3, j_4, j_5, j_6, j_7, j_8, j_9, j_10, j_11, j_12, j_13, j_14, j_15, j_16, j_17, j_18, j_19, j_20, j_21, j_22, j_23, j_24, j_25, j_26, j_27, j_28, j_29, j_30, j_31, j_32, j_33, j_34, j_35, j_36, j_37, j_38, j_39, j_40, j_41, j_42, j_43, j_44, j_45, j_46, j_47, j_48, j_49, j_50, j_51, j_52, j_57, j_59, j_63, j_74, j_75, j_93, j_97, j_99, j_100, j_122, j_200, j_255, j_300, j_465, j_496, j_900, j_999, j_1000, j_65536, j_65537, j_99999, j_252645135, j_858993459, j_1431655765, k_0, k_1, k_27, k_32, k_74, k_75, k_100, k_1000, k_65537]
  simp (disch := first | with_reducible assumption | omega | trivial) only [↓bn_s1, ↓bd_s1, ↓ei_l1, ↓ei_r1, ↓bn_if, ↓ilt_1, ↓ilt_0, ↓ieq_1, ↓ieq_0, bn_s1, bd_s1, ei_l1, ei_r1, J_add, J_sub, J_mul, J_neg, J_lt, J_le, J_eq, dv_J, rm_J, if_pos, if_neg, ↓reduceIte, bitJ, shlJ, orJ, j_0, j_1, j_2, j_3, j_4, j_5, j_6, j_7, j_8, j_9, j_10, j_11, j_12, j_13, j_14, j_15, j_16, j_17, j_18, j_19, j_20, j_21, j_22, j_23, j_24, j_25, j_26, j_27, j_28, j_29, j_30, j_31, j_32, j_33, j_34, j_35, j_36, j_37, j_38, j_39, j_40, j_41, j_42, j_43, j_44, j_45, j_46, j_47, j_48, j_49, j_50, j_51, j_52, j_57, j_59, j_63, j_74, j_75, j_93, j_97, j_99, j_100, j_122, j_200, j_255, j_300, j_465, j_496, j_900, j_999, j_1000, j_65536, j_65537, j_99999, j_252645135, j_858993459, j_1431655765, k_0, k_1, k_27, k_32, k_74, k_75, k_100, k_1000, k_65537, ↓bd_e (e1), e1]
theorem C_noteFeasts {a : Ab} {t : Nat} {h : Hp} {Q : (Int → Int) → Prop} {c : Nat} {o : Int → Int} {g : Int} (HA : AW a) (V : XV t h) (R : TR (qL a) t h) (M : RM (qL a) o c 58 h) (ho : OB (qL a) o) (g0 : 0 ≤ g) (g1 : g < 4) (X : LPn (qL a) c Q (fun i => ia h 65 i)) : ∃ h', F_pl_noteFeasts 57 t (J g) h = some h' ∧ Fm 65 66 h h' ∧ LPn (qL a) c (fun P => Q P ∧ ∀ f : Nat, (f : Int) < qL a 5 0 → min (qL a 20 f) 3 = g → ncd (qL a) c o (qL a 19 f).toNat g (qL a 21 f) P) (fun i => ia h' 65 i) := by
  have HL := HA.1
  have b1 := LW_h HL
  have b5 := LW_f HL
  have ox := XV_o V
  obtain ⟨y, h1, e1, f1, x1⟩ := lp_for (b := B_pl_noteFeasts_2 57 t (J g)) (f := FU) (s := J 0) (h := h) (fun i s h' => s = J i ∧ Fm 65 66 h h' ∧ LPn (qL a) c (fun P => Q P ∧ ∀ f : Nat, f < i → min (qL a 20 f) 3 = g → ncd (qL a) c o (qL a 19 f).toNat g (qL a 21 f) P) (fun i => ia h' 65 i)) (fun _ h' => Fm 65 66 h h' ∧ LPn (qL a) c (fun P => Q P ∧ ∀ f : Nat, (f : Int) < qL a 5 0 → min (qL a 20 f) 3 = g → ncd (qL a) c o (qL a 19 f).toNat g (qL a 21 f) P) (fun i => ia h' 65 i)) (qL a 5 0).toNat (by unfold FU; omega) ⟨rfl, fm_rf _ _ _, LPn_iff (fun P => ⟨fun x => ⟨x, fun z hz => by omega⟩, fun x => x.1⟩) X⟩ (fun i s h1 hi hI => by
      obtain ⟨rfl, f1, x1⟩ := hI
      have V1 := XV_fm f1 (by omega) V
      have R1 := TR_fm f1 (by omega) R
      have w := LW_fs HL i (by omega) (by omega)
      have mn := min_e (a := qL a 20 i) (b := 3) (by omega) (by omega) (by omega) (by omega)
      by_cases eg : min (qL a 20 i) 3 = g
      · have M1 : RM (qL a) o c 58 h1 := ⟨by rw [fm_fi f1 (by omega)]; exact M.1, fun j j0 j1 => by rw [fm_ia f1 (by omega)]; exact M.2.1 j j0 j1, fun j j0 j1 => by rw [fm_ia f1 (by omega)]; exact M.2.2.1 j j0 j1, fun j j0 j1 => by rw [fm_ia f1 (by omega)]; exact M.2.2.2 j j0 j1⟩
        obtain ⟨h2, e2, f2, x2⟩ := C_note (z := (qL a 19 i).toNat) (g := g) (hi := qL a 21 i) HL V1 M1 ho (by omega) g0 g1 (by omega) x1
        rw [show (((qL a 19 i).toNat : Nat) : Int) = qL a 19 i by omega] at e2
        refine ⟨J (i + 1 : Nat), h2, ?_, rfl, fm_tr f1 f2, LPn_iff (fun P => ?_) x2⟩
        · unfold B_pl_noteFeasts_2
          try simp only [j_0, j_1, j_2, j_3, j_4, j_5, j_6, j_7, j_8, j_9, j_10, j_11, j_12, j_13, j_14, j_15, j_16, j_17, j_18, j_19, j_20, j_21, j_22, j_23, j_24, j_25, j_26, j_27, j_28, j_29, j_30, j_31, j_32, j_33, j_34, j_35, j_36, j_37, j_38, j_39, j_40, j_41, j_42, j_43, j_44, j_45, j_46, j_47, j_48, j_49, j_50, j_51, j_52, j_57, j_59, j_63, j_74, j_75, j_93, j_97, j_99, j_100, j_122, j_200, j_255, j_300, j_465, j_496, j_900, j_999, j_1000, j_65536, j_65537, j_99999, j_252645135, j_858993459, j_1431655765, k_0, k_1, k_27, k_32, k_74, k_75, k_100, k_1000, k_65537]
          simp (disch := first | with_reducible assumption | omega | trivial) only [↓bn_s1, ↓bd_s1, ↓ei_l1, ↓ei_r1, ↓bn_if, ↓ilt_1, ↓ilt_0, ↓ieq_1, ↓ieq_0, bn_s1, bd_s1, ei_l1, ei_r1, J_add, J_sub, J_mul, J_neg, J_lt, J_le, J_eq, dv_J, rm_J, if_pos, if_neg, ↓reduceIte, bitJ, shlJ, orJ, j_0, j_1, j_2, j_3, j_4, j_5, j_6, j_7, j_8, j_9, j_10, j_11, j_12, j_13, j_14, j_15, j_16, j_17, j_18, j_19, j_20, j_21, j_22, j_23, j_24, j_25, j_26, j_27, j_28, j_29, j_30, j_31, j_32, j_33, j_34, j_35, j_36, j_37, j_38, j_39, j_40, j_41, j_42, j_43, j_44, j_45, j_46, j_47, j_48, j_49, j_50, j_51, j_52, j_57, j_59, j_63, j_74, j_75, j_93, j_97, j_99, j_100, j_122, j_200, j_255, j_300, j_465, j_496, j_900, j_999, j_1000, j_65536, j_65537, j_99999, j_252645135, j_858993459, j_1431655765, k_0, k_1, k_27, k_32, k_74, k_75, k_100, k_1000, k_65537, ti_0 (XV_ts V1) R1, ↓ti_0_b (XV_ts V1) R1, ti_1 (XV_ts V1) R1, ↓ti_1_b (XV_ts V1) R1, ti_5 (XV_ts V1) R1, ↓ti_5_b (XV_ts V1) R1, ti_8 (XV_ts V1) R1, ↓ti_8_b (XV_ts V1) R1, ti_11 (XV_ts V1) R1, ↓ti_11_b (XV_ts V1) R1, ti_14 (XV_ts V1) R1, ↓ti_14_b (XV_ts V1) R1, ty_0 (XV_ts V1) R1, ↓ty_0_b (XV_ts V1) R1, ty_4 (XV_ts V1) R1, ↓ty_4_b (XV_ts V1) R1, trf_18 (XV_ts V1), ↓trf_18_b (XV_ts V1), trf_3 (XV_ts V1), ↓trf_3_b (XV_ts V1), trf_4 (XV_ts V1), ↓trf_4_b (XV_ts V1), trf_6 (XV_ts V1), ↓trf_6_b (XV_ts V1), trf_7 (XV_ts V1), ↓trf_7_b (XV_ts V1), trf_9 (XV_ts V1), ↓trf_9_b (XV_ts V1), trf_10 (XV_ts V1), ↓trf_10_b (XV_ts V1), trf_12 (XV_ts V1), ↓trf_12_b (XV_ts V1), trf_13 (XV_ts V1), ↓trf_13_b (XV_ts V1), trf_15 (XV_ts V1), ↓trf_15_b (XV_ts V1), trf_16 (XV_ts V1), ↓trf_16_b (XV_ts V1), trf_17 (XV_ts V1), ↓trf_17_b (XV_ts V1), try_1 (XV_ts V1), ↓try_1_b (XV_ts V1), try_2 (XV_ts V1), ↓try_2_b (XV_ts V1), try_3 (XV_ts V1), ↓try_3_b (XV_ts V1), try_5 (XV_ts V1), ↓try_5_b (XV_ts V1), try_6 (XV_ts V1), ↓try_6_b (XV_ts V1), ta_3 HL (XV_ts V1) R1, ↓ta_3_b HL (XV_ts V1) R1, ta_4 HL (XV_ts V1) R1, ↓ta_4_b HL (XV_ts V1) R1, ta_6 HL (XV_ts V1) R1, ↓ta_6_b HL (XV_ts V1) R1, ta_7 HL (XV_ts V1) R1, ↓ta_7_b HL (XV_ts V1) R1, ta_9 HL (XV_ts V1) R1, ↓ta_9_b HL (XV_ts V1) R1, ta_10 HL (XV_ts V1) R1, ↓ta_10_b HL (XV_ts V1) R1, ta_12 HL (XV_ts V1) R1, ↓ta_12_b HL (XV_ts V1) R1, ta_13 HL (XV_ts V1) R1, ↓ta_13_b HL (XV_ts V1) R1, ta_15 HL (XV_ts V1) R1, ↓ta_15_b HL (XV_ts V1) R1, ta_16 HL (XV_ts V1) R1, ↓ta_16_b HL (XV_ts V1) R1, ta_17 HL (XV_ts V1) R1, ↓ta_17_b HL (XV_ts V1) R1, tz_1 HL (XV_ts V1) R1, ↓tz_1_b HL (XV_ts V1) R1, tz_2 HL (XV_ts V1) R1, ↓tz_2_b HL (XV_ts V1) R1, tz_3 HL (XV_ts V1) R1, ↓tz_3_b HL (XV_ts V1) R1, tz_5 HL (XV_ts V1) R1, ↓tz_5_b HL (XV_ts V1) R1, tz_6 HL (XV_ts V1) R1, ↓tz_6_b HL (XV_ts V1) R1, ↓bn_e (mn), mn, eg, ↓bn_e (e2), e2]
          rfl
        · constructor
          · rintro ⟨⟨p1, p2⟩, p3⟩
            refine ⟨p1, fun z hz => ?_⟩
            by_cases e : z = i
            · rw [e]; exact fun _ => p3
            · exact p2 z (by omega)
          · rintro ⟨p1, p2⟩
            exact ⟨⟨p1, fun z hz => p2 z (by omega)⟩, p2 i (by omega) eg⟩
      · refine ⟨J (i + 1 : Nat), h1, ?_, rfl, f1, LPn_iff (fun P => ?_) x1⟩
        · unfold B_pl_noteFeasts_2
          try simp only [j_0, j_1, j_2, j_3, j_4, j_5, j_6, j_7, j_8, j_9, j_10, j_11, j_12, j_13, j_14, j_15, j_16, j_17, j_18, j_19, j_20, j_21, j_22, j_23, j_24, j_25, j_26, j_27, j_28, j_29, j_30, j_31, j_32, j_33, j_34, j_35, j_36, j_37, j_38, j_39, j_40, j_41, j_42, j_43, j_44, j_45, j_46, j_47, j_48, j_49, j_50, j_51, j_52, j_57, j_59, j_63, j_74, j_75, j_93, j_97, j_99, j_100, j_122, j_200, j_255, j_300, j_465, j_496, j_900, j_999, j_1000, j_65536, j_65537, j_99999, j_252645135, j_858993459, j_1431655765, k_0, k_1, k_27, k_32, k_74, k_75, k_100, k_1000, k_65537]
          simp (disch := first | with_reducible assumption | omega | trivial) only [↓bn_s1, ↓bd_s1, ↓ei_l1, ↓ei_r1, ↓bn_if, ↓ilt_1, ↓ilt_0, ↓ieq_1, ↓ieq_0, bn_s1, bd_s1, ei_l1, ei_r1, J_add, J_sub, J_mul, J_neg, J_lt, J_le, J_eq, dv_J, rm_J, if_pos, if_neg, ↓reduceIte, bitJ, shlJ, orJ, j_0, j_1, j_2, j_3, j_4, j_5, j_6, j_7, j_8, j_9, j_10, j_11, j_12, j_13, j_14, j_15, j_16, j_17, j_18, j_19, j_20, j_21, j_22, j_23, j_24, j_25, j_26, j_27, j_28, j_29, j_30, j_31, j_32, j_33, j_34, j_35, j_36, j_37, j_38, j_39, j_40, j_41, j_42, j_43, j_44, j_45, j_46, j_47, j_48, j_49, j_50, j_51, j_52, j_57, j_59, j_63, j_74, j_75, j_93, j_97, j_99, j_100, j_122, j_200, j_255, j_300, j_465, j_496, j_900, j_999, j_1000, j_65536, j_65537, j_99999, j_252645135, j_858993459, j_1431655765, k_0, k_1, k_27, k_32, k_74, k_75, k_100, k_1000, k_65537, ti_0 (XV_ts V1) R1, ↓ti_0_b (XV_ts V1) R1, ti_1 (XV_ts V1) R1, ↓ti_1_b (XV_ts V1) R1, ti_5 (XV_ts V1) R1, ↓ti_5_b (XV_ts V1) R1, ti_8 (XV_ts V1) R1, ↓ti_8_b (XV_ts V1) R1, ti_11 (XV_ts V1) R1, ↓ti_11_b (XV_ts V1) R1, ti_14 (XV_ts V1) R1, ↓ti_14_b (XV_ts V1) R1, ty_0 (XV_ts V1) R1, ↓ty_0_b (XV_ts V1) R1, ty_4 (XV_ts V1) R1, ↓ty_4_b (XV_ts V1) R1, trf_18 (XV_ts V1), ↓trf_18_b (XV_ts V1), trf_3 (XV_ts V1), ↓trf_3_b (XV_ts V1), trf_4 (XV_ts V1), ↓trf_4_b (XV_ts V1), trf_6 (XV_ts V1), ↓trf_6_b (XV_ts V1), trf_7 (XV_ts V1), ↓trf_7_b (XV_ts V1), trf_9 (XV_ts V1), ↓trf_9_b (XV_ts V1), trf_10 (XV_ts V1), ↓trf_10_b (XV_ts V1), trf_12 (XV_ts V1), ↓trf_12_b (XV_ts V1), trf_13 (XV_ts V1), ↓trf_13_b (XV_ts V1), trf_15 (XV_ts V1), ↓trf_15_b (XV_ts V1), trf_16 (XV_ts V1), ↓trf_16_b (XV_ts V1), trf_17 (XV_ts V1), ↓trf_17_b (XV_ts V1), try_1 (XV_ts V1), ↓try_1_b (XV_ts V1), try_2 (XV_ts V1), ↓try_2_b (XV_ts V1), try_3 (XV_ts V1), ↓try_3_b (XV_ts V1), try_5 (XV_ts V1), ↓try_5_b (XV_ts V1), try_6 (XV_ts V1), ↓try_6_b (XV_ts V1), ta_3 HL (XV_ts V1) R1, ↓ta_3_b HL (XV_ts V1) R1, ta_4 HL (XV_ts V1) R1, ↓ta_4_b HL (XV_ts V1) R1, ta_6 HL (XV_ts V1) R1, ↓ta_6_b HL (XV_ts V1) R1, ta_7 HL (XV_ts V1) R1, ↓ta_7_b HL (XV_ts V1) R1, ta_9 HL (XV_ts V1) R1, ↓ta_9_b HL (XV_ts V1) R1, ta_10 HL (XV_ts V1) R1, ↓ta_10_b HL (XV_ts V1) R1, ta_12 HL (XV_ts V1) R1, ↓ta_12_b HL (XV_ts V1) R1, ta_13 HL (XV_ts V1) R1, ↓ta_13_b HL (XV_ts V1) R1, ta_15 HL (XV_ts V1) R1, ↓ta_15_b HL (XV_ts V1) R1, ta_16 HL (XV_ts V1) R1, ↓ta_16_b HL (XV_ts V1) R1, ta_17 HL (XV_ts V1) R1, ↓ta_17_b HL (XV_ts V1) R1, tz_1 HL (XV_ts V1) R1, ↓tz_1_b HL (XV_ts V1) R1, tz_2 HL (XV_ts V1) R1, ↓tz_2_b HL (XV_ts V1) R1, tz_3 HL (XV_ts V1) R1, ↓tz_3_b HL (XV_ts V1) R1, tz_5 HL (XV_ts V1) R1, ↓tz_5_b HL (XV_ts V1) R1, tz_6 HL (XV_ts V1) R1, ↓tz_6_b HL (XV_ts V1) R1, ↓bn_e (mn), mn]
          rfl
        · constructor
          · rintro ⟨p1, p2⟩
            refine ⟨p1, fun z hz => ?_⟩
            by_cases e : z = i
            · rw [e]; exact fun x => absurd x eg
            · exact p2 z (by omega)
          · rintro ⟨p1, p2⟩
            exact ⟨p1, fun z hz => p2 z (by omega)⟩) (fun s h1 hI => by
      obtain ⟨rfl, f1, x1⟩ := hI
      have V1 := XV_fm f1 (by omega) V
      have R1 := TR_fm f1 (by omega) R
      refine ⟨(), h1, ?_, f1, LPn_iff (fun P => ⟨fun x => ⟨x.1, fun f hf => x.2 f (by omega)⟩, fun x => ⟨x.1, fun f hf => x.2 f (by omega)⟩⟩) x1⟩
      unfold B_pl_noteFeasts_2
      try simp only [j_0, j_1, j_2, j_3, j_4, j_5, j_6, j_7, j_8, j_9, j_10, j_11, j_12, j_13, j_14, j_15, j_16, j_17, j_18, j_19, j_20, j_21, j_22, j_23, j_24, j_25, j_26, j_27, j_28, j_29, j_30, j_31, j_32, j_33, j_34, j_35, j_36, j_37, j_38, j_39, j_40, j_41, j_42, j_43, j_44, j_45, j_46, j_47, j_48, j_49, j_50, j_51, j_52, j_57, j_59, j_63, j_74, j_75, j_93, j_97, j_99, j_100, j_122, j_200, j_255, j_300, j_465, j_496, j_900, j_999, j_1000, j_65536, j_65537, j_99999, j_252645135, j_858993459, j_1431655765, k_0, k_1, k_27, k_32, k_74, k_75, k_100, k_1000, k_65537]
      simp (disch := first | with_reducible assumption | omega | trivial) only [↓bn_s1, ↓bd_s1, ↓ei_l1, ↓ei_r1, ↓bn_if, ↓ilt_1, ↓ilt_0, ↓ieq_1, ↓ieq_0, bn_s1, bd_s1, ei_l1, ei_r1, J_add, J_sub, J_mul, J_neg, J_lt, J_le, J_eq, dv_J, rm_J, if_pos, if_neg, ↓reduceIte, bitJ, shlJ, orJ, j_0, j_1, j_2, j_3, j_4, j_5, j_6, j_7, j_8, j_9, j_10, j_11, j_12, j_13, j_14, j_15, j_16, j_17, j_18, j_19, j_20, j_21, j_22, j_23, j_24, j_25, j_26, j_27, j_28, j_29, j_30, j_31, j_32, j_33, j_34, j_35, j_36, j_37, j_38, j_39, j_40, j_41, j_42, j_43, j_44, j_45, j_46, j_47, j_48, j_49, j_50, j_51, j_52, j_57, j_59, j_63, j_74, j_75, j_93, j_97, j_99, j_100, j_122, j_200, j_255, j_300, j_465, j_496, j_900, j_999, j_1000, j_65536, j_65537, j_99999, j_252645135, j_858993459, j_1431655765, k_0, k_1, k_27, k_32, k_74, k_75, k_100, k_1000, k_65537, ti_0 (XV_ts V1) R1, ↓ti_0_b (XV_ts V1) R1, ti_1 (XV_ts V1) R1, ↓ti_1_b (XV_ts V1) R1, ti_5 (XV_ts V1) R1, ↓ti_5_b (XV_ts V1) R1, ti_8 (XV_ts V1) R1, ↓ti_8_b (XV_ts V1) R1, ti_11 (XV_ts V1) R1, ↓ti_11_b (XV_ts V1) R1, ti_14 (XV_ts V1) R1, ↓ti_14_b (XV_ts V1) R1, ty_0 (XV_ts V1) R1, ↓ty_0_b (XV_ts V1) R1, ty_4 (XV_ts V1) R1, ↓ty_4_b (XV_ts V1) R1, trf_18 (XV_ts V1), ↓trf_18_b (XV_ts V1), trf_3 (XV_ts V1), ↓trf_3_b (XV_ts V1), trf_4 (XV_ts V1), ↓trf_4_b (XV_ts V1), trf_6 (XV_ts V1), ↓trf_6_b (XV_ts V1), trf_7 (XV_ts V1), ↓trf_7_b (XV_ts V1), trf_9 (XV_ts V1), ↓trf_9_b (XV_ts V1), trf_10 (XV_ts V1), ↓trf_10_b (XV_ts V1), trf_12 (XV_ts V1), ↓trf_12_b (XV_ts V1), trf_13 (XV_ts V1), ↓trf_13_b (XV_ts V1), trf_15 (XV_ts V1), ↓trf_15_b (XV_ts V1), trf_16 (XV_ts V1), ↓trf_16_b (XV_ts V1), trf_17 (XV_ts V1), ↓trf_17_b (XV_ts V1), try_1 (XV_ts V1), ↓try_1_b (XV_ts V1), try_2 (XV_ts V1), ↓try_2_b (XV_ts V1), try_3 (XV_ts V1), ↓try_3_b (XV_ts V1), try_5 (XV_ts V1), ↓try_5_b (XV_ts V1), try_6 (XV_ts V1), ↓try_6_b (XV_ts V1), ta_3 HL (XV_ts V1) R1, ↓ta_3_b HL (XV_ts V1) R1, ta_4 HL (XV_ts V1) R1, ↓ta_4_b HL (XV_ts V1) R1, ta_6 HL (XV_ts V1) R1, ↓ta_6_b HL (XV_ts V1) R1, ta_7 HL (XV_ts V1) R1, ↓ta_7_b HL (XV_ts V1) R1, ta_9 HL (XV_ts V1) R1, ↓ta_9_b HL (XV_ts V1) R1, ta_10 HL (XV_ts V1) R1, ↓ta_10_b HL (XV_ts V1) R1, ta_12 HL (XV_ts V1) R1, ↓ta_12_b HL (XV_ts V1) R1, ta_13 HL (XV_ts V1) R1, ↓ta_13_b HL (XV_ts V1) R1, ta_15 HL (XV_ts V1) R1, ↓ta_15_b HL (XV_ts V1) R1, ta_16 HL (XV_ts V1) R1, ↓ta_16_b HL (XV_ts V1) R1, ta_17 HL (XV_ts V1) R1, ↓ta_17_b HL (XV_ts V1) R1, tz_1 HL (XV_ts V1) R1, ↓tz_1_b HL (XV_ts V1) R1, tz_2 HL (XV_ts V1) R1, ↓tz_2_b HL (XV_ts V1) R1, tz_3 HL (XV_ts V1) R1, ↓tz_3_b HL (XV_ts V1) R1, tz_5 HL (XV_ts V1) R1, ↓tz_5_b HL (XV_ts V1) R1, tz_6 HL (XV_ts V1) R1, ↓tz_6_b HL (XV_ts V1) R1])
  refine ⟨h1, ?_, f1, x1⟩
  unfold F_pl_noteFeasts
  rw [ck_e (PS_k (XV_p V))]
  try simp only [j_0, j_1, j_2, j_3, j_4, j_5, j_6, j_7, j_8, j_9, j_10, j_11, j_12, j_13, j_14, j_15, j_16, j_17, j_18, j_19, j_20, j_21, j_22, j_23, j_24, j_25, j_26, j_27, j_28, j_29, j_30, j_31, j_32, j_33, j_34, j_35, j_36, j_37, j_38, j_39, j_40, j_41, j_42, j_43, j_44, j_45, j_46, j_47, j_48, j_49, j_50, j_51, j_52, j_57, j_59, j_63, j_74, j_75, j_93, j_97, j_99, j_100, j_122, j_200, j_255, j_300, j_465, j_496, j_900, j_999, j_1000, j_65536, j_65537, j_99999, j_252645135, j_858993459, j_1431655765, k_0, k_1, k_27, k_32, k_74, k_75, k_100, k_1000, k_65537]
  simp (disch := first | with_reducible assumption | omega | trivial) only [↓bn_s1, ↓bd_s1, ↓ei_l1, ↓ei_r1, ↓bn_if, ↓ilt_1, ↓ilt_0, ↓ieq_1, ↓ieq_0, bn_s1, bd_s1, ei_l1, ei_r1, J_add, J_sub, J_mul, J_neg, J_lt, J_le, J_eq, dv_J, rm_J, if_pos, if_neg, ↓reduceIte, bitJ, shlJ, orJ, j_0, j_1, j_2, j_3, j_4, j_5, j_6, j_7, j_8, j_9, j_10, j_11, j_12, j_13, j_14, j_15, j_16, j_17, j_18, j_19, j_20, j_21, j_22, j_23, j_24, j_25, j_26, j_27, j_28, j_29, j_30, j_31, j_32, j_33, j_34, j_35, j_36, j_37, j_38, j_39, j_40, j_41, j_42, j_43, j_44, j_45, j_46, j_47, j_48, j_49, j_50, j_51, j_52, j_57, j_59, j_63, j_74, j_75, j_93, j_97, j_99, j_100, j_122, j_200, j_255, j_300, j_465, j_496, j_900, j_999, j_1000, j_65536, j_65537, j_99999, j_252645135, j_858993459, j_1431655765, k_0, k_1, k_27, k_32, k_74, k_75, k_100, k_1000, k_65537, ↓bd_e (e1), e1]
theorem oag_b {a : Ab} (HA : AW a) (g : Int) : OB (qL a) (oag a g) := net_ob HA.1 (sfn_sw HA.1 (by omega) HA.2.1.1 g.toNat).1 (by omega)
theorem sfn_28 {L : Lk} (HL : LW L) (S : Sk) : ∀ n : Nat, ∀ i : Int, 25 ≤ i → sfn L S n i = S i := by
  have b1 := LW_h HL
  have hne := hn_e HL
  intro n
  induction n with
  | zero => intro i _; rfl
  | succ n ih => intro i hi; show sft (sfn L S n) (hn L) i = S i; rw [sft_hi hi (hn L) (by omega)]; exact ih i hi
/-- the four ages -/
theorem C_ages {a : Ab} {t : Nat} {h : Hp} {e : Int} (HA : AW a) (V : XV t h) (R : TR (qL a) t h) (S : SR (qL a) 62 (qS a) h) (he : e = 0 ∨ e = 1) (X : ∀ i, 0 ≤ i → i < 20 → ia h 65 i = 0) : ∃ y h', lp (B_pl_find_49 57 t (J e)) FU (J 0) h = some (y, h') ∧ Fm 58 66 h h' ∧ LPn (qL a) (qS a 28).toNat (Cnd a e) (fun i => ia h' 65 i) := by
  have HL := HA.1
  have b1 := LW_h HL
  have hne := hn_e HL
  have ox := XV_o V
  have X0 : LPn (qL a) (qS a 28).toNat (fun _ => True) (fun i => ia h 65 i) := by
    refine ⟨fun z hz _ => isl_n.mpr (fun g hg => ?_), fun i i0 i1 => ?_, fun P hP => ⟨fun _ => trivial, fun _ i i0 i1 => ?_⟩⟩
    · show ia h 65 (4 * (z : Int) + g) ≤ 0
      rw [X _ (by omega) (by omega)]; omega
    · show 0 ≤ ia h 65 i ∧ ia h 65 i ≤ 600000
      rw [X i i0 i1]; omega
    · show ia h 65 i ≤ P i
      rw [X i i0 (by omega)]; exact hP i
  obtain ⟨y, h1, e1, f1, x1⟩ := lp_for (b := B_pl_find_49 57 t (J e)) (f := FU) (s := J 0) (h := h) (fun s s' h' => s' = J s ∧ Fm 58 66 h h' ∧ SR (qL a) 62 (sfn (qL a) (qS a) s) h' ∧ LPn (qL a) (qS a 28).toNat (fun P => (s = 0 ∨ cq0 a P) ∧ (e = 0 ∨ cqf a s P)) (fun i => ia h' 65 i)) (fun _ h' => Fm 58 66 h h' ∧ LPn (qL a) (qS a 28).toNat (Cnd a e) (fun i => ia h' 65 i)) 4 (by unfold FU; omega) ⟨rfl, fm_rf _ _ _, S, LPn_iff (fun P => ⟨fun _ => ⟨Or.inl rfl, Or.inr (fun f hf hm => by have := LW_fs HL f (by omega) hf; omega)⟩, fun _ => trivial⟩) X0⟩ (fun s s' h1 hs hI => by
      obtain ⟨rfl, f1, S1, x1⟩ := hI
      have V1 := XV_fm f1 (by omega) V
      have R1 := TR_fm f1 (by omega) R
      have W := sfn_sw HL (by omega) HA.2.1.1 s
      obtain ⟨h2, e2, f2, m2⟩ := C_measure HL (XV_c V1) (XV_r58 V1) (XV_ts V1) R1 (XV_s62 V1) S1 W.2.2.1 W.1 (by omega) W.2.2.2.1 W.2.2.2.2.1 (by omega) (by omega) (by omega)
      rw [sfn_28 HL (qS a) s 28 (by omega)] at m2
      replace m2 : RM (qL a) (oag a s) (qS a 28).toNat 58 h2 := by
        unfold oag
        rw [Int.toNat_natCast]
        exact m2
      have V2 := XV_fm f2 (by omega) V1
      have R2 := TR_fm f2 (by omega) R1
      have x2 : LPn (qL a) (qS a 28).toNat (fun P => (s = 0 ∨ cq0 a P) ∧ (e = 0 ∨ cqf a s P)) (fun i => ia h2 65 i) := by
        have : (fun i => ia h2 65 i) = fun i => ia h1 65 i := by funext i; rw [fm_ia f2 (by omega)]
        rw [this]; exact x1
      -- houses
      have s3 : ∃ h3, (if J (s : Nat) = J 0 then (bn (F_pl_noteHouses 57 t h2) fun h27 => some h27) else some h2) = some h3 ∧ Fm 65 66 h2 h3 ∧ LPn (qL a) (qS a 28).toNat (fun P => cq0 a P ∧ (e = 0 ∨ cqf a s P)) (fun i => ia h3 65 i) := by
        by_cases s0 : s = 0
        · subst s0
          obtain ⟨h3, e3, f3, x3⟩ := C_noteHouses HA V2 R2 m2 (oag_b HA _) x2
          refine ⟨h3, by rw [ieq_1 (show ((0 : Nat) : Int) = 0 from rfl), e3, bn_s1], f3, LPn_iff (fun P => ⟨fun x => ⟨x.2, x.1.2⟩, fun x => ⟨⟨Or.inl rfl, x.2⟩, x.1⟩⟩) x3⟩
        · refine ⟨h2, by rw [ieq_0 (by omega) (by omega) (by omega) (by omega) (by omega)], fm_rf _ _ _, LPn_iff (fun P => ⟨fun x => ⟨x.1.resolve_left s0, x.2⟩, fun x => ⟨Or.inr x.1, x.2⟩⟩) x2⟩
      obtain ⟨h3, e3, f3, x3⟩ := s3
      have V3 := XV_fm f3 (by omega) V2
      have R3 := TR_fm f3 (by omega) R2
      have m3 : RM (qL a) (oag a s) (qS a 28).toNat 58 h3 := ⟨by rw [fm_fi f3 (by omega)]; exact m2.1, fun j j0 j1 => by rw [fm_ia f3 (by omega)]; exact m2.2.1 j j0 j1, fun j j0 j1 => by rw [fm_ia f3 (by omega)]; exact m2.2.2.1 j j0 j1, fun j j0 j1 => by rw [fm_ia f3 (by omega)]; exact m2.2.2.2 j j0 j1⟩
      have s4 : ∃ h4, (if J e = J 0 then some h3 else (bn (F_pl_noteFeasts 57 t (J (s : Nat)) h3) fun h31 => some h31)) = some h4 ∧ Fm 65 66 h3 h4 ∧ LPn (qL a) (qS a 28).toNat (fun P => cq0 a P ∧ (e = 0 ∨ cqf a ((s + 1 : Nat) : Int) P)) (fun i => ia h4 65 i) := by
        by_cases e0 : e = 0
        · refine ⟨h3, by rw [ieq_1 e0], fm_rf _ _ _, LPn_iff (fun P => ⟨fun x => ⟨x.1, Or.inl e0⟩, fun x => ⟨x.1, Or.inl e0⟩⟩) x3⟩
        · obtain ⟨h4, e4, f4, x4⟩ := C_noteFeasts (g := s) HA V3 R3 m3 (oag_b HA _) (by omega) (by omega) x3
          refine ⟨h4, by rw [ieq_0 e0 (by omega) (by omega) (by omega) (by omega), e4, bn_s1], f4, LPn_iff (fun P => ?_) x4⟩
          constructor
          · rintro ⟨⟨p1, p2⟩, p3⟩
            refine ⟨p1, Or.inr (fun f hf hm => ?_)⟩
            by_cases ee : min (qL a 20 f) 3 = s
            · rw [ee]; exact p3 f hf ee
            · exact (p2.resolve_left e0) f hf (by omega)
          · rintro ⟨p1, p2⟩
            refine ⟨⟨p1, Or.inr (fun f hf hm => (p2.resolve_left e0) f hf (by omega))⟩, fun f hf hm => ?_⟩
            have := (p2.resolve_left e0) f hf (by omega)
            rw [hm] at this
            exact this
      obtain ⟨h4, e4, f4, x4⟩ := s4
      have f24 : Fm 58 66 h1 h4 := fm_tr (fm_wd f2 (by omega) (by omega)) (fm_tr (fm_wd f3 (by omega) (by omega)) (fm_wd f4 (by omega) (by omega)))
      have V4 := XV_fm f24 (by omega) V1
      have S4 : SR (qL a) 62 (sfn (qL a) (qS a) s) h4 := SR_fm f4 (by omega) (SR_fm f3 (by omega) (SR_fm f2 (by omega) S1))
      obtain ⟨h5, e5, f5, S5⟩ := C_softenL HL W (XV_s62 V4) S4 (by omega)
      refine ⟨J (s + 1 : Nat), h5, ?_, rfl, fm_tr f1 (fm_tr f24 (fm_wd f5 (by omega) (by omega))), S5, ?_⟩
      · unfold B_pl_find_49
        try simp only [j_0, j_1, j_2, j_3, j_4, j_5, j_6, j_7, j_8, j_9, j_10, j_11, j_12, j_13, j_14, j_15, j_16, j_17, j_18, j_19, j_20, j_21, j_22, j_23, j_24, j_25, j_26, j_27, j_28, j_29, j_30, j_31, j_32, j_33, j_34, j_35, j_36, j_37, j_38, j_39, j_40, j_41, j_42, j_43, j_44, j_45, j_46, j_47, j_48, j_49, j_50, j_51, j_52, j_57, j_59, j_63, j_74, j_75, j_93, j_97, j_99, j_100, j_122, j_200, j_255, j_300, j_465, j_496, j_900, j_999, j_1000, j_65536, j_65537, j_99999, j_252645135, j_858993459, j_1431655765, k_0, k_1, k_27, k_32, k_74, k_75, k_100, k_1000, k_65537]
        rw [ilt_1 (by omega) (by omega) (by omega) (by omega) (by omega), p_r1 V1, bn_s1, p_r2 V1, bn_s1, e2, bn_s1, e3, bn_s1, e4, bn_s1, p_r2 V4, bn_s1, e5, bn_s1, J_add]
        rfl
      · have : (fun i => ia h5 65 i) = fun i => ia h4 65 i := by funext i; rw [fm_ia f5 (by omega)]
        rw [this]
        exact LPn_iff (fun P => ⟨fun x => ⟨Or.inr x.1, x.2⟩, fun x => ⟨x.1.resolve_left (by omega), x.2⟩⟩) x4) (fun s' h1 hI => by
      obtain ⟨rfl, f1, S1, x1⟩ := hI
      refine ⟨(), h1, ?_, f1, LPn_iff (fun P => ⟨fun x => ⟨x.1.resolve_left (by omega), x.2⟩, fun x => ⟨Or.inr x.1, x.2⟩⟩) x1⟩
      unfold B_pl_find_49
      try simp only [j_0, j_1, j_2, j_3, j_4, j_5, j_6, j_7, j_8, j_9, j_10, j_11, j_12, j_13, j_14, j_15, j_16, j_17, j_18, j_19, j_20, j_21, j_22, j_23, j_24, j_25, j_26, j_27, j_28, j_29, j_30, j_31, j_32, j_33, j_34, j_35, j_36, j_37, j_38, j_39, j_40, j_41, j_42, j_43, j_44, j_45, j_46, j_47, j_48, j_49, j_50, j_51, j_52, j_57, j_59, j_63, j_74, j_75, j_93, j_97, j_99, j_100, j_122, j_200, j_255, j_300, j_465, j_496, j_900, j_999, j_1000, j_65536, j_65537, j_99999, j_252645135, j_858993459, j_1431655765, k_0, k_1, k_27, k_32, k_74, k_75, k_100, k_1000, k_65537]
      simp (disch := first | with_reducible assumption | omega | trivial) only [↓bn_s1, ↓bd_s1, ↓ei_l1, ↓ei_r1, ↓bn_if, ↓ilt_1, ↓ilt_0, ↓ieq_1, ↓ieq_0, bn_s1, bd_s1, ei_l1, ei_r1, J_add, J_sub, J_mul, J_neg, J_lt, J_le, J_eq, dv_J, rm_J, if_pos, if_neg, ↓reduceIte, bitJ, shlJ, orJ, j_0, j_1, j_2, j_3, j_4, j_5, j_6, j_7, j_8, j_9, j_10, j_11, j_12, j_13, j_14, j_15, j_16, j_17, j_18, j_19, j_20, j_21, j_22, j_23, j_24, j_25, j_26, j_27, j_28, j_29, j_30, j_31, j_32, j_33, j_34, j_35, j_36, j_37, j_38, j_39, j_40, j_41, j_42, j_43, j_44, j_45, j_46, j_47, j_48, j_49, j_50, j_51, j_52, j_57, j_59, j_63, j_74, j_75, j_93, j_97, j_99, j_100, j_122, j_200, j_255, j_300, j_465, j_496, j_900, j_999, j_1000, j_65536, j_65537, j_99999, j_252645135, j_858993459, j_1431655765, k_0, k_1, k_27, k_32, k_74, k_75, k_100, k_1000, k_65537])
  exact ⟨y, h1, e1, f1, x1⟩
