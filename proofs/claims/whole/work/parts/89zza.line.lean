/-! a line, whatever it is -/
def a_line (L : Lk) (T : Int → Int) (n p : Nat) : Lo := if isW T n p 0 = true then (if L 31 0 = 0 then a_mic L T n (tnx T n p) else .inr (3, (spn T n p : Nat))) else if isW T n p 1 = true then (if bgf L (L 1 0) 5 = 0 then a_hou L T n (tnx T n p) else .inr (bgf L (L 1 0) 5, (spn T n p : Nat))) else if isW T n p 2 = true then (if bgf L (L 2 0) 5 = 0 then a_rop L T n (tnx T n p) else .inr (bgf L (L 2 0) 5, (spn T n p : Nat))) else if isW T n p 3 = true then (if bgf L 0 1 = 0 then a_crk L T n (tnx T n p) else .inr (bgf L 0 1, (spn T n p : Nat))) else if isW T n p 4 = true then (if bgf L (L 3 0) 3 = 0 then a_gst L T n (tnx T n p) else .inr (bgf L (L 3 0) 3, (spn T n p : Nat))) else if isW T n p 5 = true then (if bgf L (L 4 0) 3 = 0 then a_drk L T n (tnx T n p) else .inr (bgf L (L 4 0) 3, (spn T n p : Nat))) else if isW T n p 6 = true then (if bgf L (L 5 0) 4 = 0 then a_fea L T n (tnx T n p) else .inr (bgf L (L 5 0) 4, (spn T n p : Nat))) else if isW T n p 7 = true then (if bgf L (L 6 0) 4 = 0 then a_gav L T n (tnx T n p) else .inr (bgf L (L 6 0) 4, (spn T n p : Nat))) else if isW T n p 8 = true then (if bgf L 0 1 = 0 then a_sen L T n (tnx T n p) else .inr (bgf L 0 1, (spn T n p : Nat))) else .inr (1, (spn T n p : Nat))
theorem CO_rv {o : Lo} {u : Nat} {T : Int → Int} {n : Nat} {r : Option (Int32 × Hp)} {h : Hp} (H : CO o u T n r h) : CO o u T n (bd r fun x g => if retV .boolean x = true then some (x, g) else none) h := by
  constructor
  · intro p L e
    obtain ⟨a, h', e1, q⟩ := H.1 p L e
    exact ⟨a, h', by rw [bd_e e1, if_pos rvb1], q⟩
  · intro f q e
    obtain ⟨h', e1, z⟩ := H.2 f q e
    exact ⟨h', by rw [bd_e e1, if_pos rvb0], z⟩
theorem bn_id {α : Type} (o : Option α) : (bn o fun x => some x) = o := by cases o <;> rfl
theorem bgf_5 {L : Lk} {c m : Int} (t : L 31 0 = 1) (e : c = m) : bgf L c m = 5 := by unfold bgf; rw [if_neg (by omega), if_pos e]
theorem bgf_0 {L : Lk} {c m : Int} (t : L 31 0 = 1) (e : ¬ c = m) : bgf L c m = 0 := by unfold bgf; rw [if_neg (by omega), if_neg e]
theorem bgf_6 {L : Lk} {c m : Int} (t : L 31 0 = 0) : bgf L c m = 6 := by unfold bgf; rw [if_pos t]
theorem C_room1 {L : Lk} {u : Nat} {T : Int → Int} {n : Nat} {h : Hp} (C : CP L u T n h) : F_rd_hasRoomFor 2 (J 1) h = some (J (if (L 1 0) = 5 then 0 else 1)) := by
  unfold F_rd_hasRoomFor
  rw [ck_e (DS_k (CP_d C))]
  rw [if_neg (show ¬ ((J 1).toInt < 1 ∨ 7 < (J 1).toInt) by decide), if_pos (show J 1 = (1 : Int32) by decide)]
  have lb := LW_h (CP_lw C)
  rw [bn_e (CP_gu C), bn_e (ti_1 C.2.1 (CP_t C))]
  by_cases e : L 1 0 = 5
  · rw [if_pos e, if_neg (show ¬ J (L 1 0) < (5 : Int32) by rw [j_5, J_lt (by omega) (by omega) (by omega) (by omega)]; omega), j_0]
  · rw [if_neg e, if_pos (show J (L 1 0) < (5 : Int32) by rw [j_5, J_lt (by omega) (by omega) (by omega) (by omega)]; omega), j_1]
theorem C_room2 {L : Lk} {u : Nat} {T : Int → Int} {n : Nat} {h : Hp} (C : CP L u T n h) : F_rd_hasRoomFor 2 (J 2) h = some (J (if (L 2 0) = 5 then 0 else 1)) := by
  unfold F_rd_hasRoomFor
  rw [ck_e (DS_k (CP_d C))]
  rw [if_neg (show ¬ ((J 2).toInt < 1 ∨ 7 < (J 2).toInt) by decide), if_neg (show ¬ J 2 = (1 : Int32) by decide), if_pos (show J 2 = (2 : Int32) by decide)]
  have lb := LW_r (CP_lw C)
  rw [bn_e (CP_gu C), bn_e (ti_5 C.2.1 (CP_t C))]
  by_cases e : L 2 0 = 5
  · rw [if_pos e, if_neg (show ¬ J (L 2 0) < (5 : Int32) by rw [j_5, J_lt (by omega) (by omega) (by omega) (by omega)]; omega), j_0]
  · rw [if_neg e, if_pos (show J (L 2 0) < (5 : Int32) by rw [j_5, J_lt (by omega) (by omega) (by omega) (by omega)]; omega), j_1]
theorem C_room3 {L : Lk} {u : Nat} {T : Int → Int} {n : Nat} {h : Hp} (C : CP L u T n h) : F_rd_hasRoomFor 2 (J 3) h = some (J (if (0 : Int) = 1 then 0 else 1)) := by
  unfold F_rd_hasRoomFor
  rw [ck_e (DS_k (CP_d C))]
  rw [if_neg (show ¬ ((J 3).toInt < 1 ∨ 7 < (J 3).toInt) by decide), if_neg (show ¬ J 3 = (1 : Int32) by decide), if_neg (show ¬ J 3 = (2 : Int32) by decide), if_pos (show J 3 = (3 : Int32) by decide)]
  rw [if_neg (by omega), j_1]
theorem C_room4 {L : Lk} {u : Nat} {T : Int → Int} {n : Nat} {h : Hp} (C : CP L u T n h) : F_rd_hasRoomFor 2 (J 4) h = some (J (if (L 3 0) = 3 then 0 else 1)) := by
  unfold F_rd_hasRoomFor
  rw [ck_e (DS_k (CP_d C))]
  rw [if_neg (show ¬ ((J 4).toInt < 1 ∨ 7 < (J 4).toInt) by decide), if_neg (show ¬ J 4 = (1 : Int32) by decide), if_neg (show ¬ J 4 = (2 : Int32) by decide), if_neg (show ¬ J 4 = (3 : Int32) by decide), if_pos (show J 4 = (4 : Int32) by decide)]
  have lb := LW_g (CP_lw C)
  rw [bn_e (CP_gu C), bn_e (ti_8 C.2.1 (CP_t C))]
  by_cases e : L 3 0 = 3
  · rw [if_pos e, if_neg (show ¬ J (L 3 0) < (3 : Int32) by rw [j_3, J_lt (by omega) (by omega) (by omega) (by omega)]; omega), j_0]
  · rw [if_neg e, if_pos (show J (L 3 0) < (3 : Int32) by rw [j_3, J_lt (by omega) (by omega) (by omega) (by omega)]; omega), j_1]
theorem C_room5 {L : Lk} {u : Nat} {T : Int → Int} {n : Nat} {h : Hp} (C : CP L u T n h) : F_rd_hasRoomFor 2 (J 5) h = some (J (if (L 4 0) = 3 then 0 else 1)) := by
  unfold F_rd_hasRoomFor
  rw [ck_e (DS_k (CP_d C))]
  rw [if_neg (show ¬ ((J 5).toInt < 1 ∨ 7 < (J 5).toInt) by decide), if_neg (show ¬ J 5 = (1 : Int32) by decide), if_neg (show ¬ J 5 = (2 : Int32) by decide), if_neg (show ¬ J 5 = (3 : Int32) by decide), if_neg (show ¬ J 5 = (4 : Int32) by decide), if_pos (show J 5 = (5 : Int32) by decide)]
  have lb := LW_d (CP_lw C)
  rw [bn_e (CP_gu C), bn_e (ti_11 C.2.1 (CP_t C))]
  by_cases e : L 4 0 = 3
  · rw [if_pos e, if_neg (show ¬ J (L 4 0) < (3 : Int32) by rw [j_3, J_lt (by omega) (by omega) (by omega) (by omega)]; omega), j_0]
  · rw [if_neg e, if_pos (show J (L 4 0) < (3 : Int32) by rw [j_3, J_lt (by omega) (by omega) (by omega) (by omega)]; omega), j_1]
theorem C_room6 {L : Lk} {u : Nat} {T : Int → Int} {n : Nat} {h : Hp} (C : CP L u T n h) : F_rd_hasRoomFor 2 (J 6) h = some (J (if (L 5 0) = 4 then 0 else 1)) := by
  unfold F_rd_hasRoomFor
  rw [ck_e (DS_k (CP_d C))]
  rw [if_neg (show ¬ ((J 6).toInt < 1 ∨ 7 < (J 6).toInt) by decide), if_neg (show ¬ J 6 = (1 : Int32) by decide), if_neg (show ¬ J 6 = (2 : Int32) by decide), if_neg (show ¬ J 6 = (3 : Int32) by decide), if_neg (show ¬ J 6 = (4 : Int32) by decide), if_neg (show ¬ J 6 = (5 : Int32) by decide), if_pos (show J 6 = (6 : Int32) by decide)]
  have lb := LW_f (CP_lw C)
  rw [bn_e (CP_gu C), bn_e (ti_14 C.2.1 (CP_t C))]
  by_cases e : L 5 0 = 4
  · rw [if_pos e, if_neg (show ¬ J (L 5 0) < (4 : Int32) by rw [j_4, J_lt (by omega) (by omega) (by omega) (by omega)]; omega), j_0]
  · rw [if_neg e, if_pos (show J (L 5 0) < (4 : Int32) by rw [j_4, J_lt (by omega) (by omega) (by omega) (by omega)]; omega), j_1]
theorem C_room7 {L : Lk} {u : Nat} {T : Int → Int} {n : Nat} {h : Hp} (C : CP L u T n h) : F_rd_hasRoomFor 2 (J 7) h = some (J (if (L 6 0) = 4 then 0 else 1)) := by
  unfold F_rd_hasRoomFor
  rw [ck_e (DS_k (CP_d C))]
  rw [if_neg (show ¬ ((J 7).toInt < 1 ∨ 7 < (J 7).toInt) by decide), if_neg (show ¬ J 7 = (1 : Int32) by decide), if_neg (show ¬ J 7 = (2 : Int32) by decide), if_neg (show ¬ J 7 = (3 : Int32) by decide), if_neg (show ¬ J 7 = (4 : Int32) by decide), if_neg (show ¬ J 7 = (5 : Int32) by decide), if_neg (show ¬ J 7 = (6 : Int32) by decide), if_pos (show J 7 = (7 : Int32) by decide)]
  have lb := LW_v (CP_lw C)
  rw [bn_e (CP_gu C), bn_e (trf_18 C.2.1), bn_e (ty_0 C.2.1 (CP_t C))]
  by_cases e : L 6 0 = 4
  · rw [if_pos e, if_neg (show ¬ J (L 6 0) < (4 : Int32) by rw [j_4, J_lt (by omega) (by omega) (by omega) (by omega)]; omega), j_0]
  · rw [if_neg e, if_pos (show J (L 6 0) < (4 : Int32) by rw [j_4, J_lt (by omega) (by omega) (by omega) (by omega)]; omega), j_1]
theorem C_room8 {L : Lk} {u : Nat} {T : Int → Int} {n : Nat} {h : Hp} (C : CP L u T n h) : F_rd_hasRoomFor 2 (J 8) h = some (J (if (0 : Int) = 1 then 0 else 1)) := by
  unfold F_rd_hasRoomFor
  rw [ck_e (DS_k (CP_d C))]
  rw [if_pos (show (J 8).toInt < 1 ∨ 7 < (J 8).toInt by decide), if_neg (by omega), j_1]
theorem C_ln1 {L : Lk} {u : Nat} {T : Int → Int} {n p : Nat} {h : Hp} (hp : p ≤ n) (C : CP L u T n h) (NBL : NB L) (SDL : SD L) (H : CT T n p h) (e : lso T n p = 1) : CO (if bgf L (L 1 0) 5 = 0 then a_hou L T n (tnx T n p) else .inr (bgf L (L 1 0) 5, (spn T n p : Nat))) u T n (F_rd_readLine 2 h) h := by
  have hu := C.2.2.2.1
  have lw := CP_lw C
  have lh := LW_h lw
  have lr := LW_r lw
  have lg := LW_g lw
  have ld := LW_d lw
  have lf := LW_f lw
  have lv := LW_v lw
  have el := C_lso C.1 hp H
  rw [e] at el
  have D := CP_d C
  have g4 : gI h 2 7 4 = some (J (L 31 0)) := by rw [d_i D, (CP_nc C).2.1]
  have t := C.2.2.2.2.2.2.2.2.2
  have rm := C_room1 C
  unfold F_rd_readLine
  rw [ck_e (DS_k D), bn_e el]
  simp only [if_neg (show ¬ J 1 = (-1 : Int32) by decide), if_neg (show ¬ J 1 = (0 : Int32) by decide), if_neg (show ¬ ((J 1).toInt < 0 ∨ 7 < (J 1).toInt) by decide), if_pos (show J 1 = (1 : Int32) by decide)]
  rw [bn_s1, ei_l1, bn_e g4]
  by_cases t0 : L 31 0 = 0
  · rw [bgf_6 t0, if_neg (show ¬ (6 : Int) = 0 by decide), t0]
    obtain ⟨g2, e2, q2⟩ := C_fail (x := 6) C.1 hp H (by omega)
    refine CO_r (h' := g2) ?_ (cf_fl hu q2) q2.2
    have rv := rvb0
    try simp only [j_0, j_1, j_2, j_3, j_4, j_5, j_6, j_7, j_8, j_9, j_10, j_11, j_12, j_13, j_14, j_15, j_16, j_17, j_18, j_19, j_20, j_21, j_22, j_23, j_24, j_25, j_26, j_27, j_28, j_29, j_30, j_31, j_32, j_33, j_34, j_35, j_36, j_37, j_38, j_39, j_40, j_41, j_42, j_43, j_44, j_45, j_46, j_47, j_48, j_49, j_50, j_51, j_52, j_57, j_59, j_63, j_74, j_75, j_93, j_97, j_99, j_100, j_122, j_200, j_255, j_300, j_465, j_496, j_900, j_999, j_1000, j_65536, j_65537, j_99999, j_252645135, j_858993459, j_1431655765, k_0, k_1, k_27, k_32, k_74, k_75, k_100, k_1000, k_65537]
    simp (disch := first | with_reducible assumption | omega | trivial) only [↓bn_s1, ↓bd_s1, ↓ei_l1, ↓ei_r1, ↓bn_if, ↓ilt_1, ↓ilt_0, ↓ieq_1, ↓ieq_0, bn_s1, bd_s1, ei_l1, ei_r1, J_add, J_sub, J_mul, J_neg, J_lt, J_le, J_eq, dv_J, rm_J, if_pos, if_neg, ↓reduceIte, bitJ, shlJ, orJ, j_0, j_1, j_2, j_3, j_4, j_5, j_6, j_7, j_8, j_9, j_10, j_11, j_12, j_13, j_14, j_15, j_16, j_17, j_18, j_19, j_20, j_21, j_22, j_23, j_24, j_25, j_26, j_27, j_28, j_29, j_30, j_31, j_32, j_33, j_34, j_35, j_36, j_37, j_38, j_39, j_40, j_41, j_42, j_43, j_44, j_45, j_46, j_47, j_48, j_49, j_50, j_51, j_52, j_57, j_59, j_63, j_74, j_75, j_93, j_97, j_99, j_100, j_122, j_200, j_255, j_300, j_465, j_496, j_900, j_999, j_1000, j_65536, j_65537, j_99999, j_252645135, j_858993459, j_1431655765, k_0, k_1, k_27, k_32, k_74, k_75, k_100, k_1000, k_65537, ↓bd_e (e2), e2]
  · have t1 : L 31 0 = 1 := by omega
    rw [t1, if_neg (show ¬ J 1 = (0 : Int32) by decide), bn_s1, ei_l1, bn_e rm]
    by_cases cm : L 1 0 = 5
    · rw [bgf_5 t1 cm, if_pos cm, if_pos (show J 0 = (0 : Int32) by decide), if_neg (show ¬ (5 : Int) = 0 by decide)]
      exact S_fail C hp H (by omega) (by decide)
    · rw [bgf_0 t1 cm, if_neg cm, if_neg (show ¬ J 1 = (0 : Int32) by decide), if_pos rfl, bn_e (d_r2 D)]
      refine S_ad C hp H (fun g C1 c1 p1b _ => ?_)
      exact CO_rv (C_hou p1b C1 NBL (by omega) c1)
theorem C_ln2 {L : Lk} {u : Nat} {T : Int → Int} {n p : Nat} {h : Hp} (hp : p ≤ n) (C : CP L u T n h) (NBL : NB L) (SDL : SD L) (H : CT T n p h) (e : lso T n p = 2) : CO (if bgf L (L 2 0) 5 = 0 then a_rop L T n (tnx T n p) else .inr (bgf L (L 2 0) 5, (spn T n p : Nat))) u T n (F_rd_readLine 2 h) h := by
  have hu := C.2.2.2.1
  have lw := CP_lw C
  have lh := LW_h lw
  have lr := LW_r lw
  have lg := LW_g lw
  have ld := LW_d lw
  have lf := LW_f lw
  have lv := LW_v lw
  have el := C_lso C.1 hp H
  rw [e] at el
  have D := CP_d C
  have g4 : gI h 2 7 4 = some (J (L 31 0)) := by rw [d_i D, (CP_nc C).2.1]
  have t := C.2.2.2.2.2.2.2.2.2
  have rm := C_room2 C
  unfold F_rd_readLine
  rw [ck_e (DS_k D), bn_e el]
  simp only [if_neg (show ¬ J 2 = (-1 : Int32) by decide), if_neg (show ¬ J 2 = (0 : Int32) by decide), if_neg (show ¬ ((J 2).toInt < 0 ∨ 7 < (J 2).toInt) by decide), if_neg (show ¬ J 2 = (1 : Int32) by decide), if_pos (show J 2 = (2 : Int32) by decide)]
  rw [bn_s1, ei_l1, bn_e g4]
  by_cases t0 : L 31 0 = 0
  · rw [bgf_6 t0, if_neg (show ¬ (6 : Int) = 0 by decide), t0]
    obtain ⟨g2, e2, q2⟩ := C_fail (x := 6) C.1 hp H (by omega)
    refine CO_r (h' := g2) ?_ (cf_fl hu q2) q2.2
    have rv := rvb0
    try simp only [j_0, j_1, j_2, j_3, j_4, j_5, j_6, j_7, j_8, j_9, j_10, j_11, j_12, j_13, j_14, j_15, j_16, j_17, j_18, j_19, j_20, j_21, j_22, j_23, j_24, j_25, j_26, j_27, j_28, j_29, j_30, j_31, j_32, j_33, j_34, j_35, j_36, j_37, j_38, j_39, j_40, j_41, j_42, j_43, j_44, j_45, j_46, j_47, j_48, j_49, j_50, j_51, j_52, j_57, j_59, j_63, j_74, j_75, j_93, j_97, j_99, j_100, j_122, j_200, j_255, j_300, j_465, j_496, j_900, j_999, j_1000, j_65536, j_65537, j_99999, j_252645135, j_858993459, j_1431655765, k_0, k_1, k_27, k_32, k_74, k_75, k_100, k_1000, k_65537]
    simp (disch := first | with_reducible assumption | omega | trivial) only [↓bn_s1, ↓bd_s1, ↓ei_l1, ↓ei_r1, ↓bn_if, ↓ilt_1, ↓ilt_0, ↓ieq_1, ↓ieq_0, bn_s1, bd_s1, ei_l1, ei_r1, J_add, J_sub, J_mul, J_neg, J_lt, J_le, J_eq, dv_J, rm_J, if_pos, if_neg, ↓reduceIte, bitJ, shlJ, orJ, j_0, j_1, j_2, j_3, j_4, j_5, j_6, j_7, j_8, j_9, j_10, j_11, j_12, j_13, j_14, j_15, j_16, j_17, j_18, j_19, j_20, j_21, j_22, j_23, j_24, j_25, j_26, j_27, j_28, j_29, j_30, j_31, j_32, j_33, j_34, j_35, j_36, j_37, j_38, j_39, j_40, j_41, j_42, j_43, j_44, j_45, j_46, j_47, j_48, j_49, j_50, j_51, j_52, j_57, j_59, j_63, j_74, j_75, j_93, j_97, j_99, j_100, j_122, j_200, j_255, j_300, j_465, j_496, j_900, j_999, j_1000, j_65536, j_65537, j_99999, j_252645135, j_858993459, j_1431655765, k_0, k_1, k_27, k_32, k_74, k_75, k_100, k_1000, k_65537, ↓bd_e (e2), e2]
  · have t1 : L 31 0 = 1 := by omega
    rw [t1, if_neg (show ¬ J 1 = (0 : Int32) by decide), bn_s1, ei_l1, bn_e rm]
    by_cases cm : L 2 0 = 5
    · rw [bgf_5 t1 cm, if_pos cm, if_pos (show J 0 = (0 : Int32) by decide), if_neg (show ¬ (5 : Int) = 0 by decide)]
      exact S_fail C hp H (by omega) (by decide)
    · rw [bgf_0 t1 cm, if_neg cm, if_neg (show ¬ J 1 = (0 : Int32) by decide), if_pos rfl, bn_e (d_r2 D)]
      refine S_ad C hp H (fun g C1 c1 p1b _ => ?_)
      exact CO_rv (C_rop p1b C1 NBL (by omega) c1)
theorem C_ln3 {L : Lk} {u : Nat} {T : Int → Int} {n p : Nat} {h : Hp} (hp : p ≤ n) (C : CP L u T n h) (NBL : NB L) (SDL : SD L) (H : CT T n p h) (e : lso T n p = 3) : CO (if bgf L 0 1 = 0 then a_crk L T n (tnx T n p) else .inr (bgf L 0 1, (spn T n p : Nat))) u T n (F_rd_readLine 2 h) h := by
  have hu := C.2.2.2.1
  have lw := CP_lw C
  have lh := LW_h lw
  have lr := LW_r lw
  have lg := LW_g lw
  have ld := LW_d lw
  have lf := LW_f lw
  have lv := LW_v lw
  have el := C_lso C.1 hp H
  rw [e] at el
  have D := CP_d C
  have g4 : gI h 2 7 4 = some (J (L 31 0)) := by rw [d_i D, (CP_nc C).2.1]
  have t := C.2.2.2.2.2.2.2.2.2
  have rm := C_room3 C
  unfold F_rd_readLine
  rw [ck_e (DS_k D), bn_e el]
  simp only [if_neg (show ¬ J 3 = (-1 : Int32) by decide), if_neg (show ¬ J 3 = (0 : Int32) by decide), if_neg (show ¬ ((J 3).toInt < 0 ∨ 7 < (J 3).toInt) by decide), if_neg (show ¬ J 3 = (1 : Int32) by decide), if_neg (show ¬ J 3 = (2 : Int32) by decide), if_pos (show J 3 = (3 : Int32) by decide)]
  rw [bn_s1, ei_l1, bn_e g4]
  by_cases t0 : L 31 0 = 0
  · rw [bgf_6 t0, if_neg (show ¬ (6 : Int) = 0 by decide), t0]
    obtain ⟨g2, e2, q2⟩ := C_fail (x := 6) C.1 hp H (by omega)
    refine CO_r (h' := g2) ?_ (cf_fl hu q2) q2.2
    have rv := rvb0
    try simp only [j_0, j_1, j_2, j_3, j_4, j_5, j_6, j_7, j_8, j_9, j_10, j_11, j_12, j_13, j_14, j_15, j_16, j_17, j_18, j_19, j_20, j_21, j_22, j_23, j_24, j_25, j_26, j_27, j_28, j_29, j_30, j_31, j_32, j_33, j_34, j_35, j_36, j_37, j_38, j_39, j_40, j_41, j_42, j_43, j_44, j_45, j_46, j_47, j_48, j_49, j_50, j_51, j_52, j_57, j_59, j_63, j_74, j_75, j_93, j_97, j_99, j_100, j_122, j_200, j_255, j_300, j_465, j_496, j_900, j_999, j_1000, j_65536, j_65537, j_99999, j_252645135, j_858993459, j_1431655765, k_0, k_1, k_27, k_32, k_74, k_75, k_100, k_1000, k_65537]
    simp (disch := first | with_reducible assumption | omega | trivial) only [↓bn_s1, ↓bd_s1, ↓ei_l1, ↓ei_r1, ↓bn_if, ↓ilt_1, ↓ilt_0, ↓ieq_1, ↓ieq_0, bn_s1, bd_s1, ei_l1, ei_r1, J_add, J_sub, J_mul, J_neg, J_lt, J_le, J_eq, dv_J, rm_J, if_pos, if_neg, ↓reduceIte, bitJ, shlJ, orJ, j_0, j_1, j_2, j_3, j_4, j_5, j_6, j_7, j_8, j_9, j_10, j_11, j_12, j_13, j_14, j_15, j_16, j_17, j_18, j_19, j_20, j_21, j_22, j_23, j_24, j_25, j_26, j_27, j_28, j_29, j_30, j_31, j_32, j_33, j_34, j_35, j_36, j_37, j_38, j_39, j_40, j_41, j_42, j_43, j_44, j_45, j_46, j_47, j_48, j_49, j_50, j_51, j_52, j_57, j_59, j_63, j_74, j_75, j_93, j_97, j_99, j_100, j_122, j_200, j_255, j_300, j_465, j_496, j_900, j_999, j_1000, j_65536, j_65537, j_99999, j_252645135, j_858993459, j_1431655765, k_0, k_1, k_27, k_32, k_74, k_75, k_100, k_1000, k_65537, ↓bd_e (e2), e2]
  · have t1 : L 31 0 = 1 := by omega
    rw [t1, if_neg (show ¬ J 1 = (0 : Int32) by decide), bn_s1, ei_l1, bn_e rm]
    by_cases cm : (0 : Int) = 1
    · rw [bgf_5 t1 cm, if_pos cm, if_pos (show J 0 = (0 : Int32) by decide), if_neg (show ¬ (5 : Int) = 0 by decide)]
      exact S_fail C hp H (by omega) (by decide)
    · rw [bgf_0 t1 cm, if_neg cm, if_neg (show ¬ J 1 = (0 : Int32) by decide), if_pos rfl, bn_e (d_r2 D)]
      refine S_ad C hp H (fun g C1 c1 p1b _ => ?_)
      exact CO_rv (C_crk p1b C1 NBL c1)
theorem C_ln4 {L : Lk} {u : Nat} {T : Int → Int} {n p : Nat} {h : Hp} (hp : p ≤ n) (C : CP L u T n h) (NBL : NB L) (SDL : SD L) (H : CT T n p h) (e : lso T n p = 4) : CO (if bgf L (L 3 0) 3 = 0 then a_gst L T n (tnx T n p) else .inr (bgf L (L 3 0) 3, (spn T n p : Nat))) u T n (F_rd_readLine 2 h) h := by
  have hu := C.2.2.2.1
  have lw := CP_lw C
  have lh := LW_h lw
  have lr := LW_r lw
  have lg := LW_g lw
  have ld := LW_d lw
  have lf := LW_f lw
  have lv := LW_v lw
  have el := C_lso C.1 hp H
  rw [e] at el
  have D := CP_d C
  have g4 : gI h 2 7 4 = some (J (L 31 0)) := by rw [d_i D, (CP_nc C).2.1]
  have t := C.2.2.2.2.2.2.2.2.2
  have rm := C_room4 C
  unfold F_rd_readLine
  rw [ck_e (DS_k D), bn_e el]
  simp only [if_neg (show ¬ J 4 = (-1 : Int32) by decide), if_neg (show ¬ J 4 = (0 : Int32) by decide), if_neg (show ¬ ((J 4).toInt < 0 ∨ 7 < (J 4).toInt) by decide), if_neg (show ¬ J 4 = (1 : Int32) by decide), if_neg (show ¬ J 4 = (2 : Int32) by decide), if_neg (show ¬ J 4 = (3 : Int32) by decide), if_pos (show J 4 = (4 : Int32) by decide)]
  rw [bn_s1, ei_l1, bn_e g4]
  by_cases t0 : L 31 0 = 0
  · rw [bgf_6 t0, if_neg (show ¬ (6 : Int) = 0 by decide), t0]
    obtain ⟨g2, e2, q2⟩ := C_fail (x := 6) C.1 hp H (by omega)
    refine CO_r (h' := g2) ?_ (cf_fl hu q2) q2.2
    have rv := rvb0
    try simp only [j_0, j_1, j_2, j_3, j_4, j_5, j_6, j_7, j_8, j_9, j_10, j_11, j_12, j_13, j_14, j_15, j_16, j_17, j_18, j_19, j_20, j_21, j_22, j_23, j_24, j_25, j_26, j_27, j_28, j_29, j_30, j_31, j_32, j_33, j_34, j_35, j_36, j_37, j_38, j_39, j_40, j_41, j_42, j_43, j_44, j_45, j_46, j_47, j_48, j_49, j_50, j_51, j_52, j_57, j_59, j_63, j_74, j_75, j_93, j_97, j_99, j_100, j_122, j_200, j_255, j_300, j_465, j_496, j_900, j_999, j_1000, j_65536, j_65537, j_99999, j_252645135, j_858993459, j_1431655765, k_0, k_1, k_27, k_32, k_74, k_75, k_100, k_1000, k_65537]
    simp (disch := first | with_reducible assumption | omega | trivial) only [↓bn_s1, ↓bd_s1, ↓ei_l1, ↓ei_r1, ↓bn_if, ↓ilt_1, ↓ilt_0, ↓ieq_1, ↓ieq_0, bn_s1, bd_s1, ei_l1, ei_r1, J_add, J_sub, J_mul, J_neg, J_lt, J_le, J_eq, dv_J, rm_J, if_pos, if_neg, ↓reduceIte, bitJ, shlJ, orJ, j_0, j_1, j_2, j_3, j_4, j_5, j_6, j_7, j_8, j_9, j_10, j_11, j_12, j_13, j_14, j_15, j_16, j_17, j_18, j_19, j_20, j_21, j_22, j_23, j_24, j_25, j_26, j_27, j_28, j_29, j_30, j_31, j_32, j_33, j_34, j_35, j_36, j_37, j_38, j_39, j_40, j_41, j_42, j_43, j_44, j_45, j_46, j_47, j_48, j_49, j_50, j_51, j_52, j_57, j_59, j_63, j_74, j_75, j_93, j_97, j_99, j_100, j_122, j_200, j_255, j_300, j_465, j_496, j_900, j_999, j_1000, j_65536, j_65537, j_99999, j_252645135, j_858993459, j_1431655765, k_0, k_1, k_27, k_32, k_74, k_75, k_100, k_1000, k_65537, ↓bd_e (e2), e2]
  · have t1 : L 31 0 = 1 := by omega
    rw [t1, if_neg (show ¬ J 1 = (0 : Int32) by decide), bn_s1, ei_l1, bn_e rm]
    by_cases cm : L 3 0 = 3
    · rw [bgf_5 t1 cm, if_pos cm, if_pos (show J 0 = (0 : Int32) by decide), if_neg (show ¬ (5 : Int) = 0 by decide)]
      exact S_fail C hp H (by omega) (by decide)
    · rw [bgf_0 t1 cm, if_neg cm, if_neg (show ¬ J 1 = (0 : Int32) by decide), if_pos rfl, bn_e (d_r2 D)]
      refine S_ad C hp H (fun g C1 c1 p1b _ => ?_)
      exact CO_rv (C_gst p1b C1 NBL (by omega) c1)
theorem C_ln5 {L : Lk} {u : Nat} {T : Int → Int} {n p : Nat} {h : Hp} (hp : p ≤ n) (C : CP L u T n h) (NBL : NB L) (SDL : SD L) (H : CT T n p h) (e : lso T n p = 5) : CO (if bgf L (L 4 0) 3 = 0 then a_drk L T n (tnx T n p) else .inr (bgf L (L 4 0) 3, (spn T n p : Nat))) u T n (F_rd_readLine 2 h) h := by
  have hu := C.2.2.2.1
  have lw := CP_lw C
  have lh := LW_h lw
  have lr := LW_r lw
  have lg := LW_g lw
  have ld := LW_d lw
  have lf := LW_f lw
  have lv := LW_v lw
  have el := C_lso C.1 hp H
  rw [e] at el
  have D := CP_d C
  have g4 : gI h 2 7 4 = some (J (L 31 0)) := by rw [d_i D, (CP_nc C).2.1]
  have t := C.2.2.2.2.2.2.2.2.2
  have rm := C_room5 C
  unfold F_rd_readLine
  rw [ck_e (DS_k D), bn_e el]
  simp only [if_neg (show ¬ J 5 = (-1 : Int32) by decide), if_neg (show ¬ J 5 = (0 : Int32) by decide), if_neg (show ¬ ((J 5).toInt < 0 ∨ 7 < (J 5).toInt) by decide), if_neg (show ¬ J 5 = (1 : Int32) by decide), if_neg (show ¬ J 5 = (2 : Int32) by decide), if_neg (show ¬ J 5 = (3 : Int32) by decide), if_neg (show ¬ J 5 = (4 : Int32) by decide), if_pos (show J 5 = (5 : Int32) by decide)]
  rw [bn_s1, ei_l1, bn_e g4]
  by_cases t0 : L 31 0 = 0
  · rw [bgf_6 t0, if_neg (show ¬ (6 : Int) = 0 by decide), t0]
    obtain ⟨g2, e2, q2⟩ := C_fail (x := 6) C.1 hp H (by omega)
    refine CO_r (h' := g2) ?_ (cf_fl hu q2) q2.2
    have rv := rvb0
    try simp only [j_0, j_1, j_2, j_3, j_4, j_5, j_6, j_7, j_8, j_9, j_10, j_11, j_12, j_13, j_14, j_15, j_16, j_17, j_18, j_19, j_20, j_21, j_22, j_23, j_24, j_25, j_26, j_27, j_28, j_29, j_30, j_31, j_32, j_33, j_34, j_35, j_36, j_37, j_38, j_39, j_40, j_41, j_42, j_43, j_44, j_45, j_46, j_47, j_48, j_49, j_50, j_51, j_52, j_57, j_59, j_63, j_74, j_75, j_93, j_97, j_99, j_100, j_122, j_200, j_255, j_300, j_465, j_496, j_900, j_999, j_1000, j_65536, j_65537, j_99999, j_252645135, j_858993459, j_1431655765, k_0, k_1, k_27, k_32, k_74, k_75, k_100, k_1000, k_65537]
    simp (disch := first | with_reducible assumption | omega | trivial) only [↓bn_s1, ↓bd_s1, ↓ei_l1, ↓ei_r1, ↓bn_if, ↓ilt_1, ↓ilt_0, ↓ieq_1, ↓ieq_0, bn_s1, bd_s1, ei_l1, ei_r1, J_add, J_sub, J_mul, J_neg, J_lt, J_le, J_eq, dv_J, rm_J, if_pos, if_neg, ↓reduceIte, bitJ, shlJ, orJ, j_0, j_1, j_2, j_3, j_4, j_5, j_6, j_7, j_8, j_9, j_10, j_11, j_12, j_13, j_14, j_15, j_16, j_17, j_18, j_19, j_20, j_21, j_22, j_23, j_24, j_25, j_26, j_27, j_28, j_29, j_30, j_31, j_32, j_33, j_34, j_35, j_36, j_37, j_38, j_39, j_40, j_41, j_42, j_43, j_44, j_45, j_46, j_47, j_48, j_49, j_50, j_51, j_52, j_57, j_59, j_63, j_74, j_75, j_93, j_97, j_99, j_100, j_122, j_200, j_255, j_300, j_465, j_496, j_900, j_999, j_1000, j_65536, j_65537, j_99999, j_252645135, j_858993459, j_1431655765, k_0, k_1, k_27, k_32, k_74, k_75, k_100, k_1000, k_65537, ↓bd_e (e2), e2]
  · have t1 : L 31 0 = 1 := by omega
    rw [t1, if_neg (show ¬ J 1 = (0 : Int32) by decide), bn_s1, ei_l1, bn_e rm]
    by_cases cm : L 4 0 = 3
    · rw [bgf_5 t1 cm, if_pos cm, if_pos (show J 0 = (0 : Int32) by decide), if_neg (show ¬ (5 : Int) = 0 by decide)]
      exact S_fail C hp H (by omega) (by decide)
    · rw [bgf_0 t1 cm, if_neg cm, if_neg (show ¬ J 1 = (0 : Int32) by decide), if_pos rfl, bn_e (d_r2 D)]
      refine S_ad C hp H (fun g C1 c1 p1b _ => ?_)
      exact CO_rv (C_drk p1b C1 NBL (by omega) c1)
theorem C_ln6 {L : Lk} {u : Nat} {T : Int → Int} {n p : Nat} {h : Hp} (hp : p ≤ n) (C : CP L u T n h) (NBL : NB L) (SDL : SD L) (H : CT T n p h) (e : lso T n p = 6) : CO (if bgf L (L 5 0) 4 = 0 then a_fea L T n (tnx T n p) else .inr (bgf L (L 5 0) 4, (spn T n p : Nat))) u T n (F_rd_readLine 2 h) h := by
  have hu := C.2.2.2.1
  have lw := CP_lw C
  have lh := LW_h lw
  have lr := LW_r lw
  have lg := LW_g lw
  have ld := LW_d lw
  have lf := LW_f lw
  have lv := LW_v lw
  have el := C_lso C.1 hp H
  rw [e] at el
  have D := CP_d C
  have g4 : gI h 2 7 4 = some (J (L 31 0)) := by rw [d_i D, (CP_nc C).2.1]
  have t := C.2.2.2.2.2.2.2.2.2
  have rm := C_room6 C
  unfold F_rd_readLine
  rw [ck_e (DS_k D), bn_e el]
  simp only [if_neg (show ¬ J 6 = (-1 : Int32) by decide), if_neg (show ¬ J 6 = (0 : Int32) by decide), if_neg (show ¬ ((J 6).toInt < 0 ∨ 7 < (J 6).toInt) by decide), if_neg (show ¬ J 6 = (1 : Int32) by decide), if_neg (show ¬ J 6 = (2 : Int32) by decide), if_neg (show ¬ J 6 = (3 : Int32) by decide), if_neg (show ¬ J 6 = (4 : Int32) by decide), if_neg (show ¬ J 6 = (5 : Int32) by decide), if_pos (show J 6 = (6 : Int32) by decide)]
  rw [bn_s1, ei_l1, bn_e g4]
  by_cases t0 : L 31 0 = 0
  · rw [bgf_6 t0, if_neg (show ¬ (6 : Int) = 0 by decide), t0]
    obtain ⟨g2, e2, q2⟩ := C_fail (x := 6) C.1 hp H (by omega)
    refine CO_r (h' := g2) ?_ (cf_fl hu q2) q2.2
    have rv := rvb0
    try simp only [j_0, j_1, j_2, j_3, j_4, j_5, j_6, j_7, j_8, j_9, j_10, j_11, j_12, j_13, j_14, j_15, j_16, j_17, j_18, j_19, j_20, j_21, j_22, j_23, j_24, j_25, j_26, j_27, j_28, j_29, j_30, j_31, j_32, j_33, j_34, j_35, j_36, j_37, j_38, j_39, j_40, j_41, j_42, j_43, j_44, j_45, j_46, j_47, j_48, j_49, j_50, j_51, j_52, j_57, j_59, j_63, j_74, j_75, j_93, j_97, j_99, j_100, j_122, j_200, j_255, j_300, j_465, j_496, j_900, j_999, j_1000, j_65536, j_65537, j_99999, j_252645135, j_858993459, j_1431655765, k_0, k_1, k_27, k_32, k_74, k_75, k_100, k_1000, k_65537]
    simp (disch := first | with_reducible assumption | omega | trivial) only [↓bn_s1, ↓bd_s1, ↓ei_l1, ↓ei_r1, ↓bn_if, ↓ilt_1, ↓ilt_0, ↓ieq_1, ↓ieq_0, bn_s1, bd_s1, ei_l1, ei_r1, J_add, J_sub, J_mul, J_neg, J_lt, J_le, J_eq, dv_J, rm_J, if_pos, if_neg, ↓reduceIte, bitJ, shlJ, orJ, j_0, j_1, j_2, j_3, j_4, j_5, j_6, j_7, j_8, j_9, j_10, j_11, j_12, j_13, j_14, j_15, j_16, j_17, j_18, j_19, j_20, j_21, j_22, j_23, j_24, j_25, j_26, j_27, j_28, j_29, j_30, j_31, j_32, j_33, j_34, j_35, j_36, j_37, j_38, j_39, j_40, j_41, j_42, j_43, j_44, j_45, j_46, j_47, j_48, j_49, j_50, j_51, j_52, j_57, j_59, j_63, j_74, j_75, j_93, j_97, j_99, j_100, j_122, j_200, j_255, j_300, j_465, j_496, j_900, j_999, j_1000, j_65536, j_65537, j_99999, j_252645135, j_858993459, j_1431655765, k_0, k_1, k_27, k_32, k_74, k_75, k_100, k_1000, k_65537, ↓bd_e (e2), e2]
  · have t1 : L 31 0 = 1 := by omega
    rw [t1, if_neg (show ¬ J 1 = (0 : Int32) by decide), bn_s1, ei_l1, bn_e rm]
    by_cases cm : L 5 0 = 4
    · rw [bgf_5 t1 cm, if_pos cm, if_pos (show J 0 = (0 : Int32) by decide), if_neg (show ¬ (5 : Int) = 0 by decide)]
      exact S_fail C hp H (by omega) (by decide)
    · rw [bgf_0 t1 cm, if_neg cm, if_neg (show ¬ J 1 = (0 : Int32) by decide), if_pos rfl, bn_e (d_r2 D)]
      refine S_ad C hp H (fun g C1 c1 p1b _ => ?_)
      exact CO_rv (C_fea p1b C1 NBL (by omega) c1)
theorem C_ln7 {L : Lk} {u : Nat} {T : Int → Int} {n p : Nat} {h : Hp} (hp : p ≤ n) (C : CP L u T n h) (NBL : NB L) (SDL : SD L) (H : CT T n p h) (e : lso T n p = 7) : CO (if bgf L (L 6 0) 4 = 0 then a_gav L T n (tnx T n p) else .inr (bgf L (L 6 0) 4, (spn T n p : Nat))) u T n (F_rd_readLine 2 h) h := by
  have hu := C.2.2.2.1
  have lw := CP_lw C
  have lh := LW_h lw
  have lr := LW_r lw
  have lg := LW_g lw
  have ld := LW_d lw
  have lf := LW_f lw
  have lv := LW_v lw
  have el := C_lso C.1 hp H
  rw [e] at el
  have D := CP_d C
  have g4 : gI h 2 7 4 = some (J (L 31 0)) := by rw [d_i D, (CP_nc C).2.1]
  have t := C.2.2.2.2.2.2.2.2.2
  have rm := C_room7 C
  unfold F_rd_readLine
  rw [ck_e (DS_k D), bn_e el]
  simp only [if_neg (show ¬ J 7 = (-1 : Int32) by decide), if_neg (show ¬ J 7 = (0 : Int32) by decide), if_neg (show ¬ ((J 7).toInt < 0 ∨ 7 < (J 7).toInt) by decide), if_neg (show ¬ J 7 = (1 : Int32) by decide), if_neg (show ¬ J 7 = (2 : Int32) by decide), if_neg (show ¬ J 7 = (3 : Int32) by decide), if_neg (show ¬ J 7 = (4 : Int32) by decide), if_neg (show ¬ J 7 = (5 : Int32) by decide), if_neg (show ¬ J 7 = (6 : Int32) by decide), if_pos (show J 7 = (7 : Int32) by decide)]
  rw [bn_s1, ei_l1, bn_e g4]
  by_cases t0 : L 31 0 = 0
  · rw [bgf_6 t0, if_neg (show ¬ (6 : Int) = 0 by decide), t0]
    obtain ⟨g2, e2, q2⟩ := C_fail (x := 6) C.1 hp H (by omega)
    refine CO_r (h' := g2) ?_ (cf_fl hu q2) q2.2
    have rv := rvb0
    try simp only [j_0, j_1, j_2, j_3, j_4, j_5, j_6, j_7, j_8, j_9, j_10, j_11, j_12, j_13, j_14, j_15, j_16, j_17, j_18, j_19, j_20, j_21, j_22, j_23, j_24, j_25, j_26, j_27, j_28, j_29, j_30, j_31, j_32, j_33, j_34, j_35, j_36, j_37, j_38, j_39, j_40, j_41, j_42, j_43, j_44, j_45, j_46, j_47, j_48, j_49, j_50, j_51, j_52, j_57, j_59, j_63, j_74, j_75, j_93, j_97, j_99, j_100, j_122, j_200, j_255, j_300, j_465, j_496, j_900, j_999, j_1000, j_65536, j_65537, j_99999, j_252645135, j_858993459, j_1431655765, k_0, k_1, k_27, k_32, k_74, k_75, k_100, k_1000, k_65537]
    simp (disch := first | with_reducible assumption | omega | trivial) only [↓bn_s1, ↓bd_s1, ↓ei_l1, ↓ei_r1, ↓bn_if, ↓ilt_1, ↓ilt_0, ↓ieq_1, ↓ieq_0, bn_s1, bd_s1, ei_l1, ei_r1, J_add, J_sub, J_mul, J_neg, J_lt, J_le, J_eq, dv_J, rm_J, if_pos, if_neg, ↓reduceIte, bitJ, shlJ, orJ, j_0, j_1, j_2, j_3, j_4, j_5, j_6, j_7, j_8, j_9, j_10, j_11, j_12, j_13, j_14, j_15, j_16, j_17, j_18, j_19, j_20, j_21, j_22, j_23, j_24, j_25, j_26, j_27, j_28, j_29, j_30, j_31, j_32, j_33, j_34, j_35, j_36, j_37, j_38, j_39, j_40, j_41, j_42, j_43, j_44, j_45, j_46, j_47, j_48, j_49, j_50, j_51, j_52, j_57, j_59, j_63, j_74, j_75, j_93, j_97, j_99, j_100, j_122, j_200, j_255, j_300, j_465, j_496, j_900, j_999, j_1000, j_65536, j_65537, j_99999, j_252645135, j_858993459, j_1431655765, k_0, k_1, k_27, k_32, k_74, k_75, k_100, k_1000, k_65537, ↓bd_e (e2), e2]
  · have t1 : L 31 0 = 1 := by omega
    rw [t1, if_neg (show ¬ J 1 = (0 : Int32) by decide), bn_s1, ei_l1, bn_e rm]
    by_cases cm : L 6 0 = 4
    · rw [bgf_5 t1 cm, if_pos cm, if_pos (show J 0 = (0 : Int32) by decide), if_neg (show ¬ (5 : Int) = 0 by decide)]
      exact S_fail C hp H (by omega) (by decide)
    · rw [bgf_0 t1 cm, if_neg cm, if_neg (show ¬ J 1 = (0 : Int32) by decide), if_pos rfl, bn_e (d_r2 D)]
      refine S_ad C hp H (fun g C1 c1 p1b _ => ?_)
      exact CO_rv (C_gav p1b C1 NBL (by omega) c1)
theorem C_ln8 {L : Lk} {u : Nat} {T : Int → Int} {n p : Nat} {h : Hp} (hp : p ≤ n) (C : CP L u T n h) (NBL : NB L) (SDL : SD L) (H : CT T n p h) (e : lso T n p = 8) : CO (if bgf L 0 1 = 0 then a_sen L T n (tnx T n p) else .inr (bgf L 0 1, (spn T n p : Nat))) u T n (F_rd_readLine 2 h) h := by
  have hu := C.2.2.2.1
  have lw := CP_lw C
  have lh := LW_h lw
  have lr := LW_r lw
  have lg := LW_g lw
  have ld := LW_d lw
  have lf := LW_f lw
  have lv := LW_v lw
  have el := C_lso C.1 hp H
  rw [e] at el
  have D := CP_d C
  have g4 : gI h 2 7 4 = some (J (L 31 0)) := by rw [d_i D, (CP_nc C).2.1]
  have t := C.2.2.2.2.2.2.2.2.2
  have rm := C_room8 C
  unfold F_rd_readLine
  rw [ck_e (DS_k D), bn_e el]
  simp only [if_neg (show ¬ J 8 = (-1 : Int32) by decide), if_neg (show ¬ J 8 = (0 : Int32) by decide), if_pos (show (J 8).toInt < 0 ∨ 7 < (J 8).toInt by decide)]
  rw [bn_s1, ei_l1, bn_e g4]
  by_cases t0 : L 31 0 = 0
  · rw [bgf_6 t0, if_neg (show ¬ (6 : Int) = 0 by decide), t0]
    obtain ⟨g2, e2, q2⟩ := C_fail (x := 6) C.1 hp H (by omega)
    refine CO_r (h' := g2) ?_ (cf_fl hu q2) q2.2
    have rv := rvb0
    try simp only [j_0, j_1, j_2, j_3, j_4, j_5, j_6, j_7, j_8, j_9, j_10, j_11, j_12, j_13, j_14, j_15, j_16, j_17, j_18, j_19, j_20, j_21, j_22, j_23, j_24, j_25, j_26, j_27, j_28, j_29, j_30, j_31, j_32, j_33, j_34, j_35, j_36, j_37, j_38, j_39, j_40, j_41, j_42, j_43, j_44, j_45, j_46, j_47, j_48, j_49, j_50, j_51, j_52, j_57, j_59, j_63, j_74, j_75, j_93, j_97, j_99, j_100, j_122, j_200, j_255, j_300, j_465, j_496, j_900, j_999, j_1000, j_65536, j_65537, j_99999, j_252645135, j_858993459, j_1431655765, k_0, k_1, k_27, k_32, k_74, k_75, k_100, k_1000, k_65537]
    simp (disch := first | with_reducible assumption | omega | trivial) only [↓bn_s1, ↓bd_s1, ↓ei_l1, ↓ei_r1, ↓bn_if, ↓ilt_1, ↓ilt_0, ↓ieq_1, ↓ieq_0, bn_s1, bd_s1, ei_l1, ei_r1, J_add, J_sub, J_mul, J_neg, J_lt, J_le, J_eq, dv_J, rm_J, if_pos, if_neg, ↓reduceIte, bitJ, shlJ, orJ, j_0, j_1, j_2, j_3, j_4, j_5, j_6, j_7, j_8, j_9, j_10, j_11, j_12, j_13, j_14, j_15, j_16, j_17, j_18, j_19, j_20, j_21, j_22, j_23, j_24, j_25, j_26, j_27, j_28, j_29, j_30, j_31, j_32, j_33, j_34, j_35, j_36, j_37, j_38, j_39, j_40, j_41, j_42, j_43, j_44, j_45, j_46, j_47, j_48, j_49, j_50, j_51, j_52, j_57, j_59, j_63, j_74, j_75, j_93, j_97, j_99, j_100, j_122, j_200, j_255, j_300, j_465, j_496, j_900, j_999, j_1000, j_65536, j_65537, j_99999, j_252645135, j_858993459, j_1431655765, k_0, k_1, k_27, k_32, k_74, k_75, k_100, k_1000, k_65537, ↓bd_e (e2), e2]
  · have t1 : L 31 0 = 1 := by omega
    rw [t1, if_neg (show ¬ J 1 = (0 : Int32) by decide), bn_s1, ei_l1, bn_e rm]
    by_cases cm : (0 : Int) = 1
    · rw [bgf_5 t1 cm, if_pos cm, if_pos (show J 0 = (0 : Int32) by decide), if_neg (show ¬ (5 : Int) = 0 by decide)]
      exact S_fail C hp H (by omega) (by decide)
    · rw [bgf_0 t1 cm, if_neg cm, if_neg (show ¬ J 1 = (0 : Int32) by decide), if_pos rfl, bn_e (d_r2 D)]
      refine S_ad C hp H (fun g C1 c1 p1b _ => ?_)
      exact CO_rv (C_sen' p1b C1 NBL SDL c1)
theorem C_ln0 {L : Lk} {u : Nat} {T : Int → Int} {n p : Nat} {h : Hp} (hp : p ≤ n) (C : CP L u T n h) (H : CT T n p h) (e : lso T n p = 0) : CO (if L 31 0 = 0 then a_mic L T n (tnx T n p) else .inr (3, (spn T n p : Nat))) u T n (F_rd_readLine 2 h) h := by
  have hu := C.2.2.2.1
  have el := C_lso C.1 hp H
  rw [e] at el
  have D := CP_d C
  have g4 : gI h 2 7 4 = some (J (L 31 0)) := by rw [d_i D, (CP_nc C).2.1]
  have t := C.2.2.2.2.2.2.2.2.2
  have rm : F_rd_hasRoomFor 2 (J 0) h = some (J 1) := by
    unfold F_rd_hasRoomFor
    rw [ck_e (DS_k D), if_pos (show (J 0).toInt < 1 ∨ 7 < (J 0).toInt by decide), j_1]
  unfold F_rd_readLine
  rw [ck_e (DS_k D), bn_e el]
  simp only [if_neg (show ¬ J 0 = (-1 : Int32) by decide), if_pos (show J 0 = (0 : Int32) by decide), if_neg (show ¬ ((J 0).toInt < 0 ∨ 7 < (J 0).toInt) by decide)]
  rw [bn_e g4]
  by_cases t0 : L 31 0 = 0
  · rw [if_pos t0, t0, if_pos (show J 0 = (0 : Int32) by decide), bn_s1, ei_l1, bn_s1, ei_l1, bn_e rm, if_neg (show ¬ J 1 = (0 : Int32) by decide), bn_e (d_r2 D)]
    refine S_ad C hp H (fun g C1 c1 p1b _ => ?_)
    exact CO_rv (C_mic p1b C1 c1)
  · have t1 : L 31 0 = 1 := by omega
    rw [if_neg t0, t1]
    obtain ⟨g2, e2, q2⟩ := C_fail (x := 3) C.1 hp H (by omega)
    refine CO_r (h' := g2) ?_ (cf_fl hu q2) q2.2
    have rv := rvb0
    try simp only [j_0, j_1, j_2, j_3, j_4, j_5, j_6, j_7, j_8, j_9, j_10, j_11, j_12, j_13, j_14, j_15, j_16, j_17, j_18, j_19, j_20, j_21, j_22, j_23, j_24, j_25, j_26, j_27, j_28, j_29, j_30, j_31, j_32, j_33, j_34, j_35, j_36, j_37, j_38, j_39, j_40, j_41, j_42, j_43, j_44, j_45, j_46, j_47, j_48, j_49, j_50, j_51, j_52, j_57, j_59, j_63, j_74, j_75, j_93, j_97, j_99, j_100, j_122, j_200, j_255, j_300, j_465, j_496, j_900, j_999, j_1000, j_65536, j_65537, j_99999, j_252645135, j_858993459, j_1431655765, k_0, k_1, k_27, k_32, k_74, k_75, k_100, k_1000, k_65537]
    simp (disch := first | with_reducible assumption | omega | trivial) only [↓bn_s1, ↓bd_s1, ↓ei_l1, ↓ei_r1, ↓bn_if, ↓ilt_1, ↓ilt_0, ↓ieq_1, ↓ieq_0, bn_s1, bd_s1, ei_l1, ei_r1, J_add, J_sub, J_mul, J_neg, J_lt, J_le, J_eq, dv_J, rm_J, if_pos, if_neg, ↓reduceIte, bitJ, shlJ, orJ, j_0, j_1, j_2, j_3, j_4, j_5, j_6, j_7, j_8, j_9, j_10, j_11, j_12, j_13, j_14, j_15, j_16, j_17, j_18, j_19, j_20, j_21, j_22, j_23, j_24, j_25, j_26, j_27, j_28, j_29, j_30, j_31, j_32, j_33, j_34, j_35, j_36, j_37, j_38, j_39, j_40, j_41, j_42, j_43, j_44, j_45, j_46, j_47, j_48, j_49, j_50, j_51, j_52, j_57, j_59, j_63, j_74, j_75, j_93, j_97, j_99, j_100, j_122, j_200, j_255, j_300, j_465, j_496, j_900, j_999, j_1000, j_65536, j_65537, j_99999, j_252645135, j_858993459, j_1431655765, k_0, k_1, k_27, k_32, k_74, k_75, k_100, k_1000, k_65537, ↓bd_e (e2), e2]
theorem C_lnn {L : Lk} {u : Nat} {T : Int → Int} {n p : Nat} {h : Hp} (hp : p ≤ n) (C : CP L u T n h) (H : CT T n p h) (e : lso T n p = -1) : CO (.inr (1, (spn T n p : Nat))) u T n (F_rd_readLine 2 h) h := by
  have el := C_lso C.1 hp H
  rw [e] at el
  unfold F_rd_readLine
  rw [ck_e (DS_k (CP_d C)), bn_e el, if_pos (show J (-1) = (-1 : Int32) by decide)]
  exact S_fail C hp H (by omega) (by decide)
theorem C_line {L : Lk} {u : Nat} {T : Int → Int} {n p : Nat} {h : Hp} (hp : p ≤ n) (C : CP L u T n h) (NBL : NB L) (SDL : SD L) (H : CT T n p h) : CO (a_line L T n p) u T n (F_rd_readLine 2 h) h := by
  unfold a_line
  by_cases c0 : isW T n p 0 = true
  · rw [if_pos c0]
    exact C_ln0 hp C H (by unfold lso; rw [if_pos c0])
  rw [if_neg c0]
  by_cases c1 : isW T n p 1 = true
  · rw [if_pos c1]
    exact C_ln1 hp C NBL SDL H (by unfold lso; rw [if_neg c0, if_pos c1])
  rw [if_neg c1]
  by_cases c2 : isW T n p 2 = true
  · rw [if_pos c2]
    exact C_ln2 hp C NBL SDL H (by unfold lso; rw [if_neg c0, if_neg c1, if_pos c2])
  rw [if_neg c2]
  by_cases c3 : isW T n p 3 = true
  · rw [if_pos c3]
    exact C_ln3 hp C NBL SDL H (by unfold lso; rw [if_neg c0, if_neg c1, if_neg c2, if_pos c3])
  rw [if_neg c3]
  by_cases c4 : isW T n p 4 = true
  · rw [if_pos c4]
    exact C_ln4 hp C NBL SDL H (by unfold lso; rw [if_neg c0, if_neg c1, if_neg c2, if_neg c3, if_pos c4])
  rw [if_neg c4]
  by_cases c5 : isW T n p 5 = true
  · rw [if_pos c5]
    exact C_ln5 hp C NBL SDL H (by unfold lso; rw [if_neg c0, if_neg c1, if_neg c2, if_neg c3, if_neg c4, if_pos c5])
  rw [if_neg c5]
  by_cases c6 : isW T n p 6 = true
  · rw [if_pos c6]
    exact C_ln6 hp C NBL SDL H (by unfold lso; rw [if_neg c0, if_neg c1, if_neg c2, if_neg c3, if_neg c4, if_neg c5, if_pos c6])
  rw [if_neg c6]
  by_cases c7 : isW T n p 7 = true
  · rw [if_pos c7]
    exact C_ln7 hp C NBL SDL H (by unfold lso; rw [if_neg c0, if_neg c1, if_neg c2, if_neg c3, if_neg c4, if_neg c5, if_neg c6, if_pos c7])
  rw [if_neg c7]
  by_cases c8 : isW T n p 8 = true
  · rw [if_pos c8]
    exact C_ln8 hp C NBL SDL H (by unfold lso; rw [if_neg c0, if_neg c1, if_neg c2, if_neg c3, if_neg c4, if_neg c5, if_neg c6, if_neg c7, if_pos c8])
  rw [if_neg c8]
  exact C_lnn hp C H (by unfold lso; rw [if_neg c0, if_neg c1, if_neg c2, if_neg c3, if_neg c4, if_neg c5, if_neg c6, if_neg c7, if_neg c8])
theorem D_line {L : Lk} {b : Nat} {T : Int → Int} {n p : Nat} {h : Hp} (hp : p ≤ n) (C : DP L b T n h) (NBL : NB L) (SDL : SD L) (H : DT T n p h) : DO (a_line L T n p) b T n (F_md_readLine 88 h) h := by
  have M := C.1.1.1
  have e0 : F_md_isWord 88 1000003 h = some (J (if isW T n p 0 = true then 1 else 0)) := D_isW (k := 0) M C.1.1.2.2 hp H (by omega)
  have e1 : F_md_isWord 88 1000004 h = some (J (if isW T n p 1 = true then 1 else 0)) := D_isW (k := 1) M C.1.1.2.2 hp H (by omega)
  have e2 : F_md_isWord 88 1000005 h = some (J (if isW T n p 2 = true then 1 else 0)) := D_isW (k := 2) M C.1.1.2.2 hp H (by omega)
  have e3 : F_md_isWord 88 1000006 h = some (J (if isW T n p 3 = true then 1 else 0)) := D_isW (k := 3) M C.1.1.2.2 hp H (by omega)
  have e4 : F_md_isWord 88 1000007 h = some (J (if isW T n p 4 = true then 1 else 0)) := D_isW (k := 4) M C.1.1.2.2 hp H (by omega)
  have e5 : F_md_isWord 88 1000008 h = some (J (if isW T n p 5 = true then 1 else 0)) := D_isW (k := 5) M C.1.1.2.2 hp H (by omega)
  have e6 : F_md_isWord 88 1000009 h = some (J (if isW T n p 6 = true then 1 else 0)) := D_isW (k := 6) M C.1.1.2.2 hp H (by omega)
  have e7 : F_md_isWord 88 1000010 h = some (J (if isW T n p 7 = true then 1 else 0)) := D_isW (k := 7) M C.1.1.2.2 hp H (by omega)
  have e8 : F_md_isWord 88 1000011 h = some (J (if isW T n p 8 = true then 1 else 0)) := D_isW (k := 8) M C.1.1.2.2 hp H (by omega)
  unfold F_md_readLine a_line
  rw [ck_e (MS_k M), bn_e e0]
  by_cases c0 : isW T n p 0 = true
  · rw [if_pos c0, if_pos c0, if_neg (show ¬ J 1 = (0 : Int32) by decide), bn_id]
    exact D_mic hp C H (isW_y c0).1
  rw [if_neg c0, if_neg c0, if_pos (show J 0 = (0 : Int32) by decide), bn_e e1]
  by_cases c1 : isW T n p 1 = true
  · rw [if_pos c1, if_pos c1, if_neg (show ¬ J 1 = (0 : Int32) by decide), bn_id]
    exact D_hou hp C NBL H (isW_y c1).1
  rw [if_neg c1, if_neg c1, if_pos (show J 0 = (0 : Int32) by decide), bn_e e2]
  by_cases c2 : isW T n p 2 = true
  · rw [if_pos c2, if_pos c2, if_neg (show ¬ J 1 = (0 : Int32) by decide), bn_id]
    exact D_rop hp C NBL H (isW_y c2).1
  rw [if_neg c2, if_neg c2, if_pos (show J 0 = (0 : Int32) by decide), bn_e e3]
  by_cases c3 : isW T n p 3 = true
  · rw [if_pos c3, if_pos c3, if_neg (show ¬ J 1 = (0 : Int32) by decide), bn_id]
    exact D_crk hp C NBL H (isW_y c3).1
  rw [if_neg c3, if_neg c3, if_pos (show J 0 = (0 : Int32) by decide), bn_e e4]
  by_cases c4 : isW T n p 4 = true
  · rw [if_pos c4, if_pos c4, if_neg (show ¬ J 1 = (0 : Int32) by decide), bn_id]
    exact D_gst hp C NBL H (isW_y c4).1
  rw [if_neg c4, if_neg c4, if_pos (show J 0 = (0 : Int32) by decide), bn_e e5]
  by_cases c5 : isW T n p 5 = true
  · rw [if_pos c5, if_pos c5, if_neg (show ¬ J 1 = (0 : Int32) by decide), bn_id]
    exact D_drk hp C NBL H (isW_y c5).1
  rw [if_neg c5, if_neg c5, if_pos (show J 0 = (0 : Int32) by decide), bn_e e6]
  by_cases c6 : isW T n p 6 = true
  · rw [if_pos c6, if_pos c6, if_neg (show ¬ J 1 = (0 : Int32) by decide), bn_id]
    exact D_fea hp C NBL H (isW_y c6).1
  rw [if_neg c6, if_neg c6, if_pos (show J 0 = (0 : Int32) by decide), bn_e e7]
  by_cases c7 : isW T n p 7 = true
  · rw [if_pos c7, if_pos c7, if_neg (show ¬ J 1 = (0 : Int32) by decide), bn_id]
    exact D_gav hp C NBL H (isW_y c7).1
  rw [if_neg c7, if_neg c7, if_pos (show J 0 = (0 : Int32) by decide), bn_e e8]
  by_cases c8 : isW T n p 8 = true
  · rw [if_pos c8, if_pos c8, if_neg (show ¬ J 1 = (0 : Int32) by decide), bn_id]
    exact D_sen' hp C NBL SDL H (isW_y c8).1
  rw [if_neg c8, if_neg c8, if_pos (show J 0 = (0 : Int32) by decide)]
  exact Sd_fl C hp H (by omega) (by decide) (fun g _ _ => rfl)
