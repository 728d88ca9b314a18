/-! the class's reader: words and whole numbers taken -/
theorem d_i {h : Hp} (D : DS h) (k : Nat) : gI h 2 7 k = some (J (fi h 2 k)) := gI_J (DS_k D)
theorem d_i_b {h : Hp} (D : DS h) (k : Nat) {β : Type} {f : Int32 → Option β} : bn (gI h 2 7 k) f = f (J (fi h 2 k)) := bn_e (d_i D k)
theorem d_p {h : Hp} (D : DS h) (k : Nat) (v : Int) : pI h 2 7 k (J v) = some (wF h 2 k v) := pI_J (DS_k D)
theorem d_p_b {h : Hp} (D : DS h) (k : Nat) (v : Int) {β : Type} {f : Hp → Option β} : bn (pI h 2 7 k (J v)) f = f (wF h 2 k v) := bn_e (d_p D k v)
theorem d_r2 {h : Hp} (D : DS h) : gR h 2 7 2 = some 3 := gR_e (DS_k D) (DS_r2 D)
theorem d_r2_b {h : Hp} (D : DS h) {β : Type} {f : Nat → Option β} : bn (gR h 2 7 2) f = f 3 := bn_e (d_r2 D)
theorem rvb0 : retV .boolean (J 0) = true := by decide
theorem rvb1 : retV .boolean (J 1) = true := by decide
/-- what the reader stands on -/
def KB (T : Int → Int) (n : Nat) (h : Hp) : Prop := TK h ∧ TX T n h ∧ WR h ∧ DS h
theorem KB_fm {T : Int → Int} {n lo hi : Nat} {h h' : Hp} (x : Fm lo hi h h') (hd : 2 ≤ lo) (hh : hi ≤ 1000000) (H : KB T n h) : KB T n h' := ⟨TK_fm x H.1, TX_fm x hd H.2.1, WR_fm x hh H.2.2.1, DS_fm x H.2.2.2⟩
/-- a fault is set -/
def FL (f q : Int) (h h' : Hp) : Prop := Fm 2 3 h h' ∧ fi h' 2 0 = f ∧ fi h' 2 1 = q
theorem C_fail {T : Int → Int} {n p : Nat} {h : Hp} {x : Int} (B : KB T n h) (hp : p ≤ n) (H : CT T n p h) (hx : 0 ≤ x ∧ x ≤ 6) : ∃ h', F_rd_fail 2 (J x) h = some (J 0, h') ∧ FL x (spn T n p : Nat) h h' := by
  have D := B.2.2.2
  have n0 := B.2.1.1
  have sb := spn_b T n p hp
  obtain ⟨h1, e1⟩ : ∃ h1, h1 = wF h 2 0 x := ⟨_, rfl⟩
  have f1 : Fm 2 3 h h1 := by rw [e1]; exact fm_wF (by omega) (by omega)
  have B1 := KB_fm f1 (by omega) (by omega) B
  have D1 := B1.2.2.2
  have Q1 := B1.1
  have c3 : fi h1 3 3 = (spn T n p : Nat) := by rw [fm_fi f1 (by omega)]; exact H.2.2.1
  refine ⟨wF h1 2 1 (spn T n p : Nat), ?_, fm_tr f1 (fm_wF (by omega) (by omega)), ?_, fi_same (by omega) (by omega)⟩
  · unfold F_rd_fail
    rw [ck_e (DS_k D)]
    try simp only [j_0, j_1, j_2, j_3, j_4, j_5, j_6, j_7, j_8, j_9, j_10, j_11, j_12, j_13, j_14, j_15, j_16, j_17, j_18, j_19, j_20, j_21, j_22, j_23, j_24, j_25, j_26, j_27, j_28, j_29, j_30, j_31, j_32, j_33, j_34, j_35, j_36, j_37, j_38, j_39, j_40, j_41, j_42, j_43, j_44, j_45, j_46, j_47, j_48, j_49, j_50, j_51, j_52, j_57, j_59, j_63, j_74, j_75, j_93, j_97, j_99, j_100, j_122, j_200, j_255, j_300, j_465, j_496, j_900, j_999, j_1000, j_65536, j_65537, j_99999, j_252645135, j_858993459, j_1431655765, k_0, k_1, k_27, k_32, k_74, k_75, k_100, k_1000, k_65537]
    simp (disch := first | with_reducible assumption | omega | trivial) only [↓bn_s1, ↓bd_s1, ↓ei_l1, ↓ei_r1, ↓bn_if, ↓ilt_1, ↓ilt_0, ↓ieq_1, ↓ieq_0, bn_s1, bd_s1, ei_l1, ei_r1, J_add, J_sub, J_mul, J_neg, J_lt, J_le, J_eq, dv_J, rm_J, if_pos, if_neg, ↓reduceIte, bitJ, shlJ, orJ, j_0, j_1, j_2, j_3, j_4, j_5, j_6, j_7, j_8, j_9, j_10, j_11, j_12, j_13, j_14, j_15, j_16, j_17, j_18, j_19, j_20, j_21, j_22, j_23, j_24, j_25, j_26, j_27, j_28, j_29, j_30, j_31, j_32, j_33, j_34, j_35, j_36, j_37, j_38, j_39, j_40, j_41, j_42, j_43, j_44, j_45, j_46, j_47, j_48, j_49, j_50, j_51, j_52, j_57, j_59, j_63, j_74, j_75, j_93, j_97, j_99, j_100, j_122, j_200, j_255, j_300, j_465, j_496, j_900, j_999, j_1000, j_65536, j_65537, j_99999, j_252645135, j_858993459, j_1431655765, k_0, k_1, k_27, k_32, k_74, k_75, k_100, k_1000, k_65537, d_i D, ↓d_i_b D, d_p D, ↓d_p_b D, d_r2 D, ↓d_r2_b D, ← e1, d_i D1, ↓d_i_b D1, d_p D1, ↓d_p_b D1, d_r2 D1, ↓d_r2_b D1, tk_i Q1, ↓tk_i_b Q1, tk_p Q1, ↓tk_p_b Q1, tk_r Q1, ↓tk_r_b Q1, tk_l Q1, ↓tk_l_b Q1, tk_pl Q1, ↓tk_pl_b Q1, tk_a Q1, ↓tk_a_b Q1, c3]
  · rw [fi_ne (by omega), e1]; exact fi_same (by omega) (by omega)
/-- the tokens go on, and nothing else but the whole number read changes -/
def Sf (h h' : Hp) : Prop := Fm 2 4 h h' ∧ ∀ k, k ≠ 9 → fi h' 2 k = fi h 2 k
theorem sf_rf (h : Hp) : Sf h h := ⟨fm_rf _ _ _, fun _ _ => rfl⟩
theorem sf_tr {h h1 h2 : Hp} (x : Sf h h1) (y : Sf h1 h2) : Sf h h2 := ⟨fm_tr x.1 y.1, fun k hk => (y.2 k hk).trans (x.2 k hk)⟩
theorem sf_3 {h h' : Hp} (x : Fm 3 4 h h') : Sf h h' := ⟨fm_wd x (by omega) (by omega), fun k _ => fm_fi x (by omega) k⟩
theorem C_ad {T : Int → Int} {n p : Nat} {h : Hp} (B : KB T n h) (hp : p ≤ n) (H : CT T n p h) : ∃ h', F_tk_advance 3 h = some h' ∧ Sf h h' ∧ fi h' 2 9 = fi h 2 9 ∧ CT T n (tnx T n p) h' ∧ KB T n h' := by
  obtain ⟨h1, e1, f1, c1⟩ := C_adv B.1 B.2.1 H.1 (tln_b T n p hp).1 H.2.1
  exact ⟨h1, e1, sf_3 f1, fm_fi f1 (by omega) 9, c1, KB_fm f1 (by omega) (by omega) B⟩
theorem C_tw {T : Int → Int} {n p k : Nat} {h : Hp} (B : KB T n h) (hp : p ≤ n) (H : CT T n p h) (hk : k < 24) : (isW T n p k = true → ∃ h', F_rd_takeWord 2 (1000003 + k) h = some (J 1, h') ∧ Sf h h' ∧ fi h' 2 9 = fi h 2 9 ∧ CT T n (tnx T n p) h' ∧ KB T n h') ∧ (¬ isW T n p k = true → ∃ h', F_rd_takeWord 2 (1000003 + k) h = some (J 0, h') ∧ FL 1 (spn T n p : Nat) h h') := by
  have D := B.2.2.2
  have ew := C_isW B.1 B.2.1 B.2.2.1 hp H hk
  constructor
  · intro c
    rw [if_pos c] at ew
    obtain ⟨h1, e1, q1⟩ := C_ad B hp H
    refine ⟨h1, ?_, q1⟩
    unfold F_rd_takeWord
    rw [ck_e (DS_k D)]
    try simp only [j_0, j_1, j_2, j_3, j_4, j_5, j_6, j_7, j_8, j_9, j_10, j_11, j_12, j_13, j_14, j_15, j_16, j_17, j_18, j_19, j_20, j_21, j_22, j_23, j_24, j_25, j_26, j_27, j_28, j_29, j_30, j_31, j_32, j_33, j_34, j_35, j_36, j_37, j_38, j_39, j_40, j_41, j_42, j_43, j_44, j_45, j_46, j_47, j_48, j_49, j_50, j_51, j_52, j_57, j_59, j_63, j_74, j_75, j_93, j_97, j_99, j_100, j_122, j_200, j_255, j_300, j_465, j_496, j_900, j_999, j_1000, j_65536, j_65537, j_99999, j_252645135, j_858993459, j_1431655765, k_0, k_1, k_27, k_32, k_74, k_75, k_100, k_1000, k_65537]
    simp (disch := first | with_reducible assumption | omega | trivial) only [↓bn_s1, ↓bd_s1, ↓ei_l1, ↓ei_r1, ↓bn_if, ↓ilt_1, ↓ilt_0, ↓ieq_1, ↓ieq_0, bn_s1, bd_s1, ei_l1, ei_r1, J_add, J_sub, J_mul, J_neg, J_lt, J_le, J_eq, dv_J, rm_J, if_pos, if_neg, ↓reduceIte, bitJ, shlJ, orJ, j_0, j_1, j_2, j_3, j_4, j_5, j_6, j_7, j_8, j_9, j_10, j_11, j_12, j_13, j_14, j_15, j_16, j_17, j_18, j_19, j_20, j_21, j_22, j_23, j_24, j_25, j_26, j_27, j_28, j_29, j_30, j_31, j_32, j_33, j_34, j_35, j_36, j_37, j_38, j_39, j_40, j_41, j_42, j_43, j_44, j_45, j_46, j_47, j_48, j_49, j_50, j_51, j_52, j_57, j_59, j_63, j_74, j_75, j_93, j_97, j_99, j_100, j_122, j_200, j_255, j_300, j_465, j_496, j_900, j_999, j_1000, j_65536, j_65537, j_99999, j_252645135, j_858993459, j_1431655765, k_0, k_1, k_27, k_32, k_74, k_75, k_100, k_1000, k_65537, d_i D, ↓d_i_b D, d_p D, ↓d_p_b D, d_r2 D, ↓d_r2_b D, ↓bn_e (ew), ew, ↓bn_e (e1), e1]
  · intro c
    rw [if_neg c] at ew
    obtain ⟨h1, e1, q1⟩ := C_fail (x := 1) B hp H (by omega)
    refine ⟨h1, ?_, q1⟩
    have rv := rvb0
    unfold F_rd_takeWord
    rw [ck_e (DS_k D)]
    try simp only [j_0, j_1, j_2, j_3, j_4, j_5, j_6, j_7, j_8, j_9, j_10, j_11, j_12, j_13, j_14, j_15, j_16, j_17, j_18, j_19, j_20, j_21, j_22, j_23, j_24, j_25, j_26, j_27, j_28, j_29, j_30, j_31, j_32, j_33, j_34, j_35, j_36, j_37, j_38, j_39, j_40, j_41, j_42, j_43, j_44, j_45, j_46, j_47, j_48, j_49, j_50, j_51, j_52, j_57, j_59, j_63, j_74, j_75, j_93, j_97, j_99, j_100, j_122, j_200, j_255, j_300, j_465, j_496, j_900, j_999, j_1000, j_65536, j_65537, j_99999, j_252645135, j_858993459, j_1431655765, k_0, k_1, k_27, k_32, k_74, k_75, k_100, k_1000, k_65537]
    simp (disch := first | with_reducible assumption | omega | trivial) only [↓bn_s1, ↓bd_s1, ↓ei_l1, ↓ei_r1, ↓bn_if, ↓ilt_1, ↓ilt_0, ↓ieq_1, ↓ieq_0, bn_s1, bd_s1, ei_l1, ei_r1, J_add, J_sub, J_mul, J_neg, J_lt, J_le, J_eq, dv_J, rm_J, if_pos, if_neg, ↓reduceIte, bitJ, shlJ, orJ, j_0, j_1, j_2, j_3, j_4, j_5, j_6, j_7, j_8, j_9, j_10, j_11, j_12, j_13, j_14, j_15, j_16, j_17, j_18, j_19, j_20, j_21, j_22, j_23, j_24, j_25, j_26, j_27, j_28, j_29, j_30, j_31, j_32, j_33, j_34, j_35, j_36, j_37, j_38, j_39, j_40, j_41, j_42, j_43, j_44, j_45, j_46, j_47, j_48, j_49, j_50, j_51, j_52, j_57, j_59, j_63, j_74, j_75, j_93, j_97, j_99, j_100, j_122, j_200, j_255, j_300, j_465, j_496, j_900, j_999, j_1000, j_65536, j_65537, j_99999, j_252645135, j_858993459, j_1431655765, k_0, k_1, k_27, k_32, k_74, k_75, k_100, k_1000, k_65537, d_i D, ↓d_i_b D, d_p D, ↓d_p_b D, d_r2 D, ↓d_r2_b D, ↓bn_e (ew), ew, ↓bd_e (e1), e1]
/-- what taking a whole number answers: a fault, or none (0) -/
def pwf (T : Int → Int) (n p : Nat) (lo hi : Int) : Int := if tso T n p = 1 then (if lo ≤ tnm T n p ∧ tnm T n p ≤ hi then 0 else 4) else 1
theorem C_twh {T : Int → Int} {n p : Nat} {h : Hp} {lo hi : Int} (B : KB T n h) (hp : p ≤ n) (H : CT T n p h) (h1 : 0 ≤ lo ∧ lo ≤ 1000) (h2 : 0 ≤ hi ∧ hi ≤ 1000) : (pwf T n p lo hi = 0 → ∃ h', F_rd_takeWhole 2 (J lo) (J hi) h = some (J 1, h') ∧ Sf h h' ∧ fi h' 2 9 = tnm T n p ∧ CT T n (tnx T n p) h' ∧ KB T n h') ∧ (¬ pwf T n p lo hi = 0 → ∃ h', F_rd_takeWhole 2 (J lo) (J hi) h = some (J 0, h') ∧ FL (pwf T n p lo hi) (spn T n p : Nat) h h') := by
  have D := B.2.2.2
  have Q := B.1
  have c4 := H.2.2.2.1
  have rv := rvb0
  have tsr := tso_c T n p hp
  unfold pwf F_rd_takeWhole
  rw [ck_e (DS_k D)]
  by_cases c : tso T n p = 1
  · rw [if_pos c]
    have tb := tnm_b hp c
    have c5 := H.2.2.2.2.1 c
    rw [c] at c4
    constructor
    · intro z
      by_cases d : lo ≤ tnm T n p ∧ tnm T n p ≤ hi
      · obtain ⟨g1, e1⟩ : ∃ g1, g1 = wF h 2 9 (tnm T n p) := ⟨_, rfl⟩
        have f1 : Fm 2 3 h g1 := by rw [e1]; exact fm_wF (by omega) (by omega)
        have B1 := KB_fm f1 (by omega) (by omega) B
        have D1 := B1.2.2.2
        obtain ⟨g2, e2, s2, w2, c2, B2⟩ := C_ad B1 hp (CT_fm f1 (by omega) H)
        refine ⟨g2, ?_, ⟨fm_tr (fm_wd f1 (by omega) (by omega)) s2.1, fun k hk => by rw [s2.2 k hk, e1, fi_ne (by omega)]⟩, by rw [w2, e1]; exact fi_same (by omega) (by omega), c2, B2⟩
        try simp only [j_0, j_1, j_2, j_3, j_4, j_5, j_6, j_7, j_8, j_9, j_10, j_11, j_12, j_13, j_14, j_15, j_16, j_17, j_18, j_19, j_20, j_21, j_22, j_23, j_24, j_25, j_26, j_27, j_28, j_29, j_30, j_31, j_32, j_33, j_34, j_35, j_36, j_37, j_38, j_39, j_40, j_41, j_42, j_43, j_44, j_45, j_46, j_47, j_48, j_49, j_50, j_51, j_52, j_57, j_59, j_63, j_74, j_75, j_93, j_97, j_99, j_100, j_122, j_200, j_255, j_300, j_465, j_496, j_900, j_999, j_1000, j_65536, j_65537, j_99999, j_252645135, j_858993459, j_1431655765, k_0, k_1, k_27, k_32, k_74, k_75, k_100, k_1000, k_65537]
        simp (disch := first | with_reducible assumption | omega | trivial) only [↓bn_s1, ↓bd_s1, ↓ei_l1, ↓ei_r1, ↓bn_if, ↓ilt_1, ↓ilt_0, ↓ieq_1, ↓ieq_0, bn_s1, bd_s1, ei_l1, ei_r1, J_add, J_sub, J_mul, J_neg, J_lt, J_le, J_eq, dv_J, rm_J, if_pos, if_neg, ↓reduceIte, bitJ, shlJ, orJ, j_0, j_1, j_2, j_3, j_4, j_5, j_6, j_7, j_8, j_9, j_10, j_11, j_12, j_13, j_14, j_15, j_16, j_17, j_18, j_19, j_20, j_21, j_22, j_23, j_24, j_25, j_26, j_27, j_28, j_29, j_30, j_31, j_32, j_33, j_34, j_35, j_36, j_37, j_38, j_39, j_40, j_41, j_42, j_43, j_44, j_45, j_46, j_47, j_48, j_49, j_50, j_51, j_52, j_57, j_59, j_63, j_74, j_75, j_93, j_97, j_99, j_100, j_122, j_200, j_255, j_300, j_465, j_496, j_900, j_999, j_1000, j_65536, j_65537, j_99999, j_252645135, j_858993459, j_1431655765, k_0, k_1, k_27, k_32, k_74, k_75, k_100, k_1000, k_65537, d_i D, ↓d_i_b D, d_p D, ↓d_p_b D, d_r2 D, ↓d_r2_b D, tk_i Q, ↓tk_i_b Q, tk_p Q, ↓tk_p_b Q, tk_r Q, ↓tk_r_b Q, tk_l Q, ↓tk_l_b Q, tk_pl Q, ↓tk_pl_b Q, tk_a Q, ↓tk_a_b Q, c4, c5, ← e1, d_i D1, ↓d_i_b D1, d_p D1, ↓d_p_b D1, d_r2 D1, ↓d_r2_b D1, ↓bn_e (e2), e2]
      · rw [if_neg d] at z; omega
    · intro z
      by_cases d : lo ≤ tnm T n p ∧ tnm T n p ≤ hi
      · rw [if_pos d] at z; exact absurd rfl z
      · rw [if_neg d]
        obtain ⟨g1, e1, q1⟩ := C_fail (x := 4) B hp H (by omega)
        refine ⟨g1, ?_, q1⟩
        by_cases a : tnm T n p < lo
        · try simp only [j_0, j_1, j_2, j_3, j_4, j_5, j_6, j_7, j_8, j_9, j_10, j_11, j_12, j_13, j_14, j_15, j_16, j_17, j_18, j_19, j_20, j_21, j_22, j_23, j_24, j_25, j_26, j_27, j_28, j_29, j_30, j_31, j_32, j_33, j_34, j_35, j_36, j_37, j_38, j_39, j_40, j_41, j_42, j_43, j_44, j_45, j_46, j_47, j_48, j_49, j_50, j_51, j_52, j_57, j_59, j_63, j_74, j_75, j_93, j_97, j_99, j_100, j_122, j_200, j_255, j_300, j_465, j_496, j_900, j_999, j_1000, j_65536, j_65537, j_99999, j_252645135, j_858993459, j_1431655765, k_0, k_1, k_27, k_32, k_74, k_75, k_100, k_1000, k_65537]
          simp (disch := first | with_reducible assumption | omega | trivial) only [↓bn_s1, ↓bd_s1, ↓ei_l1, ↓ei_r1, ↓bn_if, ↓ilt_1, ↓ilt_0, ↓ieq_1, ↓ieq_0, bn_s1, bd_s1, ei_l1, ei_r1, J_add, J_sub, J_mul, J_neg, J_lt, J_le, J_eq, dv_J, rm_J, if_pos, if_neg, ↓reduceIte, bitJ, shlJ, orJ, j_0, j_1, j_2, j_3, j_4, j_5, j_6, j_7, j_8, j_9, j_10, j_11, j_12, j_13, j_14, j_15, j_16, j_17, j_18, j_19, j_20, j_21, j_22, j_23, j_24, j_25, j_26, j_27, j_28, j_29, j_30, j_31, j_32, j_33, j_34, j_35, j_36, j_37, j_38, j_39, j_40, j_41, j_42, j_43, j_44, j_45, j_46, j_47, j_48, j_49, j_50, j_51, j_52, j_57, j_59, j_63, j_74, j_75, j_93, j_97, j_99, j_100, j_122, j_200, j_255, j_300, j_465, j_496, j_900, j_999, j_1000, j_65536, j_65537, j_99999, j_252645135, j_858993459, j_1431655765, k_0, k_1, k_27, k_32, k_74, k_75, k_100, k_1000, k_65537, d_i D, ↓d_i_b D, d_p D, ↓d_p_b D, d_r2 D, ↓d_r2_b D, tk_i Q, ↓tk_i_b Q, tk_p Q, ↓tk_p_b Q, tk_r Q, ↓tk_r_b Q, tk_l Q, ↓tk_l_b Q, tk_pl Q, ↓tk_pl_b Q, tk_a Q, ↓tk_a_b Q, c4, c5, ↓bd_e (e1), e1]
        · try simp only [j_0, j_1, j_2, j_3, j_4, j_5, j_6, j_7, j_8, j_9, j_10, j_11, j_12, j_13, j_14, j_15, j_16, j_17, j_18, j_19, j_20, j_21, j_22, j_23, j_24, j_25, j_26, j_27, j_28, j_29, j_30, j_31, j_32, j_33, j_34, j_35, j_36, j_37, j_38, j_39, j_40, j_41, j_42, j_43, j_44, j_45, j_46, j_47, j_48, j_49, j_50, j_51, j_52, j_57, j_59, j_63, j_74, j_75, j_93, j_97, j_99, j_100, j_122, j_200, j_255, j_300, j_465, j_496, j_900, j_999, j_1000, j_65536, j_65537, j_99999, j_252645135, j_858993459, j_1431655765, k_0, k_1, k_27, k_32, k_74, k_75, k_100, k_1000, k_65537]
          simp (disch := first | with_reducible assumption | omega | trivial) only [↓bn_s1, ↓bd_s1, ↓ei_l1, ↓ei_r1, ↓bn_if, ↓ilt_1, ↓ilt_0, ↓ieq_1, ↓ieq_0, bn_s1, bd_s1, ei_l1, ei_r1, J_add, J_sub, J_mul, J_neg, J_lt, J_le, J_eq, dv_J, rm_J, if_pos, if_neg, ↓reduceIte, bitJ, shlJ, orJ, j_0, j_1, j_2, j_3, j_4, j_5, j_6, j_7, j_8, j_9, j_10, j_11, j_12, j_13, j_14, j_15, j_16, j_17, j_18, j_19, j_20, j_21, j_22, j_23, j_24, j_25, j_26, j_27, j_28, j_29, j_30, j_31, j_32, j_33, j_34, j_35, j_36, j_37, j_38, j_39, j_40, j_41, j_42, j_43, j_44, j_45, j_46, j_47, j_48, j_49, j_50, j_51, j_52, j_57, j_59, j_63, j_74, j_75, j_93, j_97, j_99, j_100, j_122, j_200, j_255, j_300, j_465, j_496, j_900, j_999, j_1000, j_65536, j_65537, j_99999, j_252645135, j_858993459, j_1431655765, k_0, k_1, k_27, k_32, k_74, k_75, k_100, k_1000, k_65537, d_i D, ↓d_i_b D, d_p D, ↓d_p_b D, d_r2 D, ↓d_r2_b D, tk_i Q, ↓tk_i_b Q, tk_p Q, ↓tk_p_b Q, tk_r Q, ↓tk_r_b Q, tk_l Q, ↓tk_l_b Q, tk_pl Q, ↓tk_pl_b Q, tk_a Q, ↓tk_a_b Q, c4, c5, ↓bd_e (e1), e1]
  · rw [if_neg c]
    have cb := fi_rg h 3 4
    rw [c4] at cb
    refine ⟨fun z => by omega, fun _ => ?_⟩
    obtain ⟨g1, e1, q1⟩ := C_fail (x := 1) B hp H (by omega)
    refine ⟨g1, ?_, q1⟩
    try simp only [j_0, j_1, j_2, j_3, j_4, j_5, j_6, j_7, j_8, j_9, j_10, j_11, j_12, j_13, j_14, j_15, j_16, j_17, j_18, j_19, j_20, j_21, j_22, j_23, j_24, j_25, j_26, j_27, j_28, j_29, j_30, j_31, j_32, j_33, j_34, j_35, j_36, j_37, j_38, j_39, j_40, j_41, j_42, j_43, j_44, j_45, j_46, j_47, j_48, j_49, j_50, j_51, j_52, j_57, j_59, j_63, j_74, j_75, j_93, j_97, j_99, j_100, j_122, j_200, j_255, j_300, j_465, j_496, j_900, j_999, j_1000, j_65536, j_65537, j_99999, j_252645135, j_858993459, j_1431655765, k_0, k_1, k_27, k_32, k_74, k_75, k_100, k_1000, k_65537]
    simp (disch := first | with_reducible assumption | omega | trivial) only [↓bn_s1, ↓bd_s1, ↓ei_l1, ↓ei_r1, ↓bn_if, ↓ilt_1, ↓ilt_0, ↓ieq_1, ↓ieq_0, bn_s1, bd_s1, ei_l1, ei_r1, J_add, J_sub, J_mul, J_neg, J_lt, J_le, J_eq, dv_J, rm_J, if_pos, if_neg, ↓reduceIte, bitJ, shlJ, orJ, j_0, j_1, j_2, j_3, j_4, j_5, j_6, j_7, j_8, j_9, j_10, j_11, j_12, j_13, j_14, j_15, j_16, j_17, j_18, j_19, j_20, j_21, j_22, j_23, j_24, j_25, j_26, j_27, j_28, j_29, j_30, j_31, j_32, j_33, j_34, j_35, j_36, j_37, j_38, j_39, j_40, j_41, j_42, j_43, j_44, j_45, j_46, j_47, j_48, j_49, j_50, j_51, j_52, j_57, j_59, j_63, j_74, j_75, j_93, j_97, j_99, j_100, j_122, j_200, j_255, j_300, j_465, j_496, j_900, j_999, j_1000, j_65536, j_65537, j_99999, j_252645135, j_858993459, j_1431655765, k_0, k_1, k_27, k_32, k_74, k_75, k_100, k_1000, k_65537, d_i D, ↓d_i_b D, d_p D, ↓d_p_b D, d_r2 D, ↓d_r2_b D, tk_i Q, ↓tk_i_b Q, tk_p Q, ↓tk_p_b Q, tk_r Q, ↓tk_r_b Q, tk_l Q, ↓tk_l_b Q, tk_pl Q, ↓tk_pl_b Q, tk_a Q, ↓tk_a_b Q, c4, ↓bd_e (e1), e1]
/-- the sort of the line that begins with the token: 0 to 8, else -1 -/
def lso (T : Int → Int) (n p : Nat) : Int := if isW T n p 0 = true then 0 else if isW T n p 1 = true then 1 else if isW T n p 2 = true then 2 else if isW T n p 3 = true then 3 else if isW T n p 4 = true then 4 else if isW T n p 5 = true then 5 else if isW T n p 6 = true then 6 else if isW T n p 7 = true then 7 else if isW T n p 8 = true then 8 else -1
theorem C_lso {T : Int → Int} {n p : Nat} {h : Hp} (B : KB T n h) (hp : p ≤ n) (H : CT T n p h) : F_rd_lineSort 2 h = some (J (lso T n p)) := by
  have D := B.2.2.2
  have w : ∀ k, k < 24 → F_tk_isWord 3 (1000003 + k) h = some (J (if isW T n p k = true then 1 else 0)) := fun k hk => C_isW B.1 B.2.1 B.2.2.1 hp H hk
  have w0 : F_tk_isWord 3 1000003 h = _ := w 0 (by omega)
  have w1 : F_tk_isWord 3 1000004 h = _ := w 1 (by omega)
  have w2 : F_tk_isWord 3 1000005 h = _ := w 2 (by omega)
  have w3 : F_tk_isWord 3 1000006 h = _ := w 3 (by omega)
  have w4 : F_tk_isWord 3 1000007 h = _ := w 4 (by omega)
  have w5 : F_tk_isWord 3 1000008 h = _ := w 5 (by omega)
  have w6 : F_tk_isWord 3 1000009 h = _ := w 6 (by omega)
  have w7 : F_tk_isWord 3 1000010 h = _ := w 7 (by omega)
  have w8 : F_tk_isWord 3 1000011 h = _ := w 8 (by omega)
  unfold F_rd_lineSort lso
  rw [ck_e (DS_k D)]
  have st : ∀ (b : Bool) (x : Int) (k : Option Int32) (y : Int), k = some (J y) → (if J (if b = true then 1 else 0) = (0 : Int32) then k else some (J x)) = some (J (if b = true then x else y)) := by
    intro b x k y e
    cases b with
    | true => rw [if_pos rfl, if_pos rfl, if_neg (by decide)]
    | false => rw [if_neg Bool.false_ne_true, if_neg Bool.false_ne_true, if_pos (by decide)]; exact e
  rw [bn_e (d_r2 D), bn_e w0]
  refine st _ 0 _ _ ?_
  rw [bn_e (d_r2 D), bn_e w1]
  refine st _ 1 _ _ ?_
  rw [bn_e (d_r2 D), bn_e w2]
  refine st _ 2 _ _ ?_
  rw [bn_e (d_r2 D), bn_e w3]
  refine st _ 3 _ _ ?_
  rw [bn_e (d_r2 D), bn_e w4]
  refine st _ 4 _ _ ?_
  rw [bn_e (d_r2 D), bn_e w5]
  refine st _ 5 _ _ ?_
  rw [bn_e (d_r2 D), bn_e w6]
  refine st _ 6 _ _ ?_
  rw [bn_e (d_r2 D), bn_e w7]
  refine st _ 7 _ _ ?_
  rw [bn_e (d_r2 D), bn_e w8]
  refine st _ 8 _ _ ?_
  rfl
