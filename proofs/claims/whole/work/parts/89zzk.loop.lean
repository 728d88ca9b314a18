/-! the law's loop -/
theorem law_b {xs : List Int32} {i : Nat} {h : Hp} (I : INV xs i h) (hl : 6 * i + 6 ≤ xs.length) (hx : xs.length ≤ 3072) : LO xs i (B_lw_law_23 1000000 0 88 101 (J (6 * i : Nat)) h) := by
  obtain ⟨a, t, HA, HN, C, R, X⟩ := I
  have I : INV xs i h := ⟨a, t, HA, HN, C, R, X⟩
  have en : aN h 1000000 = some (J xs.length) := aN_J X.2.2.2.2.2.2.1 (by rw [X.2.2.2.2.2.2.2])
  have e0 : aI h 100 1000000 (J (6 * i : Nat)) = some (J (xv xs (6 * i))) := by
    rw [aI_J X.2.2.2.2.2.2.1 (by omega) (by rw [X.2.2.2.2.2.2.2]; omega) (by omega)]
    unfold ia xv
    rw [X.2.2.2.2.2.2.2]
    rfl
  obtain ⟨w, hw⟩ : ∃ w, w = J (xv xs (6 * i)) &&& (63 : Int32) := ⟨_, rfl⟩
  have c : ¬ (J xs.length - (6 : Int32)) < J (6 * i : Nat) := by
    rw [j_6, J_sub, J_lt (by omega) (by omega) (by omega) (by omega)]
    omega
  unfold B_lw_law_23
  rw [bn_e en, if_neg c, bn_e e0, ← hw]
  by_cases r : w.toInt < 0 ∨ 52 < w.toInt
  · rw [if_pos r]
    exact ⟨h, rfl, a, t, HA, HN, C, R, LX_s X⟩
  rw [if_neg r]
  by_cases c0 : w = (0 : Int32)
  · rw [if_pos c0]
    exact law_0 I hl hx
  rw [if_neg c0]
  by_cases c1 : w = (1 : Int32)
  · rw [if_pos c1]
    exact law_1 I hl hx
  rw [if_neg c1]
  by_cases c2 : w = (2 : Int32)
  · rw [if_pos c2]
    exact law_2 I hl hx
  rw [if_neg c2]
  by_cases c3 : w = (3 : Int32)
  · rw [if_pos c3]
    exact law_3 I hl hx
  rw [if_neg c3]
  by_cases c4 : w = (4 : Int32)
  · rw [if_pos c4]
    exact law_4 I hl hx
  rw [if_neg c4]
  by_cases c5 : w = (5 : Int32)
  · rw [if_pos c5]
    exact law_5 I hl hx
  rw [if_neg c5]
  by_cases c6 : w = (6 : Int32)
  · rw [if_pos c6]
    exact law_6 I hl hx
  rw [if_neg c6]
  by_cases c7 : w = (7 : Int32)
  · rw [if_pos c7]
    exact law_7 I hl hx
  rw [if_neg c7]
  by_cases c8 : w = (8 : Int32)
  · rw [if_pos c8]
    exact law_8 I hl hx
  rw [if_neg c8]
  by_cases c9 : w = (9 : Int32)
  · rw [if_pos c9]
    exact law_9 I hl hx
  rw [if_neg c9]
  by_cases c10 : w = (10 : Int32)
  · rw [if_pos c10]
    exact law_10 I hl hx
  rw [if_neg c10]
  by_cases c11 : w = (11 : Int32)
  · rw [if_pos c11]
    exact law_11 I hl hx
  rw [if_neg c11]
  by_cases c12 : w = (12 : Int32)
  · rw [if_pos c12]
    exact law_12 I hl hx
  rw [if_neg c12]
  by_cases c13 : w = (13 : Int32)
  · rw [if_pos c13]
    exact law_13 I hl hx
  rw [if_neg c13]
  by_cases c14 : w = (14 : Int32)
  · rw [if_pos c14]
    exact law_14 I hl hx
  rw [if_neg c14]
  by_cases c15 : w = (15 : Int32)
  · rw [if_pos c15]
    exact law_15 I hl hx
  rw [if_neg c15]
  by_cases c16 : w = (16 : Int32)
  · rw [if_pos c16]
    exact law_16 I hl hx
  rw [if_neg c16]
  by_cases c17 : w = (17 : Int32)
  · rw [if_pos c17]
    exact law_17 I hl hx
  rw [if_neg c17]
  by_cases c18 : w = (18 : Int32)
  · rw [if_pos c18]
    exact law_18 I hl hx
  rw [if_neg c18]
  by_cases c19 : w = (19 : Int32)
  · rw [if_pos c19]
    exact law_19 I hl hx
  rw [if_neg c19]
  by_cases c20 : w = (20 : Int32)
  · rw [if_pos c20]
    exact law_20 I hl hx
  rw [if_neg c20]
  by_cases c21 : w = (21 : Int32)
  · rw [if_pos c21]
    exact law_21 I hl hx
  rw [if_neg c21]
  by_cases c22 : w = (22 : Int32)
  · rw [if_pos c22]
    exact law_22 I hl hx
  rw [if_neg c22]
  by_cases c23 : w = (23 : Int32)
  · rw [if_pos c23]
    exact law_23 I hl hx
  rw [if_neg c23]
  by_cases c24 : w = (24 : Int32)
  · rw [if_pos c24]
    exact law_24 I hl hx
  rw [if_neg c24]
  by_cases c25 : w = (25 : Int32)
  · rw [if_pos c25]
    exact law_25 I hl hx
  rw [if_neg c25]
  by_cases c26 : w = (26 : Int32)
  · rw [if_pos c26]
    exact law_26 I hl hx
  rw [if_neg c26]
  by_cases c27 : w = (27 : Int32)
  · rw [if_pos c27]
    exact law_27 I hl hx
  rw [if_neg c27]
  by_cases c28 : w = (28 : Int32)
  · rw [if_pos c28]
    exact law_28 I hl hx
  rw [if_neg c28]
  by_cases c29 : w = (29 : Int32)
  · rw [if_pos c29]
    exact law_29 I hl hx
  rw [if_neg c29]
  by_cases c30 : w = (30 : Int32)
  · rw [if_pos c30]
    exact law_30 I hl hx
  rw [if_neg c30]
  by_cases c31 : w = (31 : Int32)
  · rw [if_pos c31]
    exact law_31 I hl hx
  rw [if_neg c31]
  by_cases c32 : w = (32 : Int32)
  · rw [if_pos c32]
    exact law_32 I hl hx
  rw [if_neg c32]
  by_cases c33 : w = (33 : Int32)
  · rw [if_pos c33]
    exact law_33 I hl hx
  rw [if_neg c33]
  by_cases c34 : w = (34 : Int32)
  · rw [if_pos c34]
    exact law_34 I hl hx
  rw [if_neg c34]
  by_cases c35 : w = (35 : Int32)
  · rw [if_pos c35]
    exact law_35 I hl hx
  rw [if_neg c35]
  by_cases c36 : w = (36 : Int32)
  · rw [if_pos c36]
    exact law_36 I hl hx
  rw [if_neg c36]
  by_cases c37 : w = (37 : Int32)
  · rw [if_pos c37]
    exact law_37 I hl hx
  rw [if_neg c37]
  by_cases c38 : w = (38 : Int32)
  · rw [if_pos c38]
    exact law_38 I hl hx
  rw [if_neg c38]
  by_cases c39 : w = (39 : Int32)
  · rw [if_pos c39]
    exact law_39 I hl hx
  rw [if_neg c39]
  by_cases c40 : w = (40 : Int32)
  · rw [if_pos c40]
    exact law_40 I hl hx
  rw [if_neg c40]
  by_cases c41 : w = (41 : Int32)
  · rw [if_pos c41]
    exact law_41 I hl hx
  rw [if_neg c41]
  by_cases c42 : w = (42 : Int32)
  · rw [if_pos c42]
    exact law_42 I hl hx
  rw [if_neg c42]
  by_cases c43 : w = (43 : Int32)
  · rw [if_pos c43]
    exact law_43 I hl hx
  rw [if_neg c43]
  by_cases c44 : w = (44 : Int32)
  · rw [if_pos c44]
    exact law_44 I hl hx
  rw [if_neg c44]
  by_cases c45 : w = (45 : Int32)
  · rw [if_pos c45]
    exact law_45 I hl hx
  rw [if_neg c45]
  by_cases c46 : w = (46 : Int32)
  · rw [if_pos c46]
    exact law_46 I hl hx
  rw [if_neg c46]
  by_cases c47 : w = (47 : Int32)
  · rw [if_pos c47]
    exact law_47 I hl hx
  rw [if_neg c47]
  by_cases c48 : w = (48 : Int32)
  · rw [if_pos c48]
    exact law_48 I hl hx
  rw [if_neg c48]
  by_cases c49 : w = (49 : Int32)
  · rw [if_pos c49]
    exact law_49 I hl hx
  rw [if_neg c49]
  by_cases c50 : w = (50 : Int32)
  · rw [if_pos c50]
    exact law_50 I hl hx
  rw [if_neg c50]
  by_cases c51 : w = (51 : Int32)
  · rw [if_pos c51]
    exact law_51 I hl hx
  rw [if_neg c51]
  by_cases c52 : w = (52 : Int32)
  · rw [if_pos c52]
    exact law_52 I hl hx
  rw [if_neg c52]
  exfalso
  have e : J w.toInt = w := J_of w
  have hv : w.toInt = 0 ∨ w.toInt = 1 ∨ w.toInt = 2 ∨ w.toInt = 3 ∨ w.toInt = 4 ∨ w.toInt = 5 ∨ w.toInt = 6 ∨ w.toInt = 7 ∨ w.toInt = 8 ∨ w.toInt = 9 ∨ w.toInt = 10 ∨ w.toInt = 11 ∨ w.toInt = 12 ∨ w.toInt = 13 ∨ w.toInt = 14 ∨ w.toInt = 15 ∨ w.toInt = 16 ∨ w.toInt = 17 ∨ w.toInt = 18 ∨ w.toInt = 19 ∨ w.toInt = 20 ∨ w.toInt = 21 ∨ w.toInt = 22 ∨ w.toInt = 23 ∨ w.toInt = 24 ∨ w.toInt = 25 ∨ w.toInt = 26 ∨ w.toInt = 27 ∨ w.toInt = 28 ∨ w.toInt = 29 ∨ w.toInt = 30 ∨ w.toInt = 31 ∨ w.toInt = 32 ∨ w.toInt = 33 ∨ w.toInt = 34 ∨ w.toInt = 35 ∨ w.toInt = 36 ∨ w.toInt = 37 ∨ w.toInt = 38 ∨ w.toInt = 39 ∨ w.toInt = 40 ∨ w.toInt = 41 ∨ w.toInt = 42 ∨ w.toInt = 43 ∨ w.toInt = 44 ∨ w.toInt = 45 ∨ w.toInt = 46 ∨ w.toInt = 47 ∨ w.toInt = 48 ∨ w.toInt = 49 ∨ w.toInt = 50 ∨ w.toInt = 51 ∨ w.toInt = 52 := by omega
  rcases hv with q | q | q | q | q | q | q | q | q | q | q | q | q | q | q | q | q | q | q | q | q | q | q | q | q | q | q | q | q | q | q | q | q | q | q | q | q | q | q | q | q | q | q | q | q | q | q | q | q | q | q | q | q
  · exact c0 (by rw [← e, q]; decide)
  · exact c1 (by rw [← e, q]; decide)
  · exact c2 (by rw [← e, q]; decide)
  · exact c3 (by rw [← e, q]; decide)
  · exact c4 (by rw [← e, q]; decide)
  · exact c5 (by rw [← e, q]; decide)
  · exact c6 (by rw [← e, q]; decide)
  · exact c7 (by rw [← e, q]; decide)
  · exact c8 (by rw [← e, q]; decide)
  · exact c9 (by rw [← e, q]; decide)
  · exact c10 (by rw [← e, q]; decide)
  · exact c11 (by rw [← e, q]; decide)
  · exact c12 (by rw [← e, q]; decide)
  · exact c13 (by rw [← e, q]; decide)
  · exact c14 (by rw [← e, q]; decide)
  · exact c15 (by rw [← e, q]; decide)
  · exact c16 (by rw [← e, q]; decide)
  · exact c17 (by rw [← e, q]; decide)
  · exact c18 (by rw [← e, q]; decide)
  · exact c19 (by rw [← e, q]; decide)
  · exact c20 (by rw [← e, q]; decide)
  · exact c21 (by rw [← e, q]; decide)
  · exact c22 (by rw [← e, q]; decide)
  · exact c23 (by rw [← e, q]; decide)
  · exact c24 (by rw [← e, q]; decide)
  · exact c25 (by rw [← e, q]; decide)
  · exact c26 (by rw [← e, q]; decide)
  · exact c27 (by rw [← e, q]; decide)
  · exact c28 (by rw [← e, q]; decide)
  · exact c29 (by rw [← e, q]; decide)
  · exact c30 (by rw [← e, q]; decide)
  · exact c31 (by rw [← e, q]; decide)
  · exact c32 (by rw [← e, q]; decide)
  · exact c33 (by rw [← e, q]; decide)
  · exact c34 (by rw [← e, q]; decide)
  · exact c35 (by rw [← e, q]; decide)
  · exact c36 (by rw [← e, q]; decide)
  · exact c37 (by rw [← e, q]; decide)
  · exact c38 (by rw [← e, q]; decide)
  · exact c39 (by rw [← e, q]; decide)
  · exact c40 (by rw [← e, q]; decide)
  · exact c41 (by rw [← e, q]; decide)
  · exact c42 (by rw [← e, q]; decide)
  · exact c43 (by rw [← e, q]; decide)
  · exact c44 (by rw [← e, q]; decide)
  · exact c45 (by rw [← e, q]; decide)
  · exact c46 (by rw [← e, q]; decide)
  · exact c47 (by rw [← e, q]; decide)
  · exact c48 (by rw [← e, q]; decide)
  · exact c49 (by rw [← e, q]; decide)
  · exact c50 (by rw [← e, q]; decide)
  · exact c51 (by rw [← e, q]; decide)
  · exact c52 (by rw [← e, q]; decide)
theorem law_ini {a0 x1 x6 x11 : Nat} {h g : Hp} (e : iniP h = some (x1, x6, x11, g)) : F_lw_law a0 h = bd (lp (B_lw_law_23 a0 x1 x6 x11) FU (0 : Int32) g) fun x590 h592 => ei x590 (fun _ => some ((1 : Int32), h592)) (fun x594 => some (x594, h592)) := by
  unfold iniP at e
  unfold F_lw_law
  obtain ⟨y1, g1, d1, e⟩ := bd_s e
  obtain ⟨g2, d2, e⟩ := bn_s e
  obtain ⟨y3, g3, d3, e⟩ := bd_s e
  obtain ⟨g4, d4, e⟩ := bn_s e
  obtain ⟨y5, g5, d5, e⟩ := bd_s e
  rw [bd_e d1, bn_e d2, bd_e d3, bn_e d4, bd_e d5]
  cases e
  rfl
theorem INV_h {xs : List Int32} {h : Hp} (C : CI ab0 26 h) (R : RI ab0 h) (W : WR h) (r : fR h 88 3 = none) (c : cn h = 102 ∧ wd h ≤ 100000 ∧ kd h 101 = 102 ∧ (lA h 101).length = 1 ∧ kd h 1000000 = 100) : INV xs 0 (tX xs h) := by
  have s : Se (fun a => ¬ a = 1000000) h (tX xs h) := fun a ha => ⟨rfl, rfl, rfl, rfl, if_neg ha, rfl⟩
  have HBh : ∀ m, HB m h := fun m b e => by
    rw [r] at e
    cases e
  refine ⟨ab0, 26, AW_0, NL_0, CI_se (se_mo s (fun a ha => by omega)) C, RI_se (m := 102) (se_mo s (fun a ha => by omega)) (by omega) (HBh 102) R, WR_wc (se_wc (se_mo s (fun a ha => by omega))) W, ?_, ?_, HBh _, c.2.2.1, c.2.2.2.1, c.2.2.2.2, ?_⟩
  · show 102 ≤ cn h ∧ cn h ≤ 102 + 22 * 0
    omega
  · show wd h ≤ 100000 + 159 * 0
    omega
  · show (if 1000000 = 1000000 then xs else iA h 1000000) = xs
    rw [if_pos rfl]
theorem INV_0 (xs : List Int32) : INV xs 0 (tX xs hini) := INV_h ini_CI ini_RI ini_W ini_r.2.2 ini_c
theorem pure_law (xs : List Int32) (hx : xs.length ≤ 3072) : ∃ hf, F_lw_law 1000000 (h0 xs) = some (1, hf) ∧ cn hf ≤ 601024 ∧ wd hf ≤ 7293033 := by
  have n6 : 6 * (xs.length / 6) ≤ xs.length := Nat.mul_div_le _ _
  have n6' : xs.length < 6 * (xs.length / 6) + 6 := by omega
  obtain ⟨y, h2, e2, q2, I2⟩ := lp_for (b := B_lw_law_23 1000000 0 88 101) (f := FU) (s := (0 : Int32)) (h := tX xs hini) (fun i s h => s = J (6 * i : Nat) ∧ INV xs i h) (fun r h => r = Sum.inl () ∧ INV xs (xs.length / 6) h) (xs.length / 6) (by unfold FU; omega) ⟨by decide, INV_0 xs⟩ (fun i s h hi hI => by
      obtain ⟨rfl, I⟩ := hI
      obtain ⟨h', e, I'⟩ := law_b I (by omega) hx
      refine ⟨_, h', e, ?_, I'⟩
      rw [j_6, J_add]
      congr 1) (fun s h hI => by
      obtain ⟨rfl, I⟩ := hI
      refine ⟨Sum.inl (), h, ?_, rfl, I⟩
      obtain ⟨a, t, HA, HN, C, R, X⟩ := I
      have en : aN h 1000000 = some (J xs.length) := aN_J X.2.2.2.2.2.2.1 (by rw [X.2.2.2.2.2.2.2])
      have c : (J xs.length - (6 : Int32)) < J (6 * (xs.length / 6) : Nat) := by
        rw [j_6, J_sub, J_lt (by omega) (by omega) (by omega) (by omega)]
        omega
      unfold B_lw_law_23
      rw [bn_e en, if_pos c])
  subst q2
  obtain ⟨_, _, _, _, _, _, _, X2, X3, _⟩ := I2
  refine ⟨h2, ?_, by omega, by omega⟩
  rw [law_ini (ini_x xs), bd_e e2, ei_l1]
