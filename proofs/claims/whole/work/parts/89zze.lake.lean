/-! the class reads a lake -/
def Lz0 : Lk := fun _ _ => 0
theorem LW_z : LW Lz0 := by
  refine ⟨by decide, by decide, by decide, by decide, by decide, by decide, by decide, by decide, ?_, ?_, ?_, ?_, ?_, ?_, ?_, ?_⟩
  · intro i i0 i1; exact absurd (show i < 0 from i1) (by omega)
  · intro i i0 i1; exact ⟨show (0 : Int) ≤ 0 by omega, show (0 : Int) ≤ 30 by omega, fun _ => rfl⟩
  · intro i i0 i1; exact absurd (show i < 0 from i1) (by omega)
  · intro i i0 i1; exact absurd (show i < 0 from i1) (by omega)
  · intro i i0 i1; exact absurd (show i < 0 from i1) (by omega)
  · intro i i0 i1; exact absurd (show i < 0 from i1) (by omega)
  · intro i i0 i1; exact absurd (show i < 0 from i1) (by omega)
  · intro i i0 i1; exact absurd (show i < 0 from i1) (by omega)
theorem NW_z : NW Lz0 := ⟨⟨show (0 : Int) ≤ 0 by omega, show (0 : Int) ≤ 11 by omega⟩, fun i i0 i1 => absurd (show i < 0 from i1) (by omega)⟩
theorem NB_z : NB Lz0 := ⟨rfl, fun i i0 i1 => absurd (show i < 0 from i1) (by omega)⟩
theorem SD_z : SD Lz0 := fun i j i0 ij j1 => absurd (show j < 0 from j1) (by omega)
theorem C_clr {u : Nat} {h : Hp} (Ts : TS u h) (hu : u = 5 ∨ u = 26) : ∃ h', F_to_clear u h = some h' ∧ Fm u (u + 18) h h' ∧ TR Lz0 u h' ∧ fi h' u 2 = 0 := by
  obtain ⟨h1, r1⟩ : ∃ y, y = wF h u 0 0 := ⟨_, rfl⟩
  have f1 : Fm u (u + 18) h h1 := by rw [r1]; exact fm_wF (by omega) (by omega)
  have s1 : pI h u 10 0 (J 0) = some h1 := by rw [r1]; exact pI_J (TS_k Ts)
  have T1 := TS_fm f1 Ts
  obtain ⟨h2, r2⟩ : ∃ y, y = wF h1 u 1 0 := ⟨_, rfl⟩
  have f2 : Fm u (u + 18) h1 h2 := by rw [r2]; exact fm_wF (by omega) (by omega)
  have s2 : pI h1 u 10 1 (J 0) = some h2 := by rw [r2]; exact pI_J (TS_k T1)
  have T2 := TS_fm f2 T1
  obtain ⟨h3, r3⟩ : ∃ y, y = wF h2 u 2 0 := ⟨_, rfl⟩
  have f3 : Fm u (u + 18) h2 h3 := by rw [r3]; exact fm_wF (by omega) (by omega)
  have s3 : pI h2 u 10 2 (J 0) = some h3 := by rw [r3]; exact pI_J (TS_k T2)
  have T3 := TS_fm f3 T2
  obtain ⟨h4, r4⟩ : ∃ y, y = wF h3 u 5 0 := ⟨_, rfl⟩
  have f4 : Fm u (u + 18) h3 h4 := by rw [r4]; exact fm_wF (by omega) (by omega)
  have s4 : pI h3 u 10 5 (J 0) = some h4 := by rw [r4]; exact pI_J (TS_k T3)
  have T4 := TS_fm f4 T3
  obtain ⟨h5, r5⟩ : ∃ y, y = wF h4 u 8 0 := ⟨_, rfl⟩
  have f5 : Fm u (u + 18) h4 h5 := by rw [r5]; exact fm_wF (by omega) (by omega)
  have s5 : pI h4 u 10 8 (J 0) = some h5 := by rw [r5]; exact pI_J (TS_k T4)
  have T5 := TS_fm f5 T4
  obtain ⟨h6, r6⟩ : ∃ y, y = wF h5 u 11 0 := ⟨_, rfl⟩
  have f6 : Fm u (u + 18) h5 h6 := by rw [r6]; exact fm_wF (by omega) (by omega)
  have s6 : pI h5 u 10 11 (J 0) = some h6 := by rw [r6]; exact pI_J (TS_k T5)
  have T6 := TS_fm f6 T5
  obtain ⟨h7, r7⟩ : ∃ y, y = wF h6 u 14 0 := ⟨_, rfl⟩
  have f7 : Fm u (u + 18) h6 h7 := by rw [r7]; exact fm_wF (by omega) (by omega)
  have s7 : pI h6 u 10 14 (J 0) = some h7 := by rw [r7]; exact pI_J (TS_k T6)
  have T7 := TS_fm f7 T6
  obtain ⟨y, h8, e8, q8⟩ := lp_for (b := B_to_clear_37 u) (f := FU) (s := J 0) (h := h7) (fun q s h' => s = J q ∧ Fm u (u + 18) h7 h' ∧ (∀ k, fi h' u k = fi h7 u k) ∧ ∀ z : Int, 0 ≤ z → z < q → ia h' (u + 2) z = 0) (fun _ h' => Fm u (u + 18) h7 h' ∧ (∀ k, fi h' u k = fi h7 u k) ∧ ∀ z : Int, 0 ≤ z → z < 25 → ia h' (u + 2) z = 0) 25 (by unfold FU; omega) ⟨rfl, fm_rf _ _ _, fun _ => rfl, fun z z0 z1 => by omega⟩ (fun q s g hq hI => by
      obtain ⟨rfl, g2, g3, g4⟩ := hI
      have Tg := TS_fm g2 T7
      have n1 := TS_n4 Tg
      have ea := aN_J (TS_k4 Tg) n1
      have er := trf_4 Tg
      have es : sI g 100 (u + 2) (J q) (J 0) = some (wA g (u + 2) q 0) := sI_J (TS_k4 Tg) (by omega) (by omega) (by omega) (by omega)
      refine ⟨J ((q + 1 : Nat) : Int), wA g (u + 2) q 0, ?_, rfl, fm_tr g2 (fm_wA (by omega) (by omega)), fun k => g3 k, fun z z0 z1 => ?_⟩
      · unfold B_to_clear_37
        try simp only [j_0, j_1, j_2, j_3, j_4, j_5, j_6, j_7, j_8, j_9, j_10, j_11, j_12, j_13, j_14, j_15, j_16, j_17, j_18, j_19, j_20, j_21, j_22, j_23, j_24, j_25, j_26, j_27, j_28, j_29, j_30, j_31, j_32, j_33, j_34, j_35, j_36, j_37, j_38, j_39, j_40, j_41, j_42, j_43, j_44, j_45, j_46, j_47, j_48, j_49, j_50, j_51, j_52, j_57, j_59, j_63, j_74, j_75, j_93, j_97, j_99, j_100, j_122, j_200, j_255, j_300, j_465, j_496, j_900, j_999, j_1000, j_65536, j_65537, j_99999, j_252645135, j_858993459, j_1431655765, k_0, k_1, k_27, k_32, k_74, k_75, k_100, k_1000, k_65537]
        simp (disch := first | with_reducible assumption | omega | trivial) only [↓bn_s1, ↓bd_s1, ↓ei_l1, ↓ei_r1, ↓bn_if, ↓ilt_1, ↓ilt_0, ↓ieq_1, ↓ieq_0, bn_s1, bd_s1, ei_l1, ei_r1, J_add, J_sub, J_mul, J_neg, J_lt, J_le, J_eq, dv_J, rm_J, if_pos, if_neg, ↓reduceIte, bitJ, shlJ, orJ, j_0, j_1, j_2, j_3, j_4, j_5, j_6, j_7, j_8, j_9, j_10, j_11, j_12, j_13, j_14, j_15, j_16, j_17, j_18, j_19, j_20, j_21, j_22, j_23, j_24, j_25, j_26, j_27, j_28, j_29, j_30, j_31, j_32, j_33, j_34, j_35, j_36, j_37, j_38, j_39, j_40, j_41, j_42, j_43, j_44, j_45, j_46, j_47, j_48, j_49, j_50, j_51, j_52, j_57, j_59, j_63, j_74, j_75, j_93, j_97, j_99, j_100, j_122, j_200, j_255, j_300, j_465, j_496, j_900, j_999, j_1000, j_65536, j_65537, j_99999, j_252645135, j_858993459, j_1431655765, k_0, k_1, k_27, k_32, k_74, k_75, k_100, k_1000, k_65537, ↓bn_e (er), er, ↓bn_e (ea), ea, ↓bn_e (es), es]
        rfl
      · rw [ia_if (by omega) z0 (by omega) (by omega) (by omega)]
        by_cases e : z = q
        · rw [if_pos e]
        · rw [if_neg e]; exact g4 z z0 (by omega)) (fun s g hI => by
      obtain ⟨rfl, g2, g3, g4⟩ := hI
      have Tg := TS_fm g2 T7
      have ea := aN_J (TS_k4 Tg) (TS_n4 Tg)
      have er := trf_4 Tg
      refine ⟨(), g, ?_, g2, g3, fun z z0 z1 => g4 z z0 (by omega)⟩
      unfold B_to_clear_37
      try simp only [j_0, j_1, j_2, j_3, j_4, j_5, j_6, j_7, j_8, j_9, j_10, j_11, j_12, j_13, j_14, j_15, j_16, j_17, j_18, j_19, j_20, j_21, j_22, j_23, j_24, j_25, j_26, j_27, j_28, j_29, j_30, j_31, j_32, j_33, j_34, j_35, j_36, j_37, j_38, j_39, j_40, j_41, j_42, j_43, j_44, j_45, j_46, j_47, j_48, j_49, j_50, j_51, j_52, j_57, j_59, j_63, j_74, j_75, j_93, j_97, j_99, j_100, j_122, j_200, j_255, j_300, j_465, j_496, j_900, j_999, j_1000, j_65536, j_65537, j_99999, j_252645135, j_858993459, j_1431655765, k_0, k_1, k_27, k_32, k_74, k_75, k_100, k_1000, k_65537]
      simp (disch := first | with_reducible assumption | omega | trivial) only [↓bn_s1, ↓bd_s1, ↓ei_l1, ↓ei_r1, ↓bn_if, ↓ilt_1, ↓ilt_0, ↓ieq_1, ↓ieq_0, bn_s1, bd_s1, ei_l1, ei_r1, J_add, J_sub, J_mul, J_neg, J_lt, J_le, J_eq, dv_J, rm_J, if_pos, if_neg, ↓reduceIte, bitJ, shlJ, orJ, j_0, j_1, j_2, j_3, j_4, j_5, j_6, j_7, j_8, j_9, j_10, j_11, j_12, j_13, j_14, j_15, j_16, j_17, j_18, j_19, j_20, j_21, j_22, j_23, j_24, j_25, j_26, j_27, j_28, j_29, j_30, j_31, j_32, j_33, j_34, j_35, j_36, j_37, j_38, j_39, j_40, j_41, j_42, j_43, j_44, j_45, j_46, j_47, j_48, j_49, j_50, j_51, j_52, j_57, j_59, j_63, j_74, j_75, j_93, j_97, j_99, j_100, j_122, j_200, j_255, j_300, j_465, j_496, j_900, j_999, j_1000, j_65536, j_65537, j_99999, j_252645135, j_858993459, j_1431655765, k_0, k_1, k_27, k_32, k_74, k_75, k_100, k_1000, k_65537, ↓bn_e (er), er, ↓bn_e (ea), ea])
  obtain ⟨g8, k8, z8⟩ := q8
  have T8 := TS_fm g8 T7
  have y8 := trf_18 T8
  obtain ⟨h9, r9⟩ : ∃ y, y = wF h8 (u + 12) 0 0 := ⟨_, rfl⟩
  have f9 : Fm u (u + 18) h8 h9 := by rw [r9]; exact fm_wF (by omega) (by omega)
  have s9 : pI h8 (u + 12) 1 0 (J 0) = some h9 := by rw [r9]; exact pI_J (TS_ky T8)
  have T9 := TS_fm f9 T8
  have y9 := trf_18 T9
  obtain ⟨h10, r10⟩ : ∃ y, y = wF h9 (u + 12) 4 0 := ⟨_, rfl⟩
  have f10 : Fm u (u + 18) h9 h10 := by rw [r10]; exact fm_wF (by omega) (by omega)
  have s10 : pI h9 (u + 12) 1 4 (J 0) = some h10 := by rw [r10]; exact pI_J (TS_ky T9)
  have F := fm_tr f1 (fm_tr f2 (fm_tr f3 (fm_tr f4 (fm_tr f5 (fm_tr f6 (fm_tr f7 (fm_tr g8 (fm_tr f9 f10))))))))
  have k10 : ∀ k, fi h10 u k = fi h7 u k := fun k => by rw [r10, fi_ne (by omega), r9, fi_ne (by omega)]; exact k8 k
  have fz : ∀ k, k = 0 ∨ k = 1 ∨ k = 2 ∨ k = 5 ∨ k = 8 ∨ k = 11 ∨ k = 14 → fi h10 u k = 0 := fun k hk => by
    rw [k10, r7, r6, r5, r4, r3, r2, r1]
    rcases hk with rfl | rfl | rfl | rfl | rfl | rfl | rfl
    · rw [fi_ne (by omega), fi_ne (by omega), fi_ne (by omega), fi_ne (by omega), fi_ne (by omega), fi_ne (by omega)]; exact fi_same (by omega) (by omega)
    · rw [fi_ne (by omega), fi_ne (by omega), fi_ne (by omega), fi_ne (by omega), fi_ne (by omega)]; exact fi_same (by omega) (by omega)
    · rw [fi_ne (by omega), fi_ne (by omega), fi_ne (by omega), fi_ne (by omega)]; exact fi_same (by omega) (by omega)
    · rw [fi_ne (by omega), fi_ne (by omega), fi_ne (by omega)]; exact fi_same (by omega) (by omega)
    · rw [fi_ne (by omega), fi_ne (by omega)]; exact fi_same (by omega) (by omega)
    · rw [fi_ne (by omega)]; exact fi_same (by omega) (by omega)
    · exact fi_same (by omega) (by omega)
  have n2 := fz 2 (by omega)
  refine ⟨h10, ?_, F, ⟨⟨fz 0 (by omega), fz 1 (by omega), fz 5 (by omega), fz 8 (by omega), fz 11 (by omega), fz 14 (by omega), ?_, ?_⟩, ⟨0, n2, by omega, fun i hi => absurd (show (i : Int) < 0 from hi) (by omega)⟩, ?_, ?_, ?_, ?_, ?_, ?_, ?_, ?_⟩, n2⟩
  · unfold F_to_clear
    rw [ck_e (TS_k Ts)]
    try simp only [j_0, j_1, j_2, j_3, j_4, j_5, j_6, j_7, j_8, j_9, j_10, j_11, j_12, j_13, j_14, j_15, j_16, j_17, j_18, j_19, j_20, j_21, j_22, j_23, j_24, j_25, j_26, j_27, j_28, j_29, j_30, j_31, j_32, j_33, j_34, j_35, j_36, j_37, j_38, j_39, j_40, j_41, j_42, j_43, j_44, j_45, j_46, j_47, j_48, j_49, j_50, j_51, j_52, j_57, j_59, j_63, j_74, j_75, j_93, j_97, j_99, j_100, j_122, j_200, j_255, j_300, j_465, j_496, j_900, j_999, j_1000, j_65536, j_65537, j_99999, j_252645135, j_858993459, j_1431655765, k_0, k_1, k_27, k_32, k_74, k_75, k_100, k_1000, k_65537]
    simp (disch := first | with_reducible assumption | omega | trivial) only [↓bn_s1, ↓bd_s1, ↓ei_l1, ↓ei_r1, ↓bn_if, ↓ilt_1, ↓ilt_0, ↓ieq_1, ↓ieq_0, bn_s1, bd_s1, ei_l1, ei_r1, J_add, J_sub, J_mul, J_neg, J_lt, J_le, J_eq, dv_J, rm_J, if_pos, if_neg, ↓reduceIte, bitJ, shlJ, orJ, j_0, j_1, j_2, j_3, j_4, j_5, j_6, j_7, j_8, j_9, j_10, j_11, j_12, j_13, j_14, j_15, j_16, j_17, j_18, j_19, j_20, j_21, j_22, j_23, j_24, j_25, j_26, j_27, j_28, j_29, j_30, j_31, j_32, j_33, j_34, j_35, j_36, j_37, j_38, j_39, j_40, j_41, j_42, j_43, j_44, j_45, j_46, j_47, j_48, j_49, j_50, j_51, j_52, j_57, j_59, j_63, j_74, j_75, j_93, j_97, j_99, j_100, j_122, j_200, j_255, j_300, j_465, j_496, j_900, j_999, j_1000, j_65536, j_65537, j_99999, j_252645135, j_858993459, j_1431655765, k_0, k_1, k_27, k_32, k_74, k_75, k_100, k_1000, k_65537, ↓bn_e (s1), s1, ↓bn_e (s2), s2, ↓bn_e (s3), s3, ↓bn_e (s4), s4, ↓bn_e (s5), s5, ↓bn_e (s6), s6, ↓bn_e (s7), s7, ↓bd_e (e8), e8, ↓bn_e (y8), y8, ↓bn_e (s9), s9, ↓bn_e (y9), y9, ↓bn_e (s10), s10]
  · rw [r10, fi_ne (by omega), r9]; exact fi_same (by omega) (by omega)
  · rw [r10]; exact fi_same (by omega) (by omega)
  · intro i i0 i1; exact absurd (show i < 0 from i1) (by omega)
  · intro i i0 i1
    rw [r10, r9]
    exact z8 i i0 i1
  · intro i i0 i1; exact absurd (show i < 0 from i1) (by omega)
  · intro i i0 i1; exact absurd (show i < 0 from i1) (by omega)
  · intro i i0 i1; exact absurd (show i < 0 from i1) (by omega)
  · intro i i0 i1; exact absurd (show i < 0 from i1) (by omega)
  · intro i i0 i1; exact absurd (show i < 0 from i1) (by omega)
  · intro i i0 i1; exact absurd (show i < 0 from i1) (by omega)
/-- what reading leaves as it is: the told lake in use, all else but reader and tokens -/
def LF (t : Nat) (h h' : Hp) : Prop := Wc h h' ∧ (∀ x, (t ≤ x ∧ x < t + 18) → (∀ k, fi h' x k = fi h x k) ∧ (∀ z, ia h' x z = ia h x z)) ∧ Se (fun x => 44 ≤ x ∨ x < 2) h h' ∧ fR h' 2 3 = fR h 2 3 ∧ cn h' = cn h ∧ wd h' = wd h
theorem lf_tr {t : Nat} {h h1 h2 : Hp} (x : LF t h h1) (y : LF t h1 h2) : LF t h h2 := ⟨wc_tr x.1 y.1, fun a ha => ⟨fun k => ((y.2.1 a ha).1 k).trans ((x.2.1 a ha).1 k), fun z => ((y.2.1 a ha).2 z).trans ((x.2.1 a ha).2 z)⟩, se_tr x.2.2.1 y.2.2.1, y.2.2.2.1.trans x.2.2.2.1, y.2.2.2.2.1.trans x.2.2.2.2.1, y.2.2.2.2.2.trans x.2.2.2.2.2⟩
theorem lf_fm {t lo hi : Nat} {h h' : Hp} (x : Fm lo hi h h') (h1 : 2 ≤ lo) (h2 : hi ≤ 44) (hd : hi ≤ t ∨ t + 18 ≤ lo) : LF t h h' := ⟨wc_fm x (by omega), fun a ha => ⟨fun k => fm_fi x (by omega) k, fun z => fm_ia x (by omega) z⟩, se_fm x (fun a ha => by omega), by rw [fm_fR x], x.2.2.1, x.2.2.2.1⟩
theorem lf_cf {t : Nat} {h h' : Hp} (ht : t = 5 ∨ t = 26) (x : Cf (31 - t) h h') : LF t h h' := ⟨wc_fm x.1 (by omega), fun a ha => x.2 a (by omega) (by omega), se_fm x.1 (fun a ha => by omega), by rw [fm_fR x.1], x.1.2.2.1, x.1.2.2.2.1⟩
theorem lf_r30 {t : Nat} {h : Hp} {v : Option Nat} : LF t h (sFR h 3 0 v) := by
  refine ⟨wc_sR (by omega), fun a _ => ⟨fun _ => rfl, fun _ => rfl⟩, fun a ha => ⟨rfl, rfl, rfl, ?_, rfl, rfl⟩, rfl, rfl, rfl⟩
  funext k
  show (if a = 3 ∧ k = 0 then v else fR h a k) = fR h a k
  rw [if_neg (by omega)]
theorem C_read {t : Nat} {T : Int → Int} {n : Nat} {h : Hp} (V : XV t h) (X : TX T n h) (W : WR h) : (∀ p L, a_all T n (n + 1) Lz0 0 = .inl (p, L) → ∃ h', F_rd_read 2 1 (J n) h = some h' ∧ LF t h h' ∧ CP L (31 - t) T n h' ∧ ¬ L 1 0 = 0 ∧ fi h' 2 0 = 0 ∧ fi h' 2 1 = 0) ∧ (∀ f q, a_all T n (n + 1) Lz0 0 = .inr (f, q) → (1 ≤ f ∧ f ≤ 6 ∧ 0 ≤ q ∧ q ≤ n) ∧ ∃ h', F_rd_read 2 1 (J n) h = some h' ∧ LF t h h' ∧ fi h' 2 0 = f ∧ fi h' 2 1 = q) := by
  have ho := XV_o V
  obtain ⟨u, eu⟩ : ∃ u, u = 31 - t := ⟨_, rfl⟩
  have hu : u = 5 ∨ u = 26 := by omega
  have Ts : TS u h := by
    rcases hu with e | e
    · rw [e]; exact XV_t5 V
    · rw [e]; exact XV_t26 V
  have D := XV_d V
  have ru : fR h 2 3 = some u := by rw [eu]; exact XV_u V
  have n0 := X.1
  have gu0 : gR h 2 7 3 = some u := gR_e (DS_k D) ru
  obtain ⟨h1, e1, f1, R1, z1⟩ := C_clr Ts hu
  have D1 := DS_fm f1 D
  obtain ⟨h2, r2⟩ : ∃ y, y = wF h1 2 0 0 := ⟨_, rfl⟩
  have f2 : Fm 2 3 h1 h2 := by rw [r2]; exact fm_wF (by omega) (by omega)
  have s2 : pI h1 2 7 0 (0 : Int32) = some h2 := by rw [r2, j_0]; exact pI_J (DS_k D1)
  have D2 := DS_fm f2 D1
  obtain ⟨h3, r3⟩ : ∃ y, y = wF h2 2 1 0 := ⟨_, rfl⟩
  have f3 : Fm 2 3 h2 h3 := by rw [r3]; exact fm_wF (by omega) (by omega)
  have s3 : pI h2 2 7 1 (0 : Int32) = some h3 := by rw [r3, j_0]; exact pI_J (DS_k D2)
  have D3 := DS_fm f3 D2
  obtain ⟨h4, r4⟩ : ∃ y, y = wF h3 2 4 0 := ⟨_, rfl⟩
  have f4 : Fm 2 3 h3 h4 := by rw [r4]; exact fm_wF (by omega) (by omega)
  have s4 : pZ h3 2 7 4 (0 : Int32) = some h4 := by rw [r4, j_0]; exact pZ_e (DS_k D3) (by decide)
  have D4 := DS_fm f4 D3
  obtain ⟨h5, r5⟩ : ∃ y, y = wF h4 2 5 0 := ⟨_, rfl⟩
  have f5 : Fm 2 3 h4 h5 := by rw [r5]; exact fm_wF (by omega) (by omega)
  have s5 : pI h4 2 7 5 (0 : Int32) = some h5 := by rw [r5, j_0]; exact pI_J (DS_k D4)
  have D5 := DS_fm f5 D4
  have F25 : Fm 2 3 h1 h5 := fm_tr f2 (fm_tr f3 (fm_tr f4 f5))
  obtain ⟨h6, r6⟩ : ∃ y, y = sFR h5 3 0 (some 1) := ⟨_, rfl⟩
  have s6 : pR h5 3 9 0 (some 1) = some h6 := by rw [r6]; exact pR_e (DS_kt D5)
  have l5 : LF t h h5 := lf_tr (lf_fm f1 (by omega) (by omega) (by omega)) (lf_fm F25 (by omega) (by omega) (by omega))
  have l6 : LF t h h6 := lf_tr l5 (by rw [r6]; exact lf_r30)
  have D6 := DS_wc l6.1 D
  have k1 : kd h6 1 = 101 := by rw [wc_kd l6.1 (by omega)]; exact XS_k0 (XV_x V)
  have n1 : (iA h6 1).length = 1000 := by rw [wc_len l6.1 (by omega)]; exact XS_n0 (XV_x V)
  have r30 : fR h6 3 0 = some 1 := by rw [r6]; show (if 3 = 3 ∧ 0 = 0 then some 1 else fR h5 3 0) = some 1; rw [if_pos ⟨rfl, rfl⟩]
  have g30 : gR h6 3 9 0 = some 1 := gR_e (DS_kt D6) r30
  have ea : aN h6 1 = some (J 1000) := by
    unfold aN
    rw [if_pos (Or.inr k1), n1]
    decide
  have em : F_ma_min (J n) (J 1000) = some (J n) := by
    rw [min_e (by omega) (by omega) (by omega) (by omega), show min (n : Int) 1000 = n by omega]
  obtain ⟨h7, r7⟩ : ∃ y, y = wF h6 3 1 n := ⟨_, rfl⟩
  have f7 : Fm 3 4 h6 h7 := by rw [r7]; exact fm_wF (by omega) (by omega)
  have s7 : pI h6 3 9 1 (J n) = some h7 := by rw [r7]; exact pI_J (DS_kt D6)
  have D7 := DS_fm f7 D6
  obtain ⟨h8, r8⟩ : ∃ y, y = wF h7 3 2 0 := ⟨_, rfl⟩
  have f8 : Fm 3 4 h7 h8 := by rw [r8]; exact fm_wF (by omega) (by omega)
  have s8 : pI h7 3 9 2 (0 : Int32) = some h8 := by rw [r8, j_0]; exact pI_J (DS_kt D7)
  have F78 := fm_tr f7 f8
  have D8 := DS_fm F78 D6
  have Q8 : TK h8 := ⟨DS_kt D8, by rw [fm_fR F78]; exact r30, by rw [fm_kd F78]; exact k1, by rw [fm_len F78]; exact n1⟩
  have X8 : TX T n h8 := ⟨X.1, X.2.1, fun i i0 i1 => by rw [fm_ia F78 (by omega), se_ia l6.2.2.1 (by omega)]; exact X.2.2 i i0 i1⟩
  obtain ⟨h9, e9, f9, c9⟩ := C_adv (p := 0) Q8 X8 (by rw [r8, fi_ne (by omega), r7]; exact fi_same (by omega) (by omega)) (by omega) (by rw [r8]; exact fi_same (by omega) (by omega))
  have F9 := fm_tr F78 f9
  have l9 : LF t h h9 := lf_tr l6 (lf_fm F9 (by omega) (by omega) (by omega))
  have io : ∀ x, u ≤ x ∧ x < u + 18 → (∀ k, fi h9 x k = fi h1 x k) ∧ (∀ z, ia h9 x z = ia h1 x z) := fun x hx => by
    refine ⟨fun k => ?_, fun z => ?_⟩
    · rw [fm_fi F9 (by omega), r6]
      show fi h5 x k = _
      rw [fm_fi F25 (by omega)]
    · rw [fm_ia F9 (by omega), r6]
      show ia h5 x z = _
      rw [fm_ia F25 (by omega)]
  have T9 : TS u h9 := TS_wc l9.1 (by omega) Ts
  have v2 : ∀ k, k ≠ 3 → fi h9 2 k = fi h5 2 k := fun k _ => by rw [fm_fi F9 (by omega), r6]; rfl
  have C9 : CP Lz0 u T n h9 := by
    refine ⟨⟨⟨DS_kt (DS_wc l9.1 D), by rw [fm_fR F9]; exact r30, by rw [fm_kd F9]; exact k1, by rw [fm_len F9]; exact n1⟩, TX_fm f9 (by omega) X8, WR_wc l9.1 W, DS_wc l9.1 D⟩, T9, by rw [l9.2.2.2.1]; exact ru, hu, LW_z, NW_z, ?_, ⟨0, ?_, by decide⟩, ⟨?_, ?_, fun i i0 i1 => absurd (show i < 0 from i1) (by omega)⟩, Or.inl rfl⟩
    · have f : ∀ x, u ≤ x ∧ x < u + 18 → ∀ k, fi h9 x k = fi h1 x k := fun x hx => (io x hx).1
      have g : ∀ x, u ≤ x ∧ x < u + 18 → ∀ k, ia h9 x k = ia h1 x k := fun x hx => (io x hx).2
      unfold TR at R1 ⊢
      simp (disch := omega) only [f, g]
      exact R1
    · rw [(io u (by omega)).1]; exact z1
    · rw [v2 5 (by omega), r5]; exact fi_same (by omega) (by omega)
    · rw [v2 4 (by omega), r5, fi_ne (by omega), r4]; exact fi_same (by omega) (by omega)
  have v20 : fi h9 2 0 = 0 := by rw [v2 0 (by omega), r5, fi_ne (by omega), r4, fi_ne (by omega), r3, fi_ne (by omega), r2]; exact fi_same (by omega) (by omega)
  have v21 : fi h9 2 1 = 0 := by rw [v2 1 (by omega), r5, fi_ne (by omega), r4, fi_ne (by omega), r3]; exact fi_same (by omega) (by omega)
  have es : F_tk_start 3 1 (J n) h5 = some h9 := by
    unfold F_tk_start
    rw [ck_e (DS_kt D5), bn_e s6, bn_e g30, bn_e ea, bn_e em, bn_e s7, bn_e s8, bn_e e9]
  have ef : F_rd_read 2 1 (J n) h = bd (lp (B_rd_read_41 2) FU ((1 : Int32), (0 : Int32)) h9) Cfin := by
    unfold F_rd_read
    rw [ck_e (DS_k D), bn_e gu0, bn_e e1, bn_e s2, bn_e s3, bn_e s4, bn_e s5, bn_e (d_r2 D5), bn_e es]
    rfl
  have CA := C_all (n + 1) 0 Lz0 h9 0 FU (by omega) (by omega) n0 (by omega) (by unfold FU; omega) C9 NB_z SD_z c9
  rw [show J ((0 : Nat) : Int) = (0 : Int32) by decide, ← ef] at CA
  rw [← eu]
  constructor
  · intro p L e
    obtain ⟨h', q1, q2, q3, q4, q5, q6⟩ := CA.1 p L e
    rw [eu] at q2
    exact ⟨h', q1, lf_tr l9 (lf_cf ho q2), q3, q4, q5.trans v20, q6.trans v21⟩
  · intro f q e
    obtain ⟨b, h', q1, q2, q3⟩ := CA.2 f q e
    rw [eu] at q2
    exact ⟨b, h', q1, lf_tr l9 (lf_cf ho q2), q3⟩
