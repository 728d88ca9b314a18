/-! acts: what changes the state -/
def mk (a : Ab) (S : Sk) (P : Nat → Sk) (n : Nat) (G : Nat → Sk) (m : Nat) : Ab := (qL a, S, P, n, G, m, qT a, qtp a, qtr a, qfa a, qpl a)
def kpd (a : Ab) : Ab := mk a (qS a) (kpP (qP a) (qn a) (qS a)) (min (qn a + 1) 16) (qG a) (qm a)
def sS (a : Ab) (S : Sk) : Ab := mk a S (qP a) (qn a) (qG a) (qm a)
def acx (a : Ab) (S : Sk) : Ab := sTr (sS (kpd a) S) 0
def Ca (o : Option (Int32 × Hp)) (h : Hp) (v : Int) (a : Ab) (t : Nat) : Prop := ∃ h', o = some (J v, h') ∧ Fm 0 88 h h' ∧ CI a t h'
def Da (o : Option (Int32 × Hp)) (h : Hp) (v : Int) (a : Ab) : Prop := ∃ h', o = some (J v, h') ∧ Fm 88 102 h h' ∧ RI a h'
theorem ca_q {a : Ab} {t : Nat} {o : Option (Int32 × Hp)} {h : Hp} {v tr : Int} (H : CI a t h) (Q : Cq o h v tr) : Ca o h v (sTr a tr) t := by
  obtain ⟨h', e, s, g⟩ := Q
  exact ⟨h', e, s.1, CI_q s g H⟩
theorem da_q {a : Ab} {o : Option (Int32 × Hp)} {h : Hp} {v tr : Int} (H : RI a h) (t4 : tr ≠ 4) (Q : Dq o h v tr) : Da o h v (sTr a tr) := by
  obtain ⟨h', e, q, f1, f2⟩ := Q
  exact ⟨h', e, q.1, RI_q q f1 f2 t4 H⟩
theorem CI_n {a : Ab} {t lo hi : Nat} {h h' : Hp} (x : Fm lo hi h h') (hl : 44 ≤ lo) (hh : hi ≤ 88) (H : CI a t h) {S : Sk} {P : Nat → Sk} {n : Nat} {G : Nat → Sk} {m : Nat} (S' : SR (qL a) 44 S h') (M' : MR (qL a) P n G m h') : CI (mk a S P n G m) t h' := by
  obtain ⟨a1, a2, a3, a4, a5, a6, a7, a8, a9⟩ := H
  have o := XV_o a1
  refine ⟨XV_fm x (by omega) a1, TR_fm x (by omega) a2, S', M', ?_, ?_, ?_, ?_, fun i i0 i1 => ?_⟩
  · rw [fm_fi x (by omega)]; exact a5
  · rw [fm_fi x (by omega)]; exact a6
  · rw [fm_fi x (by omega)]; exact a7
  · rw [fm_fi x (by omega)]; exact a8
  · rw [fm_ia x (by omega)]; exact a9 i i0 i1
theorem C_kept {a : Ab} {t : Nat} {h : Hp} (HA : AW a) (H : CI a t h) : ∃ h', F_me_keep 54 44 h = some h' ∧ Fm 54 56 h h' ∧ CI (kpd a) t h' := by
  have V := H.1
  obtain ⟨h1, e1, f1, m1⟩ := C_keep HA.1 (XV_e V) (XV_s44 V) H.2.2.1 H.2.2.2.1
  exact ⟨h1, e1, f1, CI_n f1 (by omega) (by omega) H (SR_fm f1 (by omega) H.2.2.1) m1⟩
theorem CI_S {a : Ab} {t lo hi : Nat} {h h' : Hp} {S : Sk} (x : Fm lo hi h h') (hl : 44 ≤ lo) (hh : hi ≤ 54) (H : CI a t h) (S' : SR (qL a) 44 S h') : CI (sS a S) t h' := CI_n x hl (by omega) H S' (MR_fm x (by omega) H.2.2.2.1)
theorem SG_kp {a : Ab} (HA : AW a) : ∀ j, j < min (qn a + 1) 16 → SG (qL a) (kpP (qP a) (qn a) (qS a) j) := by
  intro j hj
  unfold kpP
  by_cases c : qn a < 16
  · rw [if_pos c]
    show SG (qL a) (if j = qn a then qS a else qP a j)
    by_cases d : j = qn a
    · rw [if_pos d]; exact HA.2.1
    · rw [if_neg d]; exact HA.2.2.1 j (by omega)
  · rw [if_neg c]
    show SG (qL a) (if j = 15 then qS a else qP a (j + 1))
    by_cases d : j = 15
    · rw [if_pos d]; exact HA.2.1
    · rw [if_neg d]; exact HA.2.2.1 (j + 1) (by omega)
theorem AW_mk {a : Ab} {S : Sk} {P : Nat → Sk} {n : Nat} {G : Nat → Sk} {m : Nat} (HA : AW a) (hS : SG (qL a) S) (hP : ∀ j, j < n → SG (qL a) (P j)) (hG : ∀ j, j < m → SG (qL a) (G j)) : AW (mk a S P n G m) := by
  obtain ⟨a1, a2, a3, a4, a5, a6, a7, a8, a9⟩ := HA
  exact ⟨a1, hS, hP, hG, a5, a6, a7, a8, a9⟩
theorem AW_kpd {a : Ab} (HA : AW a) : AW (kpd a) := AW_mk HA HA.2.1 (SG_kp HA) HA.2.2.2.1
theorem AW_sS {a : Ab} {S : Sk} (HA : AW a) (hS : SG (qL a) S) : AW (sS a S) := AW_mk HA hS HA.2.2.1 HA.2.2.2.1
theorem AW_acx {a : Ab} {S : Sk} (HA : AW a) (hS : SG (qL a) S) : AW (acx a S) := AW_w (by omega) (AW_sS (AW_kpd HA) hS)
/-! the reference's rows -/
theorem RI_n {a : Ab} {h h' : Hp} (x : Fm 88 102 h h') (H : RI a h) {S : Sk} {P : Nat → Sk} {n : Nat} {G : Nat → Sk} {m : Nat} (f1 : fi h' 88 1 = fi h 88 1) (f2 : fi h' 88 2 = fi h 88 2) (f6 : fi h' 88 6 = fi h 88 6) (f12 : fi h' 88 12 = fi h 88 12) (i89 : ∀ z, ia h' 89 z = ia h 89 z) (v90 : ∀ i, 0 ≤ i → i < 31 → ia h' 90 i = S i) (f19 : fi h' 88 19 = n) (v92 : ∀ j : Nat, j < n → ∀ i, 0 ≤ i → i < 31 → ia h' 92 (31 * j + i) = P j i) (f20 : fi h' 88 20 = m) (v93 : ∀ j : Nat, j < m → ∀ i, 0 ≤ i → i < 31 → ia h' 93 (31 * j + i) = G j i) (n16 : n ≤ 16) (m3 : m ≤ 3) : RI (mk a S P n G m) h' := by
  obtain ⟨a1, a2, a3, ⟨a4, a4'⟩, ⟨a5, a5'⟩, ⟨a6, a6'⟩, a7, a8, a9, a10, a11⟩ := H
  refine ⟨MS_fm x a1, RLk_fm x (by omega) a2, v90, ⟨f19, v92⟩, ⟨f20, v93⟩, ⟨f6.trans a6, fun i i0 i1 => ?_⟩, f1.trans a7, f12.trans a8, f2.trans a9, n16, m3⟩
  rw [i89]; exact a6' i i0 i1
theorem RI_w90 {a : Ab} {h : Hp} {z v : Int} (H : RI a h) (h0 : 0 ≤ z) (h1 : z < 31) (hv : -2147483648 ≤ v ∧ v < 2147483648) : RI (sS a (upS (qS a) z v)) (wA h 90 z v) := by
  have n := MS_n15 H.1
  refine RI_n (fm_wA (by omega) (by omega)) H rfl rfl rfl rfl (fun y => by rw [ia_wA (by omega)]) (fun i i0 i1 => ?_) H.2.2.2.1.1 (fun j hj i i0 i1 => ?_) H.2.2.2.2.1.1 (fun j hj i i0 i1 => ?_) H.2.2.2.2.2.2.2.2.2.1 H.2.2.2.2.2.2.2.2.2.2
  · rw [ia_if h0 i0 (by omega) hv.1 hv.2]
    unfold upS
    by_cases e : i = z
    · rw [if_pos e, if_pos e]
    · rw [if_neg e, if_neg e]; exact H.2.2.1 i i0 i1
  · rw [ia_wA (by omega)]; exact H.2.2.2.1.2 j hj i i0 i1
  · rw [ia_wA (by omega)]; exact H.2.2.2.2.1.2 j hj i i0 i1
theorem D_remembers {a : Ab} {h : Hp} (H : RI a h) : ∃ h', F_md_remembers 88 h = some h' ∧ Fm 88 102 h h' ∧ RI (kpd a) h' := by
  have M := H.1
  have n16 := H.2.2.2.2.2.2.2.2.2.1
  have v19 := H.2.2.2.1.1
  have v92 := H.2.2.2.1.2
  have v90 := H.2.2.1
  -- the shift
  have sh : ∃ h1, (if J (qn a : Nat) = J 16 then (bd (lp (B_md_remembers_11 88) FU (J 0) h) fun x11 h13 => bn (gI h13 88 13 19) fun x14 => bn (pI h13 88 13 19 (x14 - J 1)) fun h16 => some h16) else some h) = some h1 ∧ Fm 88 102 h h1 ∧ (∀ k, k ≠ 19 → fi h1 88 k = fi h 88 k) ∧ (∀ y, y ≠ 92 → ∀ z, ia h1 y z = ia h y z) ∧ fi h1 88 19 = ((min (qn a) 15 : Nat) : Int) ∧ ∀ j : Nat, j < min (qn a) 15 → ∀ i, 0 ≤ i → i < 31 → ia h1 92 (31 * j + i) = (if qn a < 16 then qP a j else qP a (j + 1)) i := by
    by_cases c : qn a < 16
    · rw [ieq_0 (by omega) (by omega) (by omega) (by omega) (by omega)]
      refine ⟨h, rfl, fm_rf _ _ _, fun _ _ => rfl, fun _ _ _ => rfl, by rw [v19]; omega, fun j hj i i0 i1 => ?_⟩
      rw [if_pos c]; exact v92 j (by omega) i i0 i1
    · have e16 : qn a = 16 := by omega
      rw [ieq_1 (by omega)]
      obtain ⟨y, h1, e1, f1, x1⟩ := lp_for (b := B_md_remembers_11 88) (f := FU) (s := J 0) (h := h) (fun k s h' => s = J k ∧ Fm 92 93 h h' ∧ ∀ z : Int, 0 ≤ z → z < 496 → ia h' 92 z = if z < k then ia h 92 (z + 31) else ia h 92 z) (fun _ h' => Fm 92 93 h h' ∧ ∀ z : Int, 0 ≤ z → z < 465 → ia h' 92 z = ia h 92 (z + 31)) 465 (by unfold FU; omega) ⟨rfl, fm_rf _ _ _, fun z z0 z1 => by rw [if_neg (by omega)]⟩ (fun k s h1 hk hI => by
          obtain ⟨rfl, f1, x1⟩ := hI
          have M1 := MS_fm f1 M
          have n := MS_n17 M1
          have vk := x1 (k + 31) (by omega) (by omega)
          rw [if_neg (by omega)] at vk
          have rg := ia_rg h 92 ((k : Int) + 31)
          refine ⟨J (k + 1 : Nat), wA h1 92 k (ia h 92 (k + 31)), ?_, rfl, fm_tr f1 (fm_wA (by omega) (by omega)), fun z z0 z1 => ?_⟩
          · unfold B_md_remembers_11
            try simp only [j_0, j_1, j_2, j_3, j_4, j_5, j_6, j_7, j_8, j_9, j_10, j_11, j_12, j_13, j_14, j_15, j_16, j_17, j_18, j_19, j_20, j_21, j_22, j_23, j_24, j_25, j_26, j_27, j_28, j_29, j_30, j_31, j_32, j_33, j_34, j_35, j_36, j_37, j_38, j_39, j_40, j_41, j_42, j_43, j_44, j_45, j_46, j_47, j_48, j_49, j_50, j_51, j_52, j_57, j_59, j_63, j_74, j_75, j_93, j_97, j_99, j_100, j_122, j_200, j_255, j_300, j_465, j_496, j_900, j_999, j_1000, j_65536, j_65537, j_99999, j_252645135, j_858993459, j_1431655765, k_0, k_1, k_27, k_32, k_74, k_75, k_100, k_1000, k_65537]
            simp (disch := first | with_reducible assumption | omega | trivial) only [↓bn_s1, ↓bd_s1, ↓ei_l1, ↓ei_r1, ↓bn_if, ↓ilt_1, ↓ilt_0, ↓ieq_1, ↓ieq_0, bn_s1, bd_s1, ei_l1, ei_r1, J_add, J_sub, J_mul, J_neg, J_lt, J_le, J_eq, dv_J, rm_J, if_pos, if_neg, ↓reduceIte, bitJ, shlJ, orJ, j_0, j_1, j_2, j_3, j_4, j_5, j_6, j_7, j_8, j_9, j_10, j_11, j_12, j_13, j_14, j_15, j_16, j_17, j_18, j_19, j_20, j_21, j_22, j_23, j_24, j_25, j_26, j_27, j_28, j_29, j_30, j_31, j_32, j_33, j_34, j_35, j_36, j_37, j_38, j_39, j_40, j_41, j_42, j_43, j_44, j_45, j_46, j_47, j_48, j_49, j_50, j_51, j_52, j_57, j_59, j_63, j_74, j_75, j_93, j_97, j_99, j_100, j_122, j_200, j_255, j_300, j_465, j_496, j_900, j_999, j_1000, j_65536, j_65537, j_99999, j_252645135, j_858993459, j_1431655765, k_0, k_1, k_27, k_32, k_74, k_75, k_100, k_1000, k_65537, m_i M1, ↓m_i_b M1, m_p M1, ↓m_p_b M1, m_l M1, ↓m_l_b M1, m_pl M1, ↓m_pl_b M1, mr_15 M1, ↓mr_15_b M1, mr_16 M1, ↓mr_16_b M1, mr_17 M1, ↓mr_17_b M1, mr_18 M1, ↓mr_18_b M1, mr_21 M1, ↓mr_21_b M1, mr_22 M1, ↓mr_22_b M1, mr_23 M1, ↓mr_23_b M1, mr_24 M1, ↓mr_24_b M1, mr_25 M1, ↓mr_25_b M1, mr_30 M1, ↓mr_30_b M1, mr_31 M1, ↓mr_31_b M1, m90a M1, ↓m90a_b M1, m90s M1, ↓m90s_b M1, m91a M1, ↓m91a_b M1, m91s M1, ↓m91s_b M1, m92a M1, ↓m92a_b M1, m92s M1, ↓m92s_b M1, m93a M1, ↓m93a_b M1, m93s M1, ↓m93s_b M1, m94a M1, ↓m94a_b M1, m94s M1, ↓m94s_b M1, m95a M1, ↓m95a_b M1, m95s M1, ↓m95s_b M1, m96a M1, ↓m96a_b M1, m96s M1, ↓m96s_b M1, m97a M1, ↓m97a_b M1, m97s M1, ↓m97s_b M1, m98a M1, ↓m98a_b M1, m98s M1, ↓m98s_b M1, m99a M1, ↓m99a_b M1, m99s M1, ↓m99s_b M1, m100a M1, ↓m100a_b M1, m100s M1, ↓m100s_b M1, vk]
            rfl
          · rw [ia_if (by omega) z0 (by omega) rg.1 rg.2]
            by_cases e : z = k
            · rw [if_pos e, if_pos (by omega), e]
            · rw [if_neg e, x1 z z0 z1]
              by_cases e' : z < k
              · rw [if_pos e', if_pos (by omega)]
              · rw [if_neg e', if_neg (by omega)]) (fun s h1 hI => by
          obtain ⟨rfl, f1, x1⟩ := hI
          refine ⟨(), h1, ?_, f1, fun z z0 z1 => by rw [x1 z z0 (by omega), if_pos (by omega)]⟩
          unfold B_md_remembers_11
          try simp only [j_0, j_1, j_2, j_3, j_4, j_5, j_6, j_7, j_8, j_9, j_10, j_11, j_12, j_13, j_14, j_15, j_16, j_17, j_18, j_19, j_20, j_21, j_22, j_23, j_24, j_25, j_26, j_27, j_28, j_29, j_30, j_31, j_32, j_33, j_34, j_35, j_36, j_37, j_38, j_39, j_40, j_41, j_42, j_43, j_44, j_45, j_46, j_47, j_48, j_49, j_50, j_51, j_52, j_57, j_59, j_63, j_74, j_75, j_93, j_97, j_99, j_100, j_122, j_200, j_255, j_300, j_465, j_496, j_900, j_999, j_1000, j_65536, j_65537, j_99999, j_252645135, j_858993459, j_1431655765, k_0, k_1, k_27, k_32, k_74, k_75, k_100, k_1000, k_65537]
          simp (disch := first | with_reducible assumption | omega | trivial) only [↓bn_s1, ↓bd_s1, ↓ei_l1, ↓ei_r1, ↓bn_if, ↓ilt_1, ↓ilt_0, ↓ieq_1, ↓ieq_0, bn_s1, bd_s1, ei_l1, ei_r1, J_add, J_sub, J_mul, J_neg, J_lt, J_le, J_eq, dv_J, rm_J, if_pos, if_neg, ↓reduceIte, bitJ, shlJ, orJ, j_0, j_1, j_2, j_3, j_4, j_5, j_6, j_7, j_8, j_9, j_10, j_11, j_12, j_13, j_14, j_15, j_16, j_17, j_18, j_19, j_20, j_21, j_22, j_23, j_24, j_25, j_26, j_27, j_28, j_29, j_30, j_31, j_32, j_33, j_34, j_35, j_36, j_37, j_38, j_39, j_40, j_41, j_42, j_43, j_44, j_45, j_46, j_47, j_48, j_49, j_50, j_51, j_52, j_57, j_59, j_63, j_74, j_75, j_93, j_97, j_99, j_100, j_122, j_200, j_255, j_300, j_465, j_496, j_900, j_999, j_1000, j_65536, j_65537, j_99999, j_252645135, j_858993459, j_1431655765, k_0, k_1, k_27, k_32, k_74, k_75, k_100, k_1000, k_65537])
      have M1 := MS_fm f1 M
      have w19 : fi h1 88 19 = 16 := by rw [fm_fi f1 (by omega), v19, e16]; rfl
      refine ⟨wF h1 88 19 15, ?_, fm_tr (fm_wd f1 (by omega) (by omega)) (fm_wF (by omega) (by omega)), fun k hk => by rw [fi_ne (Or.inr hk), fm_fi f1 (by omega)], fun y hy z => by show ia h1 y z = _; rw [fm_ia f1 (by omega)], by rw [fi_same (by omega) (by omega), e16]; rfl, fun j hj i i0 i1 => ?_⟩
      · rw [e1]
        simp (disch := first | with_reducible assumption | omega | trivial) only [↓bn_s1, ↓bd_s1, ↓ei_l1, ↓ei_r1, ↓bn_if, ↓ilt_1, ↓ilt_0, ↓ieq_1, ↓ieq_0, bn_s1, bd_s1, ei_l1, ei_r1, J_add, J_sub, J_mul, J_neg, J_lt, J_le, J_eq, dv_J, rm_J, if_pos, if_neg, ↓reduceIte, bitJ, shlJ, orJ, j_0, j_1, j_2, j_3, j_4, j_5, j_6, j_7, j_8, j_9, j_10, j_11, j_12, j_13, j_14, j_15, j_16, j_17, j_18, j_19, j_20, j_21, j_22, j_23, j_24, j_25, j_26, j_27, j_28, j_29, j_30, j_31, j_32, j_33, j_34, j_35, j_36, j_37, j_38, j_39, j_40, j_41, j_42, j_43, j_44, j_45, j_46, j_47, j_48, j_49, j_50, j_51, j_52, j_57, j_59, j_63, j_74, j_75, j_93, j_97, j_99, j_100, j_122, j_200, j_255, j_300, j_465, j_496, j_900, j_999, j_1000, j_65536, j_65537, j_99999, j_252645135, j_858993459, j_1431655765, k_0, k_1, k_27, k_32, k_74, k_75, k_100, k_1000, k_65537, m_i M1, ↓m_i_b M1, m_p M1, ↓m_p_b M1, m_l M1, ↓m_l_b M1, m_pl M1, ↓m_pl_b M1, mr_15 M1, ↓mr_15_b M1, mr_16 M1, ↓mr_16_b M1, mr_17 M1, ↓mr_17_b M1, mr_18 M1, ↓mr_18_b M1, mr_21 M1, ↓mr_21_b M1, mr_22 M1, ↓mr_22_b M1, mr_23 M1, ↓mr_23_b M1, mr_24 M1, ↓mr_24_b M1, mr_25 M1, ↓mr_25_b M1, mr_30 M1, ↓mr_30_b M1, mr_31 M1, ↓mr_31_b M1, m90a M1, ↓m90a_b M1, m90s M1, ↓m90s_b M1, m91a M1, ↓m91a_b M1, m91s M1, ↓m91s_b M1, m92a M1, ↓m92a_b M1, m92s M1, ↓m92s_b M1, m93a M1, ↓m93a_b M1, m93s M1, ↓m93s_b M1, m94a M1, ↓m94a_b M1, m94s M1, ↓m94s_b M1, m95a M1, ↓m95a_b M1, m95s M1, ↓m95s_b M1, m96a M1, ↓m96a_b M1, m96s M1, ↓m96s_b M1, m97a M1, ↓m97a_b M1, m97s M1, ↓m97s_b M1, m98a M1, ↓m98a_b M1, m98s M1, ↓m98s_b M1, m99a M1, ↓m99a_b M1, m99s M1, ↓m99s_b M1, m100a M1, ↓m100a_b M1, m100s M1, ↓m100s_b M1, w19]
        rfl
      · show ia h1 92 (31 * j + i) = _
        rw [x1 _ (by omega) (by omega), if_neg c]
        have := v92 (j + 1) (by omega) i i0 i1
        rw [← this]
        congr 1
        omega
  obtain ⟨h1, e1, f1, k1, y1, w19, x1⟩ := sh
  have M1 := MS_fm f1 M
  obtain ⟨q, hq⟩ : ∃ q, q = min (qn a) 15 := ⟨_, rfl⟩
  rw [← hq] at w19 x1
  have v90' : ∀ i, 0 ≤ i → i < 31 → ia h1 90 i = qS a i := fun i i0 i1 => by rw [y1 90 (by omega)]; exact v90 i i0 i1
  obtain ⟨y, h2, e2, f2, x2⟩ := lp_for (b := B_md_remembers_51 88) (f := FU) (s := J 0) (h := h1) (fun k s h' => s = J k ∧ Fm 92 93 h1 h' ∧ ∀ z : Int, 0 ≤ z → z < 496 → ia h' 92 z = if 31 * (q : Int) ≤ z ∧ z < 31 * q + k then qS a (z - 31 * q) else ia h1 92 z) (fun _ h' => Fm 92 93 h1 h' ∧ ∀ z : Int, 0 ≤ z → z < 496 → ia h' 92 z = if 31 * (q : Int) ≤ z ∧ z < 31 * q + 31 then qS a (z - 31 * q) else ia h1 92 z) 31 (by unfold FU; omega) ⟨rfl, fm_rf _ _ _, fun z z0 z1 => by rw [if_neg (by omega)]⟩ (fun k s h2 hk hI => by
      obtain ⟨rfl, f2, x2⟩ := hI
      have M2 := MS_fm f2 M1
      have n := MS_n17 M2
      have u19 : fi h2 88 19 = q := by rw [fm_fi f2 (by omega)]; exact w19
      have u90 : ia h2 90 k = qS a k := by rw [fm_ia f2 (by omega)]; exact v90' k (by omega) (by omega)
      have rg : -2147483648 ≤ qS a k ∧ qS a k < 2147483648 := by rw [← u90]; exact ia_rg h2 90 k
      refine ⟨J (k + 1 : Nat), wA h2 92 (31 * q + k) (qS a k), ?_, rfl, fm_tr f2 (fm_wA (by omega) (by omega)), fun z z0 z1 => ?_⟩
      · unfold B_md_remembers_51
        try simp only [j_0, j_1, j_2, j_3, j_4, j_5, j_6, j_7, j_8, j_9, j_10, j_11, j_12, j_13, j_14, j_15, j_16, j_17, j_18, j_19, j_20, j_21, j_22, j_23, j_24, j_25, j_26, j_27, j_28, j_29, j_30, j_31, j_32, j_33, j_34, j_35, j_36, j_37, j_38, j_39, j_40, j_41, j_42, j_43, j_44, j_45, j_46, j_47, j_48, j_49, j_50, j_51, j_52, j_57, j_59, j_63, j_74, j_75, j_93, j_97, j_99, j_100, j_122, j_200, j_255, j_300, j_465, j_496, j_900, j_999, j_1000, j_65536, j_65537, j_99999, j_252645135, j_858993459, j_1431655765, k_0, k_1, k_27, k_32, k_74, k_75, k_100, k_1000, k_65537]
        simp (disch := first | with_reducible assumption | omega | trivial) only [↓bn_s1, ↓bd_s1, ↓ei_l1, ↓ei_r1, ↓bn_if, ↓ilt_1, ↓ilt_0, ↓ieq_1, ↓ieq_0, bn_s1, bd_s1, ei_l1, ei_r1, J_add, J_sub, J_mul, J_neg, J_lt, J_le, J_eq, dv_J, rm_J, if_pos, if_neg, ↓reduceIte, bitJ, shlJ, orJ, j_0, j_1, j_2, j_3, j_4, j_5, j_6, j_7, j_8, j_9, j_10, j_11, j_12, j_13, j_14, j_15, j_16, j_17, j_18, j_19, j_20, j_21, j_22, j_23, j_24, j_25, j_26, j_27, j_28, j_29, j_30, j_31, j_32, j_33, j_34, j_35, j_36, j_37, j_38, j_39, j_40, j_41, j_42, j_43, j_44, j_45, j_46, j_47, j_48, j_49, j_50, j_51, j_52, j_57, j_59, j_63, j_74, j_75, j_93, j_97, j_99, j_100, j_122, j_200, j_255, j_300, j_465, j_496, j_900, j_999, j_1000, j_65536, j_65537, j_99999, j_252645135, j_858993459, j_1431655765, k_0, k_1, k_27, k_32, k_74, k_75, k_100, k_1000, k_65537, m_i M2, ↓m_i_b M2, m_p M2, ↓m_p_b M2, m_l M2, ↓m_l_b M2, m_pl M2, ↓m_pl_b M2, mr_15 M2, ↓mr_15_b M2, mr_16 M2, ↓mr_16_b M2, mr_17 M2, ↓mr_17_b M2, mr_18 M2, ↓mr_18_b M2, mr_21 M2, ↓mr_21_b M2, mr_22 M2, ↓mr_22_b M2, mr_23 M2, ↓mr_23_b M2, mr_24 M2, ↓mr_24_b M2, mr_25 M2, ↓mr_25_b M2, mr_30 M2, ↓mr_30_b M2, mr_31 M2, ↓mr_31_b M2, m90a M2, ↓m90a_b M2, m90s M2, ↓m90s_b M2, m91a M2, ↓m91a_b M2, m91s M2, ↓m91s_b M2, m92a M2, ↓m92a_b M2, m92s M2, ↓m92s_b M2, m93a M2, ↓m93a_b M2, m93s M2, ↓m93s_b M2, m94a M2, ↓m94a_b M2, m94s M2, ↓m94s_b M2, m95a M2, ↓m95a_b M2, m95s M2, ↓m95s_b M2, m96a M2, ↓m96a_b M2, m96s M2, ↓m96s_b M2, m97a M2, ↓m97a_b M2, m97s M2, ↓m97s_b M2, m98a M2, ↓m98a_b M2, m98s M2, ↓m98s_b M2, m99a M2, ↓m99a_b M2, m99s M2, ↓m99s_b M2, m100a M2, ↓m100a_b M2, m100s M2, ↓m100s_b M2, u19, u90]
        rfl
      · rw [ia_if (by omega) z0 (by omega) rg.1 rg.2]
        by_cases e : z = 31 * q + k
        · rw [if_pos e, if_pos (by omega)]
          congr 1
          omega
        · rw [if_neg e, x2 z z0 z1]
          by_cases e' : 31 * (q : Int) ≤ z ∧ z < 31 * q + k
          · rw [if_pos e', if_pos (by omega)]
          · rw [if_neg e', if_neg (by omega)]) (fun s h2 hI => by
      obtain ⟨rfl, f2, x2⟩ := hI
      refine ⟨(), h2, ?_, f2, x2⟩
      unfold B_md_remembers_51
      try simp only [j_0, j_1, j_2, j_3, j_4, j_5, j_6, j_7, j_8, j_9, j_10, j_11, j_12, j_13, j_14, j_15, j_16, j_17, j_18, j_19, j_20, j_21, j_22, j_23, j_24, j_25, j_26, j_27, j_28, j_29, j_30, j_31, j_32, j_33, j_34, j_35, j_36, j_37, j_38, j_39, j_40, j_41, j_42, j_43, j_44, j_45, j_46, j_47, j_48, j_49, j_50, j_51, j_52, j_57, j_59, j_63, j_74, j_75, j_93, j_97, j_99, j_100, j_122, j_200, j_255, j_300, j_465, j_496, j_900, j_999, j_1000, j_65536, j_65537, j_99999, j_252645135, j_858993459, j_1431655765, k_0, k_1, k_27, k_32, k_74, k_75, k_100, k_1000, k_65537]
      simp (disch := first | with_reducible assumption | omega | trivial) only [↓bn_s1, ↓bd_s1, ↓ei_l1, ↓ei_r1, ↓bn_if, ↓ilt_1, ↓ilt_0, ↓ieq_1, ↓ieq_0, bn_s1, bd_s1, ei_l1, ei_r1, J_add, J_sub, J_mul, J_neg, J_lt, J_le, J_eq, dv_J, rm_J, if_pos, if_neg, ↓reduceIte, bitJ, shlJ, orJ, j_0, j_1, j_2, j_3, j_4, j_5, j_6, j_7, j_8, j_9, j_10, j_11, j_12, j_13, j_14, j_15, j_16, j_17, j_18, j_19, j_20, j_21, j_22, j_23, j_24, j_25, j_26, j_27, j_28, j_29, j_30, j_31, j_32, j_33, j_34, j_35, j_36, j_37, j_38, j_39, j_40, j_41, j_42, j_43, j_44, j_45, j_46, j_47, j_48, j_49, j_50, j_51, j_52, j_57, j_59, j_63, j_74, j_75, j_93, j_97, j_99, j_100, j_122, j_200, j_255, j_300, j_465, j_496, j_900, j_999, j_1000, j_65536, j_65537, j_99999, j_252645135, j_858993459, j_1431655765, k_0, k_1, k_27, k_32, k_74, k_75, k_100, k_1000, k_65537])
  have M2 := MS_fm f2 M1
  have u19 : fi h2 88 19 = q := by rw [fm_fi f2 (by omega)]; exact w19
  have fk : ∀ k, k ≠ 19 → fi (wF h2 88 19 ((q : Int) + 1)) 88 k = fi h 88 k := fun k hk => by rw [fi_ne (Or.inr hk), fm_fi f2 (by omega)]; exact k1 k hk
  refine ⟨wF h2 88 19 ((q : Int) + 1), ?_, fm_tr f1 (fm_tr (fm_wd f2 (by omega) (by omega)) (fm_wF (by omega) (by omega))), ?_⟩
  · unfold F_md_remembers
    rw [ck_e (MS_k M)]
    try simp only [j_0, j_1, j_2, j_3, j_4, j_5, j_6, j_7, j_8, j_9, j_10, j_11, j_12, j_13, j_14, j_15, j_16, j_17, j_18, j_19, j_20, j_21, j_22, j_23, j_24, j_25, j_26, j_27, j_28, j_29, j_30, j_31, j_32, j_33, j_34, j_35, j_36, j_37, j_38, j_39, j_40, j_41, j_42, j_43, j_44, j_45, j_46, j_47, j_48, j_49, j_50, j_51, j_52, j_57, j_59, j_63, j_74, j_75, j_93, j_97, j_99, j_100, j_122, j_200, j_255, j_300, j_465, j_496, j_900, j_999, j_1000, j_65536, j_65537, j_99999, j_252645135, j_858993459, j_1431655765, k_0, k_1, k_27, k_32, k_74, k_75, k_100, k_1000, k_65537]
    rw [gI_J (MS_k M), bn_s1, v19, e1, bn_s1, e2, bd_s1, gI_J (MS_k M2), bn_s1, u19, J_add, pI_J (MS_k M2), bn_s1]
  · refine RI_n (fm_tr f1 (fm_tr (fm_wd f2 (by omega) (by omega)) (fm_wF (by omega) (by omega)))) H (fk 1 (by omega)) (fk 2 (by omega)) (fk 6 (by omega)) (fk 12 (by omega)) (fun z => ?_) (fun i i0 i1 => ?_) ?_ (fun j hj i i0 i1 => ?_) ?_ (fun j hj i i0 i1 => ?_) (by omega) H.2.2.2.2.2.2.2.2.2.2
    · show ia h2 89 z = _
      rw [fm_ia f2 (by omega)]; exact y1 89 (by omega) z
    · show ia h2 90 i = _
      rw [fm_ia f2 (by omega)]; exact v90' i i0 i1
    · rw [fi_same (by omega) (by omega), hq]; omega
    · show ia h2 92 (31 * j + i) = _
      rw [x2 _ (by omega) (by omega)]
      unfold kpP
      by_cases c : qn a < 16
      · rw [if_pos c]
        show _ = (if j = qn a then qS a else qP a j) i
        by_cases d : j = qn a
        · rw [if_pos d, if_pos (by omega)]
          congr 1
          omega
        · rw [if_neg d, if_neg (by omega)]
          have := x1 j (by omega) i i0 i1
          rw [if_pos c] at this
          exact this
      · rw [if_neg c]
        show _ = (if j = 15 then qS a else qP a (j + 1)) i
        by_cases d : j = 15
        · rw [if_pos d, if_pos (by omega)]
          congr 1
          omega
        · rw [if_neg d, if_neg (by omega)]
          have := x1 j (by omega) i i0 i1
          rw [if_neg c] at this
          exact this
    · rw [fk 20 (by omega)]; exact H.2.2.2.2.1.1
    · show ia h2 93 (31 * j + i) = _
      rw [fm_ia f2 (by omega), y1 93 (by omega)]; exact H.2.2.2.2.1.2 j hj i i0 i1
theorem da_g {a : Ab} {h h' : Hp} {v : Int} {o : Option (Int32 × Hp)} (x : Fm 88 102 h h') (H : RI a h') (e : o = some (J v, wF (wF h' 88 1 0) 88 2 (-1))) : Da o h v (sTr a 0) := by
  have fin := end_2 (h := h') 0 (by omega)
  exact ⟨_, e, fm_tr x fin.1.1, RI_q fin.1 fin.2.1 fin.2.2 (by omega) H⟩
theorem da_r {a : Ab} {h h' : Hp} {v y : Int} {o : Option (Int32 × Hp)} (x : Fm 88 102 h h') (H : RI a h') (hy : 0 ≤ y ∧ y ≤ 6) (y4 : y ≠ 4) (e : o = some (J v, wF (wF h' 88 1 y) 88 2 (-1))) : Da o h v (sTr a y) := by
  have fin := end_2 (h := h') y hy
  exact ⟨_, e, fm_tr x fin.1.1, RI_q fin.1 fin.2.1 fin.2.2 y4 H⟩
theorem ca_r {a : Ab} {t : Nat} {h : Hp} {v y : Int} {o : Option (Int32 × Hp)} (H : CI a t h) (hy : 0 ≤ y ∧ y ≤ 6) (e : o = some (J v, wF h 0 12 y)) : Ca o h v (sTr a y) t := ⟨_, e, fm_wF (by omega) (by omega), CI_w hy H⟩
theorem ca_r2 {a : Ab} {t : Nat} {h : Hp} {v x y : Int} {o : Option (Int32 × Hp)} (H : CI a t h) (hx : 0 ≤ x ∧ x ≤ 6) (hy : 0 ≤ y ∧ y ≤ 6) (e : o = some (J v, wF (wF h 0 12 x) 0 12 y)) : Ca o h v (sTr a y) t := ⟨_, e, fm_tr (fm_wF (by omega) (by omega)) (fm_wF (by omega) (by omega)), CI_w (a := sTr a x) hy (CI_w hx H)⟩
