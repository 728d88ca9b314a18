/-! cut, tie -/
theorem tieX : ∀ n, n < 6 → ∀ c, c < 2 ^ n → ∀ k, k < n → c.testBit k = false → (J (2 ^ n - 1 - (c : Nat)) &&& (J ((2 ^ k : Nat) : Int) ^^^ J (-1))) = J (2 ^ n - 1 - ((c ^^^ 2 ^ k : Nat) : Int)) := by decide +kernel
theorem tieO : ∀ n, n < 6 → ∀ c, c < 2 ^ n → ∀ k, k < n → c.testBit k = true → (J (2 ^ n - 1 - (c : Nat)) ||| J ((2 ^ k : Nat) : Int)) = J (2 ^ n - 1 - ((c ^^^ 2 ^ k : Nat) : Int)) := by decide +kernel
theorem xorJ : ∀ n, n < 32 → ∀ m, m < 32 → (J (n : Nat) ^^^ J (m : Nat)) = J ((n ^^^ m : Nat) : Int) := by decide +kernel
theorem xor_l : ∀ n, n < 6 → ∀ c, c < 2 ^ n → ∀ k, k < n → c ^^^ 2 ^ k < 2 ^ n := by decide +kernel
def cbt (a : Ab) (k : Int) : Int := if (qS a 28).toNat.testBit k.toNat = true then 1 else 0
def a_chg (a : Ab) (k i : Int) : Ab := if inr k (qL a 2 0) then (if cbt a k = i then sTr a 5 else acx a (upS (qS a) 28 (((qS a 28).toNat ^^^ 2 ^ k.toNat : Nat) : Int))) else sTr a 1
def v_chg (a : Ab) (k i : Int) : Int := if inr k (qL a 2 0) then (if cbt a k = i then 0 else 1) else 0
theorem SG_28 {L : Lk} {S : Sk} (HL : LW L) (H : SG L S) {c : Nat} (hc : c < 2 ^ rn L) : SG L (upS S 28 c) := by
  have b3 := LW_g HL
  obtain ⟨⟨w1, w2, w3, w4, w5, w6⟩, k1, gg⟩ := H
  have e : upS S 28 (c : Int) 28 = c := if_pos rfl
  refine ⟨⟨fun i i0 i1 => ?_, fun i i0 i1 => ?_, fun j j0 j1 => ?_, ?_, ?_, ?_⟩, ?_, fun j j0 j1 => ?_⟩
  · rw [upS_ne (by omega)]; exact w1 i i0 i1
  · rw [upS_ne (by omega)]; exact w2 i i0 i1
  · rw [upS_ne (by omega)]; exact w3 j j0 j1
  · rw [e]; omega
  · rw [e]; omega
  · rw [upS_ne (by omega)]; exact w6
  · rw [upS_ne (by omega)]; exact k1
  · rw [upS_ne (by omega)]; exact gg j j0 j1
theorem chg_lt {a : Ab} (HA : AW a) {k : Int} (hk : inr k (qL a 2 0)) : (qS a 28).toNat ^^^ 2 ^ k.toNat < 2 ^ rn (qL a) := by
  have b2 := LW_r HA.1
  have rne := rn_e HA.1
  exact xor_l (rn (qL a)) (by omega) _ HA.2.1.1.2.2.2.2.1 k.toNat (by omega)
theorem AW_chg {a : Ab} {k i : Int} (HA : AW a) : AW (a_chg a k i) := by
  unfold a_chg
  by_cases c : inr k (qL a 2 0)
  · rw [if_pos c]
    by_cases e : cbt a k = i
    · rw [if_pos e]; exact AW_w (by omega) HA
    · rw [if_neg e]; exact AW_acx HA (SG_28 HA.1 HA.2.1 (chg_lt HA c))
  · rw [if_neg c]; exact AW_w (by omega) HA
theorem SR_28 {L : Lk} {S : Sk} {h : Hp} {c : Nat} {v : Int} (HL : LW L) (HS : SR L 44 S h) (ev : v = 2 ^ rn L - 1 - (c : Int)) (hv : -2147483648 ≤ v ∧ v < 2147483648) : SR L 44 (upS S 28 c) (wF h 44 2 v) := by
  have b3 := LW_g HL
  have e : upS S 28 (c : Int) 28 = c := if_pos rfl
  refine ⟨fun i i0 i1 => ?_, fun j j0 j1 => ?_, ?_, ?_, ?_⟩
  · rw [upS_ne (by omega)]; exact HS.1 i i0 i1
  · rw [upS_ne (by omega)]; exact HS.2.1 j j0 j1
  · rw [e, fi_same hv.1 hv.2]; exact ev
  · rw [upS_ne (by omega), fi_ne (by omega)]; exact HS.2.2.2.1
  · rw [upS_ne (by omega), fi_ne (by omega)]; exact HS.2.2.2.2
theorem pw32 {L : Lk} (HL : LW L) : 1 ≤ (2 : Int) ^ rn L ∧ (2 : Int) ^ rn L ≤ 32 := by
  have b2 := LW_r HL
  have rne := rn_e HL
  have : rn L = 0 ∨ rn L = 1 ∨ rn L = 2 ∨ rn L = 3 ∨ rn L = 4 ∨ rn L = 5 := by omega
  rcases this with e | e | e | e | e | e
  all_goals (rw [e]; decide)
theorem c_cut {a : Ab} {t : Nat} {h : Hp} {k : Int} (HA : AW a) (H : CI a t h) (hk : rng k) : Ca (F_cs_cut 0 (J k) h) h (v_chg a k 1) (a_chg a k 1) t := by
  have kx := XS_k (XV_x H.1)
  have b2 := LW_r HA.1
  have rne := rn_e HA.1
  unfold F_cs_cut v_chg a_chg
  rw [ck_e kx]
  by_cases ck : inr k (qL a 2 0)
  · rw [if_pos ck, if_pos ck]
    have H1 := CI_w (v := 0) (by omega) H
    have A1 := AW_w (v := 0) (by omega) HA
    have V1 := H1.1
    have k1 := XS_k (XV_x V1)
    have sw := HA.2.1.1
    have et : F_st_isTied 44 (J k) (wF h 0 12 0) = some (J (if (qS a 28).toNat.testBit k.toNat = true then 0 else 1)) := C_isTiedZ HA.1 (XV_s44 V1) H1.2.2.1 sw.2.2.2.1 sw.2.2.2.2.1 ck.1 ck.2
    unfold cbt
    by_cases e : (qS a 28).toNat.testBit k.toNat = true
    · rw [if_pos e] at et
      rw [if_pos e, if_pos rfl, if_pos rfl]
      refine ca_r2 H (x := 0) (by omega) (by omega) ?_
      try simp only [j_0, j_1, j_2, j_3, j_4, j_5, j_6, j_7, j_8, j_9, j_10, j_11, j_12, j_13, j_14, j_15, j_16, j_17, j_18, j_19, j_20, j_21, j_22, j_23, j_24, j_25, j_26, j_27, j_28, j_29, j_30, j_31, j_32, j_33, j_34, j_35, j_36, j_37, j_38, j_39, j_40, j_41, j_42, j_43, j_44, j_45, j_46, j_47, j_48, j_49, j_50, j_51, j_52, j_57, j_59, j_63, j_74, j_75, j_93, j_97, j_99, j_100, j_122, j_200, j_255, j_300, j_465, j_496, j_900, j_999, j_1000, j_65536, j_65537, j_99999, j_252645135, j_858993459, j_1431655765, k_0, k_1, k_27, k_32, k_74, k_75, k_100, k_1000, k_65537]
      simp (disch := first | with_reducible assumption | omega | trivial) only [↓bn_s1, ↓bd_s1, ↓ei_l1, ↓ei_r1, ↓bn_if, ↓ilt_1, ↓ilt_0, ↓ieq_1, ↓ieq_0, bn_s1, bd_s1, ei_l1, ei_r1, J_add, J_sub, J_mul, J_neg, J_lt, J_le, J_eq, dv_J, rm_J, if_pos, if_neg, ↓reduceIte, bitJ, shlJ, orJ, j_0, j_1, j_2, j_3, j_4, j_5, j_6, j_7, j_8, j_9, j_10, j_11, j_12, j_13, j_14, j_15, j_16, j_17, j_18, j_19, j_20, j_21, j_22, j_23, j_24, j_25, j_26, j_27, j_28, j_29, j_30, j_31, j_32, j_33, j_34, j_35, j_36, j_37, j_38, j_39, j_40, j_41, j_42, j_43, j_44, j_45, j_46, j_47, j_48, j_49, j_50, j_51, j_52, j_57, j_59, j_63, j_74, j_75, j_93, j_97, j_99, j_100, j_122, j_200, j_255, j_300, j_465, j_496, j_900, j_999, j_1000, j_65536, j_65537, j_99999, j_252645135, j_858993459, j_1431655765, k_0, k_1, k_27, k_32, k_74, k_75, k_100, k_1000, k_65537, ↓bn_e (n2_0 HA H hk ck), n2_0 HA H hk ck, ↓bd_e (ref_0 kx), ref_0 kx, vr_0 V1, ↓vr_0_b V1, vr_2 V1, ↓vr_2_b V1, vr_4 V1, ↓vr_4_b V1, vr_5 V1, ↓vr_5_b V1, vr_6 V1, ↓vr_6_b V1, vr_7 V1, ↓vr_7_b V1, vr_8 V1, ↓vr_8_b V1, vr_9 V1, ↓vr_9_b V1, vr_10 V1, ↓vr_10_b V1, vr_11 V1, ↓vr_11_b V1, vr_3 V1, ↓vr_3_b V1, v0i V1, ↓v0i_b V1, v0p V1, ↓v0p_b V1, ↓bn_e (et), et, ↓bd_e (rby_1 k1), rby_1 k1]
    · rw [if_neg e] at et
      rw [if_neg e, if_neg (by omega), if_neg (by omega)]
      have H2 := CI_w (v := 0) (by omega) H1
      have V2 := H2.1
      obtain ⟨h3, e3, f3, H3⟩ := C_kept (AW_w (v := 0) (by omega) A1) H2
      have V3 := H3.1
      have v3 : fi h3 44 2 = 2 ^ rn (qL a) - 1 - ((qS a 28).toNat : Int) := by
        have : fi h3 44 2 = 2 ^ rn (qL a) - 1 - qS a 28 := H3.2.2.1.2.2.1
        rw [this]; have := sw.2.2.2.1; omega
      have tx := tieX (rn (qL a)) (by omega) _ sw.2.2.2.2.1 k.toNat (by omega) (by cases hh : (qS a 28).toNat.testBit k.toNat with | true => exact absurd hh e | false => rfl)
      have sh := shlZ (z := k) ck.1 (by omega)
      have p32 := pw32 HA.1
      have cl := chg_lt HA ck
      have c32' : 2 ^ rn (qL a) ≤ 2 ^ 5 := Nat.pow_le_pow_right (by decide) (by omega)
      have f4 : Fm 44 47 h3 (wF h3 44 2 (2 ^ rn (qL a) - 1 - (((qS a 28).toNat ^^^ 2 ^ k.toNat : Nat) : Int))) := fm_wF (by omega) (by omega)
      have S4 := SR_28 (L := qL a) (c := (qS a 28).toNat ^^^ 2 ^ k.toNat) HA.1 H3.2.2.1 rfl (by omega)
      have H4 := CI_S f4 (by omega) (by omega) H3 S4
      refine ⟨_, ?_, fm_tr (fm_wF (by omega) (by omega)) (fm_tr (fm_wF (by omega) (by omega)) (fm_tr (fm_wd f3 (by omega) (by omega)) (fm_wd f4 (by omega) (by omega)))), H4⟩
      rw [jm1]
      try simp only [j_0, j_1, j_2, j_3, j_4, j_5, j_6, j_7, j_8, j_9, j_10, j_11, j_12, j_13, j_14, j_15, j_16, j_17, j_18, j_19, j_20, j_21, j_22, j_23, j_24, j_25, j_26, j_27, j_28, j_29, j_30, j_31, j_32, j_33, j_34, j_35, j_36, j_37, j_38, j_39, j_40, j_41, j_42, j_43, j_44, j_45, j_46, j_47, j_48, j_49, j_50, j_51, j_52, j_57, j_59, j_63, j_74, j_75, j_93, j_97, j_99, j_100, j_122, j_200, j_255, j_300, j_465, j_496, j_900, j_999, j_1000, j_65536, j_65537, j_99999, j_252645135, j_858993459, j_1431655765, k_0, k_1, k_27, k_32, k_74, k_75, k_100, k_1000, k_65537]
      simp (disch := first | with_reducible assumption | omega | trivial) only [↓bn_s1, ↓bd_s1, ↓ei_l1, ↓ei_r1, ↓bn_if, ↓ilt_1, ↓ilt_0, ↓ieq_1, ↓ieq_0, bn_s1, bd_s1, ei_l1, ei_r1, J_add, J_sub, J_mul, J_neg, J_lt, J_le, J_eq, dv_J, rm_J, if_pos, if_neg, ↓reduceIte, bitJ, shlJ, orJ, j_0, j_1, j_2, j_3, j_4, j_5, j_6, j_7, j_8, j_9, j_10, j_11, j_12, j_13, j_14, j_15, j_16, j_17, j_18, j_19, j_20, j_21, j_22, j_23, j_24, j_25, j_26, j_27, j_28, j_29, j_30, j_31, j_32, j_33, j_34, j_35, j_36, j_37, j_38, j_39, j_40, j_41, j_42, j_43, j_44, j_45, j_46, j_47, j_48, j_49, j_50, j_51, j_52, j_57, j_59, j_63, j_74, j_75, j_93, j_97, j_99, j_100, j_122, j_200, j_255, j_300, j_465, j_496, j_900, j_999, j_1000, j_65536, j_65537, j_99999, j_252645135, j_858993459, j_1431655765, k_0, k_1, k_27, k_32, k_74, k_75, k_100, k_1000, k_65537, ↓bn_e (n2_0 HA H hk ck), n2_0 HA H hk ck, ↓bd_e (ref_0 kx), ref_0 kx, vr_0 V1, ↓vr_0_b V1, vr_2 V1, ↓vr_2_b V1, vr_4 V1, ↓vr_4_b V1, vr_5 V1, ↓vr_5_b V1, vr_6 V1, ↓vr_6_b V1, vr_7 V1, ↓vr_7_b V1, vr_8 V1, ↓vr_8_b V1, vr_9 V1, ↓vr_9_b V1, vr_10 V1, ↓vr_10_b V1, vr_11 V1, ↓vr_11_b V1, vr_3 V1, ↓vr_3_b V1, v0i V1, ↓v0i_b V1, v0p V1, ↓v0p_b V1, ↓bn_e (et), et, ↓bd_e (rby_0 k1), rby_0 k1, vr_0 V2, ↓vr_0_b V2, vr_2 V2, ↓vr_2_b V2, vr_4 V2, ↓vr_4_b V2, vr_5 V2, ↓vr_5_b V2, vr_6 V2, ↓vr_6_b V2, vr_7 V2, ↓vr_7_b V2, vr_8 V2, ↓vr_8_b V2, vr_9 V2, ↓vr_9_b V2, vr_10 V2, ↓vr_10_b V2, vr_11 V2, ↓vr_11_b V2, vr_3 V2, ↓vr_3_b V2, v0i V2, ↓v0i_b V2, v0p V2, ↓v0p_b V2, ↓bn_e (e3), e3, vr_0 V3, ↓vr_0_b V3, vr_2 V3, ↓vr_2_b V3, vr_4 V3, ↓vr_4_b V3, vr_5 V3, ↓vr_5_b V3, vr_6 V3, ↓vr_6_b V3, vr_7 V3, ↓vr_7_b V3, vr_8 V3, ↓vr_8_b V3, vr_9 V3, ↓vr_9_b V3, vr_10 V3, ↓vr_10_b V3, vr_11 V3, ↓vr_11_b V3, vr_3 V3, ↓vr_3_b V3, v0i V3, ↓v0i_b V3, v0p V3, ↓v0p_b V3, sr44_0 V3, ↓sr44_0_b V3, sr44_1 V3, ↓sr44_1_b V3, s44i V3, ↓s44i_b V3, s44p V3, ↓s44p_b V3, s45a V3, ↓s45a_b V3, s45s V3, ↓s45s_b V3, s46a V3, ↓s46a_b V3, s46s V3, ↓s46s_b V3, v3, sh, tx]
  · rw [if_neg ck, if_neg ck]
    refine ca_r H (by omega) ?_
    try simp only [j_0, j_1, j_2, j_3, j_4, j_5, j_6, j_7, j_8, j_9, j_10, j_11, j_12, j_13, j_14, j_15, j_16, j_17, j_18, j_19, j_20, j_21, j_22, j_23, j_24, j_25, j_26, j_27, j_28, j_29, j_30, j_31, j_32, j_33, j_34, j_35, j_36, j_37, j_38, j_39, j_40, j_41, j_42, j_43, j_44, j_45, j_46, j_47, j_48, j_49, j_50, j_51, j_52, j_57, j_59, j_63, j_74, j_75, j_93, j_97, j_99, j_100, j_122, j_200, j_255, j_300, j_465, j_496, j_900, j_999, j_1000, j_65536, j_65537, j_99999, j_252645135, j_858993459, j_1431655765, k_0, k_1, k_27, k_32, k_74, k_75, k_100, k_1000, k_65537]
    simp (disch := first | with_reducible assumption | omega | trivial) only [↓bn_s1, ↓bd_s1, ↓ei_l1, ↓ei_r1, ↓bn_if, ↓ilt_1, ↓ilt_0, ↓ieq_1, ↓ieq_0, bn_s1, bd_s1, ei_l1, ei_r1, J_add, J_sub, J_mul, J_neg, J_lt, J_le, J_eq, dv_J, rm_J, if_pos, if_neg, ↓reduceIte, bitJ, shlJ, orJ, j_0, j_1, j_2, j_3, j_4, j_5, j_6, j_7, j_8, j_9, j_10, j_11, j_12, j_13, j_14, j_15, j_16, j_17, j_18, j_19, j_20, j_21, j_22, j_23, j_24, j_25, j_26, j_27, j_28, j_29, j_30, j_31, j_32, j_33, j_34, j_35, j_36, j_37, j_38, j_39, j_40, j_41, j_42, j_43, j_44, j_45, j_46, j_47, j_48, j_49, j_50, j_51, j_52, j_57, j_59, j_63, j_74, j_75, j_93, j_97, j_99, j_100, j_122, j_200, j_255, j_300, j_465, j_496, j_900, j_999, j_1000, j_65536, j_65537, j_99999, j_252645135, j_858993459, j_1431655765, k_0, k_1, k_27, k_32, k_74, k_75, k_100, k_1000, k_65537, ↓bn_e (n2_1 HA H hk ck), n2_1 HA H hk ck, ↓bd_e (ref_1 kx 0), ref_1 kx 0]
theorem c_tie {a : Ab} {t : Nat} {h : Hp} {k : Int} (HA : AW a) (H : CI a t h) (hk : rng k) : Ca (F_cs_tie 0 (J k) h) h (v_chg a k 0) (a_chg a k 0) t := by
  have kx := XS_k (XV_x H.1)
  have b2 := LW_r HA.1
  have rne := rn_e HA.1
  unfold F_cs_tie v_chg a_chg
  rw [ck_e kx]
  by_cases ck : inr k (qL a 2 0)
  · rw [if_pos ck, if_pos ck]
    have H1 := CI_w (v := 0) (by omega) H
    have A1 := AW_w (v := 0) (by omega) HA
    have V1 := H1.1
    have k1 := XS_k (XV_x V1)
    have sw := HA.2.1.1
    have et : F_st_isTied 44 (J k) (wF h 0 12 0) = some (J (if (qS a 28).toNat.testBit k.toNat = true then 0 else 1)) := C_isTiedZ HA.1 (XV_s44 V1) H1.2.2.1 sw.2.2.2.1 sw.2.2.2.2.1 ck.1 ck.2
    unfold cbt
    by_cases e : (qS a 28).toNat.testBit k.toNat = true
    · rw [if_pos e] at et
      rw [if_pos e, if_neg (by omega), if_neg (by omega)]
      have H2 := CI_w (v := 0) (by omega) H1
      have V2 := H2.1
      obtain ⟨h3, e3, f3, H3⟩ := C_kept (AW_w (v := 0) (by omega) A1) H2
      have V3 := H3.1
      have v3 : fi h3 44 2 = 2 ^ rn (qL a) - 1 - ((qS a 28).toNat : Int) := by
        have : fi h3 44 2 = 2 ^ rn (qL a) - 1 - qS a 28 := H3.2.2.1.2.2.1
        rw [this]; have := sw.2.2.2.1; omega
      have tx := tieO (rn (qL a)) (by omega) _ sw.2.2.2.2.1 k.toNat (by omega) e
      have sh := shlZ (z := k) ck.1 (by omega)
      have p32 := pw32 HA.1
      have cl := chg_lt HA ck
      have c32' : 2 ^ rn (qL a) ≤ 2 ^ 5 := Nat.pow_le_pow_right (by decide) (by omega)
      have f4 : Fm 44 47 h3 (wF h3 44 2 (2 ^ rn (qL a) - 1 - (((qS a 28).toNat ^^^ 2 ^ k.toNat : Nat) : Int))) := fm_wF (by omega) (by omega)
      have S4 := SR_28 (L := qL a) (c := (qS a 28).toNat ^^^ 2 ^ k.toNat) HA.1 H3.2.2.1 rfl (by omega)
      have H4 := CI_S f4 (by omega) (by omega) H3 S4
      refine ⟨_, ?_, fm_tr (fm_wF (by omega) (by omega)) (fm_tr (fm_wF (by omega) (by omega)) (fm_tr (fm_wd f3 (by omega) (by omega)) (fm_wd f4 (by omega) (by omega)))), H4⟩
      try simp only [j_0, j_1, j_2, j_3, j_4, j_5, j_6, j_7, j_8, j_9, j_10, j_11, j_12, j_13, j_14, j_15, j_16, j_17, j_18, j_19, j_20, j_21, j_22, j_23, j_24, j_25, j_26, j_27, j_28, j_29, j_30, j_31, j_32, j_33, j_34, j_35, j_36, j_37, j_38, j_39, j_40, j_41, j_42, j_43, j_44, j_45, j_46, j_47, j_48, j_49, j_50, j_51, j_52, j_57, j_59, j_63, j_74, j_75, j_93, j_97, j_99, j_100, j_122, j_200, j_255, j_300, j_465, j_496, j_900, j_999, j_1000, j_65536, j_65537, j_99999, j_252645135, j_858993459, j_1431655765, k_0, k_1, k_27, k_32, k_74, k_75, k_100, k_1000, k_65537]
      simp (disch := first | with_reducible assumption | omega | trivial) only [↓bn_s1, ↓bd_s1, ↓ei_l1, ↓ei_r1, ↓bn_if, ↓ilt_1, ↓ilt_0, ↓ieq_1, ↓ieq_0, bn_s1, bd_s1, ei_l1, ei_r1, J_add, J_sub, J_mul, J_neg, J_lt, J_le, J_eq, dv_J, rm_J, if_pos, if_neg, ↓reduceIte, bitJ, shlJ, orJ, j_0, j_1, j_2, j_3, j_4, j_5, j_6, j_7, j_8, j_9, j_10, j_11, j_12, j_13, j_14, j_15, j_16, j_17, j_18, j_19, j_20, j_21, j_22, j_23, j_24, j_25, j_26, j_27, j_28, j_29, j_30, j_31, j_32, j_33, j_34, j_35, j_36, j_37, j_38, j_39, j_40, j_41, j_42, j_43, j_44, j_45, j_46, j_47, j_48, j_49, j_50, j_51, j_52, j_57, j_59, j_63, j_74, j_75, j_93, j_97, j_99, j_100, j_122, j_200, j_255, j_300, j_465, j_496, j_900, j_999, j_1000, j_65536, j_65537, j_99999, j_252645135, j_858993459, j_1431655765, k_0, k_1, k_27, k_32, k_74, k_75, k_100, k_1000, k_65537, ↓bn_e (n2_0 HA H hk ck), n2_0 HA H hk ck, ↓bd_e (ref_0 kx), ref_0 kx, vr_0 V1, ↓vr_0_b V1, vr_2 V1, ↓vr_2_b V1, vr_4 V1, ↓vr_4_b V1, vr_5 V1, ↓vr_5_b V1, vr_6 V1, ↓vr_6_b V1, vr_7 V1, ↓vr_7_b V1, vr_8 V1, ↓vr_8_b V1, vr_9 V1, ↓vr_9_b V1, vr_10 V1, ↓vr_10_b V1, vr_11 V1, ↓vr_11_b V1, vr_3 V1, ↓vr_3_b V1, v0i V1, ↓v0i_b V1, v0p V1, ↓v0p_b V1, ↓bn_e (et), et, ↓bd_e (rby_0 k1), rby_0 k1, vr_0 V2, ↓vr_0_b V2, vr_2 V2, ↓vr_2_b V2, vr_4 V2, ↓vr_4_b V2, vr_5 V2, ↓vr_5_b V2, vr_6 V2, ↓vr_6_b V2, vr_7 V2, ↓vr_7_b V2, vr_8 V2, ↓vr_8_b V2, vr_9 V2, ↓vr_9_b V2, vr_10 V2, ↓vr_10_b V2, vr_11 V2, ↓vr_11_b V2, vr_3 V2, ↓vr_3_b V2, v0i V2, ↓v0i_b V2, v0p V2, ↓v0p_b V2, ↓bn_e (e3), e3, vr_0 V3, ↓vr_0_b V3, vr_2 V3, ↓vr_2_b V3, vr_4 V3, ↓vr_4_b V3, vr_5 V3, ↓vr_5_b V3, vr_6 V3, ↓vr_6_b V3, vr_7 V3, ↓vr_7_b V3, vr_8 V3, ↓vr_8_b V3, vr_9 V3, ↓vr_9_b V3, vr_10 V3, ↓vr_10_b V3, vr_11 V3, ↓vr_11_b V3, vr_3 V3, ↓vr_3_b V3, v0i V3, ↓v0i_b V3, v0p V3, ↓v0p_b V3, sr44_0 V3, ↓sr44_0_b V3, sr44_1 V3, ↓sr44_1_b V3, s44i V3, ↓s44i_b V3, s44p V3, ↓s44p_b V3, s45a V3, ↓s45a_b V3, s45s V3, ↓s45s_b V3, s46a V3, ↓s46a_b V3, s46s V3, ↓s46s_b V3, v3, sh, tx]
    · rw [if_neg e] at et
      rw [if_neg e, if_pos rfl, if_pos rfl]
      refine ca_r2 H (x := 0) (by omega) (by omega) ?_
      try simp only [j_0, j_1, j_2, j_3, j_4, j_5, j_6, j_7, j_8, j_9, j_10, j_11, j_12, j_13, j_14, j_15, j_16, j_17, j_18, j_19, j_20, j_21, j_22, j_23, j_24, j_25, j_26, j_27, j_28, j_29, j_30, j_31, j_32, j_33, j_34, j_35, j_36, j_37, j_38, j_39, j_40, j_41, j_42, j_43, j_44, j_45, j_46, j_47, j_48, j_49, j_50, j_51, j_52, j_57, j_59, j_63, j_74, j_75, j_93, j_97, j_99, j_100, j_122, j_200, j_255, j_300, j_465, j_496, j_900, j_999, j_1000, j_65536, j_65537, j_99999, j_252645135, j_858993459, j_1431655765, k_0, k_1, k_27, k_32, k_74, k_75, k_100, k_1000, k_65537]
      simp (disch := first | with_reducible assumption | omega | trivial) only [↓bn_s1, ↓bd_s1, ↓ei_l1, ↓ei_r1, ↓bn_if, ↓ilt_1, ↓ilt_0, ↓ieq_1, ↓ieq_0, bn_s1, bd_s1, ei_l1, ei_r1, J_add, J_sub, J_mul, J_neg, J_lt, J_le, J_eq, dv_J, rm_J, if_pos, if_neg, ↓reduceIte, bitJ, shlJ, orJ, j_0, j_1, j_2, j_3, j_4, j_5, j_6, j_7, j_8, j_9, j_10, j_11, j_12, j_13, j_14, j_15, j_16, j_17, j_18, j_19, j_20, j_21, j_22, j_23, j_24, j_25, j_26, j_27, j_28, j_29, j_30, j_31, j_32, j_33, j_34, j_35, j_36, j_37, j_38, j_39, j_40, j_41, j_42, j_43, j_44, j_45, j_46, j_47, j_48, j_49, j_50, j_51, j_52, j_57, j_59, j_63, j_74, j_75, j_93, j_97, j_99, j_100, j_122, j_200, j_255, j_300, j_465, j_496, j_900, j_999, j_1000, j_65536, j_65537, j_99999, j_252645135, j_858993459, j_1431655765, k_0, k_1, k_27, k_32, k_74, k_75, k_100, k_1000, k_65537, ↓bn_e (n2_0 HA H hk ck), n2_0 HA H hk ck, ↓bd_e (ref_0 kx), ref_0 kx, vr_0 V1, ↓vr_0_b V1, vr_2 V1, ↓vr_2_b V1, vr_4 V1, ↓vr_4_b V1, vr_5 V1, ↓vr_5_b V1, vr_6 V1, ↓vr_6_b V1, vr_7 V1, ↓vr_7_b V1, vr_8 V1, ↓vr_8_b V1, vr_9 V1, ↓vr_9_b V1, vr_10 V1, ↓vr_10_b V1, vr_11 V1, ↓vr_11_b V1, vr_3 V1, ↓vr_3_b V1, v0i V1, ↓v0i_b V1, v0p V1, ↓v0p_b V1, ↓bn_e (et), et, ↓bd_e (rby_1 k1), rby_1 k1]
  · rw [if_neg ck, if_neg ck]
    refine ca_r H (by omega) ?_
    try simp only [j_0, j_1, j_2, j_3, j_4, j_5, j_6, j_7, j_8, j_9, j_10, j_11, j_12, j_13, j_14, j_15, j_16, j_17, j_18, j_19, j_20, j_21, j_22, j_23, j_24, j_25, j_26, j_27, j_28, j_29, j_30, j_31, j_32, j_33, j_34, j_35, j_36, j_37, j_38, j_39, j_40, j_41, j_42, j_43, j_44, j_45, j_46, j_47, j_48, j_49, j_50, j_51, j_52, j_57, j_59, j_63, j_74, j_75, j_93, j_97, j_99, j_100, j_122, j_200, j_255, j_300, j_465, j_496, j_900, j_999, j_1000, j_65536, j_65537, j_99999, j_252645135, j_858993459, j_1431655765, k_0, k_1, k_27, k_32, k_74, k_75, k_100, k_1000, k_65537]
    simp (disch := first | with_reducible assumption | omega | trivial) only [↓bn_s1, ↓bd_s1, ↓ei_l1, ↓ei_r1, ↓bn_if, ↓ilt_1, ↓ilt_0, ↓ieq_1, ↓ieq_0, bn_s1, bd_s1, ei_l1, ei_r1, J_add, J_sub, J_mul, J_neg, J_lt, J_le, J_eq, dv_J, rm_J, if_pos, if_neg, ↓reduceIte, bitJ, shlJ, orJ, j_0, j_1, j_2, j_3, j_4, j_5, j_6, j_7, j_8, j_9, j_10, j_11, j_12, j_13, j_14, j_15, j_16, j_17, j_18, j_19, j_20, j_21, j_22, j_23, j_24, j_25, j_26, j_27, j_28, j_29, j_30, j_31, j_32, j_33, j_34, j_35, j_36, j_37, j_38, j_39, j_40, j_41, j_42, j_43, j_44, j_45, j_46, j_47, j_48, j_49, j_50, j_51, j_52, j_57, j_59, j_63, j_74, j_75, j_93, j_97, j_99, j_100, j_122, j_200, j_255, j_300, j_465, j_496, j_900, j_999, j_1000, j_65536, j_65537, j_99999, j_252645135, j_858993459, j_1431655765, k_0, k_1, k_27, k_32, k_74, k_75, k_100, k_1000, k_65537, ↓bn_e (n2_1 HA H hk ck), n2_1 HA H hk ck, ↓bd_e (ref_1 kx 0), ref_1 kx 0]
theorem d_chg {a : Ab} {h : Hp} {k i : Int} (HA : AW a) (H : RI a h) (hk : rng k) (hi : i = 0 ∨ i = 1) : Da (F_md_changes 88 (J k) (J i) h) h (v_chg a k i) (a_chg a k i) ∧ (v_chg a k i = 0 ∨ v_chg a k i = 1) := by
  have kx := MS_k H.1
  have M := H.1
  have b2 := LW_r HA.1
  have rne := rn_e HA.1
  have gr := fun (y : Int) => D_denied (y := y) kx
  have sw := HA.2.1.1
  unfold F_md_changes v_chg a_chg
  rw [ck_e kx]
  by_cases ck : inr k (qL a 2 0)
  · rw [if_pos ck, if_pos ck]
    obtain ⟨cN, hcN⟩ := Int.eq_ofNat_of_zero_le sw.2.2.2.1
    have hc : (qS a 28).toNat = cN := by omega
    have v1 : ia h 90 28 = (cN : Int) := by rw [H.2.2.1 28 (by omega) (by omega), hcN]
    have c3 : cN < 32 := by have := c32 HA; omega
    have eb := bit_e (n := cN) (z := k) c3 ck.1 (by omega)
    unfold cbt
    rw [hc]
    by_cases e : (if cN.testBit k.toNat = true then (1 : Int) else 0) = i
    · rw [if_pos e, if_pos e]
      rw [e] at eb
      refine ⟨da_r (fm_rf _ _ _) H (by omega) (by omega) ?_, Or.inl rfl⟩
      try simp only [j_0, j_1, j_2, j_3, j_4, j_5, j_6, j_7, j_8, j_9, j_10, j_11, j_12, j_13, j_14, j_15, j_16, j_17, j_18, j_19, j_20, j_21, j_22, j_23, j_24, j_25, j_26, j_27, j_28, j_29, j_30, j_31, j_32, j_33, j_34, j_35, j_36, j_37, j_38, j_39, j_40, j_41, j_42, j_43, j_44, j_45, j_46, j_47, j_48, j_49, j_50, j_51, j_52, j_57, j_59, j_63, j_74, j_75, j_93, j_97, j_99, j_100, j_122, j_200, j_255, j_300, j_465, j_496, j_900, j_999, j_1000, j_65536, j_65537, j_99999, j_252645135, j_858993459, j_1431655765, k_0, k_1, k_27, k_32, k_74, k_75, k_100, k_1000, k_65537]
      simp (disch := first | with_reducible assumption | omega | trivial) only [↓bn_s1, ↓bd_s1, ↓ei_l1, ↓ei_r1, ↓bn_if, ↓ilt_1, ↓ilt_0, ↓ieq_1, ↓ieq_0, bn_s1, bd_s1, ei_l1, ei_r1, J_add, J_sub, J_mul, J_neg, J_lt, J_le, J_eq, dv_J, rm_J, if_pos, if_neg, ↓reduceIte, bitJ, shlJ, orJ, j_0, j_1, j_2, j_3, j_4, j_5, j_6, j_7, j_8, j_9, j_10, j_11, j_12, j_13, j_14, j_15, j_16, j_17, j_18, j_19, j_20, j_21, j_22, j_23, j_24, j_25, j_26, j_27, j_28, j_29, j_30, j_31, j_32, j_33, j_34, j_35, j_36, j_37, j_38, j_39, j_40, j_41, j_42, j_43, j_44, j_45, j_46, j_47, j_48, j_49, j_50, j_51, j_52, j_57, j_59, j_63, j_74, j_75, j_93, j_97, j_99, j_100, j_122, j_200, j_255, j_300, j_465, j_496, j_900, j_999, j_1000, j_65536, j_65537, j_99999, j_252645135, j_858993459, j_1431655765, k_0, k_1, k_27, k_32, k_74, k_75, k_100, k_1000, k_65537, ↓bn_e (im2_1 HA H hk ck), im2_1 HA H hk ck, m_i M, ↓m_i_b M, m_p M, ↓m_p_b M, m_l M, ↓m_l_b M, m_pl M, ↓m_pl_b M, mr_15 M, ↓mr_15_b M, mr_16 M, ↓mr_16_b M, mr_17 M, ↓mr_17_b M, mr_18 M, ↓mr_18_b M, mr_21 M, ↓mr_21_b M, mr_22 M, ↓mr_22_b M, mr_23 M, ↓mr_23_b M, mr_24 M, ↓mr_24_b M, mr_25 M, ↓mr_25_b M, mr_30 M, ↓mr_30_b M, mr_31 M, ↓mr_31_b M, m90a M, ↓m90a_b M, m90s M, ↓m90s_b M, m91a M, ↓m91a_b M, m91s M, ↓m91s_b M, m92a M, ↓m92a_b M, m92s M, ↓m92s_b M, m93a M, ↓m93a_b M, m93s M, ↓m93s_b M, m94a M, ↓m94a_b M, m94s M, ↓m94s_b M, m95a M, ↓m95a_b M, m95s M, ↓m95s_b M, m96a M, ↓m96a_b M, m96s M, ↓m96s_b M, m97a M, ↓m97a_b M, m97s M, ↓m97s_b M, m98a M, ↓m98a_b M, m98s M, ↓m98s_b M, m99a M, ↓m99a_b M, m99s M, ↓m99s_b M, m100a M, ↓m100a_b M, m100s M, ↓m100s_b M, m90a M, ↓m90a_b M, m90s M, ↓m90s_b M, m91a M, ↓m91a_b M, m91s M, ↓m91s_b M, m92a M, ↓m92a_b M, m92s M, ↓m92s_b M, m93a M, ↓m93a_b M, m93s M, ↓m93s_b M, m94a M, ↓m94a_b M, m94s M, ↓m94s_b M, m95a M, ↓m95a_b M, m95s M, ↓m95s_b M, m96a M, ↓m96a_b M, m96s M, ↓m96s_b M, m97a M, ↓m97a_b M, m97s M, ↓m97s_b M, m98a M, ↓m98a_b M, m98s M, ↓m98s_b M, m99a M, ↓m99a_b M, m99s M, ↓m99s_b M, m100a M, ↓m100a_b M, m100s M, ↓m100s_b M, v1, ↓bn_e (eb), eb, ↓bd_e (gr 5), gr 5, rv_0]
    · rw [if_neg e, if_neg e]
      have bi : (if cN.testBit k.toNat = true then (1 : Int) else 0) = 0 ∨ (if cN.testBit k.toNat = true then (1 : Int) else 0) = 1 := by
        by_cases bb : cN.testBit k.toNat = true
        · rw [if_pos bb]; exact Or.inr rfl
        · rw [if_neg bb]; exact Or.inl rfl
      generalize (if cN.testBit k.toNat = true then (1 : Int) else 0) = bt at eb e bi
      obtain ⟨h2, e2, f2, H2⟩ := D_remembers H
      have M2 := H2.1
      have v2 : ia h2 90 28 = (cN : Int) := by have : ia h2 90 28 = qS a 28 := H2.2.2.1 28 (by omega) (by omega); rw [this, hcN]
      have cl := chg_lt HA ck
      rw [hc] at cl
      have c32' : 2 ^ rn (qL a) ≤ 2 ^ 5 := Nat.pow_le_pow_right (by decide) (by omega)
      have p5 := pw5 k.toNat (by omega)
      have sh := shlZ (z := k) ck.1 (by omega)
      have xj := xorJ cN c3 (2 ^ k.toNat) p5
      have H3 := RI_w90 (z := 28) (v := ((cN ^^^ 2 ^ k.toNat : Nat) : Int)) H2 (by omega) (by omega) (by omega)
      have gg := D_granted (MS_k H3.1)
      refine ⟨da_g (fm_tr f2 (fm_wA (by omega) (by omega))) H3 ?_, Or.inr rfl⟩
      try simp only [j_0, j_1, j_2, j_3, j_4, j_5, j_6, j_7, j_8, j_9, j_10, j_11, j_12, j_13, j_14, j_15, j_16, j_17, j_18, j_19, j_20, j_21, j_22, j_23, j_24, j_25, j_26, j_27, j_28, j_29, j_30, j_31, j_32, j_33, j_34, j_35, j_36, j_37, j_38, j_39, j_40, j_41, j_42, j_43, j_44, j_45, j_46, j_47, j_48, j_49, j_50, j_51, j_52, j_57, j_59, j_63, j_74, j_75, j_93, j_97, j_99, j_100, j_122, j_200, j_255, j_300, j_465, j_496, j_900, j_999, j_1000, j_65536, j_65537, j_99999, j_252645135, j_858993459, j_1431655765, k_0, k_1, k_27, k_32, k_74, k_75, k_100, k_1000, k_65537]
      simp (disch := first | with_reducible assumption | omega | trivial) only [↓bn_s1, ↓bd_s1, ↓ei_l1, ↓ei_r1, ↓bn_if, ↓ilt_1, ↓ilt_0, ↓ieq_1, ↓ieq_0, bn_s1, bd_s1, ei_l1, ei_r1, J_add, J_sub, J_mul, J_neg, J_lt, J_le, J_eq, dv_J, rm_J, if_pos, if_neg, ↓reduceIte, bitJ, shlJ, orJ, j_0, j_1, j_2, j_3, j_4, j_5, j_6, j_7, j_8, j_9, j_10, j_11, j_12, j_13, j_14, j_15, j_16, j_17, j_18, j_19, j_20, j_21, j_22, j_23, j_24, j_25, j_26, j_27, j_28, j_29, j_30, j_31, j_32, j_33, j_34, j_35, j_36, j_37, j_38, j_39, j_40, j_41, j_42, j_43, j_44, j_45, j_46, j_47, j_48, j_49, j_50, j_51, j_52, j_57, j_59, j_63, j_74, j_75, j_93, j_97, j_99, j_100, j_122, j_200, j_255, j_300, j_465, j_496, j_900, j_999, j_1000, j_65536, j_65537, j_99999, j_252645135, j_858993459, j_1431655765, k_0, k_1, k_27, k_32, k_74, k_75, k_100, k_1000, k_65537, ↓bn_e (im2_1 HA H hk ck), im2_1 HA H hk ck, m_i M, ↓m_i_b M, m_p M, ↓m_p_b M, m_l M, ↓m_l_b M, m_pl M, ↓m_pl_b M, mr_15 M, ↓mr_15_b M, mr_16 M, ↓mr_16_b M, mr_17 M, ↓mr_17_b M, mr_18 M, ↓mr_18_b M, mr_21 M, ↓mr_21_b M, mr_22 M, ↓mr_22_b M, mr_23 M, ↓mr_23_b M, mr_24 M, ↓mr_24_b M, mr_25 M, ↓mr_25_b M, mr_30 M, ↓mr_30_b M, mr_31 M, ↓mr_31_b M, m90a M, ↓m90a_b M, m90s M, ↓m90s_b M, m91a M, ↓m91a_b M, m91s M, ↓m91s_b M, m92a M, ↓m92a_b M, m92s M, ↓m92s_b M, m93a M, ↓m93a_b M, m93s M, ↓m93s_b M, m94a M, ↓m94a_b M, m94s M, ↓m94s_b M, m95a M, ↓m95a_b M, m95s M, ↓m95s_b M, m96a M, ↓m96a_b M, m96s M, ↓m96s_b M, m97a M, ↓m97a_b M, m97s M, ↓m97s_b M, m98a M, ↓m98a_b M, m98s M, ↓m98s_b M, m99a M, ↓m99a_b M, m99s M, ↓m99s_b M, m100a M, ↓m100a_b M, m100s M, ↓m100s_b M, m90a M, ↓m90a_b M, m90s M, ↓m90s_b M, m91a M, ↓m91a_b M, m91s M, ↓m91s_b M, m92a M, ↓m92a_b M, m92s M, ↓m92s_b M, m93a M, ↓m93a_b M, m93s M, ↓m93s_b M, m94a M, ↓m94a_b M, m94s M, ↓m94s_b M, m95a M, ↓m95a_b M, m95s M, ↓m95s_b M, m96a M, ↓m96a_b M, m96s M, ↓m96s_b M, m97a M, ↓m97a_b M, m97s M, ↓m97s_b M, m98a M, ↓m98a_b M, m98s M, ↓m98s_b M, m99a M, ↓m99a_b M, m99s M, ↓m99s_b M, m100a M, ↓m100a_b M, m100s M, ↓m100s_b M, v1, ↓bn_e (eb), eb, ↓bn_e (e2), e2, m_i M2, ↓m_i_b M2, m_p M2, ↓m_p_b M2, m_l M2, ↓m_l_b M2, m_pl M2, ↓m_pl_b M2, mr_15 M2, ↓mr_15_b M2, mr_16 M2, ↓mr_16_b M2, mr_17 M2, ↓mr_17_b M2, mr_18 M2, ↓mr_18_b M2, mr_21 M2, ↓mr_21_b M2, mr_22 M2, ↓mr_22_b M2, mr_23 M2, ↓mr_23_b M2, mr_24 M2, ↓mr_24_b M2, mr_25 M2, ↓mr_25_b M2, mr_30 M2, ↓mr_30_b M2, mr_31 M2, ↓mr_31_b M2, m90a M2, ↓m90a_b M2, m90s M2, ↓m90s_b M2, m91a M2, ↓m91a_b M2, m91s M2, ↓m91s_b M2, m92a M2, ↓m92a_b M2, m92s M2, ↓m92s_b M2, m93a M2, ↓m93a_b M2, m93s M2, ↓m93s_b M2, m94a M2, ↓m94a_b M2, m94s M2, ↓m94s_b M2, m95a M2, ↓m95a_b M2, m95s M2, ↓m95s_b M2, m96a M2, ↓m96a_b M2, m96s M2, ↓m96s_b M2, m97a M2, ↓m97a_b M2, m97s M2, ↓m97s_b M2, m98a M2, ↓m98a_b M2, m98s M2, ↓m98s_b M2, m99a M2, ↓m99a_b M2, m99s M2, ↓m99s_b M2, m100a M2, ↓m100a_b M2, m100s M2, ↓m100s_b M2, m90a M2, ↓m90a_b M2, m90s M2, ↓m90s_b M2, m91a M2, ↓m91a_b M2, m91s M2, ↓m91s_b M2, m92a M2, ↓m92a_b M2, m92s M2, ↓m92s_b M2, m93a M2, ↓m93a_b M2, m93s M2, ↓m93s_b M2, m94a M2, ↓m94a_b M2, m94s M2, ↓m94s_b M2, m95a M2, ↓m95a_b M2, m95s M2, ↓m95s_b M2, m96a M2, ↓m96a_b M2, m96s M2, ↓m96s_b M2, m97a M2, ↓m97a_b M2, m97s M2, ↓m97s_b M2, m98a M2, ↓m98a_b M2, m98s M2, ↓m98s_b M2, m99a M2, ↓m99a_b M2, m99s M2, ↓m99s_b M2, m100a M2, ↓m100a_b M2, m100s M2, ↓m100s_b M2, v2, sh, xj, ↓bd_e (gg), gg, rv_1]
  · rw [if_neg ck, if_neg ck]
    refine ⟨da_r (fm_rf _ _ _) H (by omega) (by omega) ?_, Or.inl rfl⟩
    try simp only [j_0, j_1, j_2, j_3, j_4, j_5, j_6, j_7, j_8, j_9, j_10, j_11, j_12, j_13, j_14, j_15, j_16, j_17, j_18, j_19, j_20, j_21, j_22, j_23, j_24, j_25, j_26, j_27, j_28, j_29, j_30, j_31, j_32, j_33, j_34, j_35, j_36, j_37, j_38, j_39, j_40, j_41, j_42, j_43, j_44, j_45, j_46, j_47, j_48, j_49, j_50, j_51, j_52, j_57, j_59, j_63, j_74, j_75, j_93, j_97, j_99, j_100, j_122, j_200, j_255, j_300, j_465, j_496, j_900, j_999, j_1000, j_65536, j_65537, j_99999, j_252645135, j_858993459, j_1431655765, k_0, k_1, k_27, k_32, k_74, k_75, k_100, k_1000, k_65537]
    simp (disch := first | with_reducible assumption | omega | trivial) only [↓bn_s1, ↓bd_s1, ↓ei_l1, ↓ei_r1, ↓bn_if, ↓ilt_1, ↓ilt_0, ↓ieq_1, ↓ieq_0, bn_s1, bd_s1, ei_l1, ei_r1, J_add, J_sub, J_mul, J_neg, J_lt, J_le, J_eq, dv_J, rm_J, if_pos, if_neg, ↓reduceIte, bitJ, shlJ, orJ, j_0, j_1, j_2, j_3, j_4, j_5, j_6, j_7, j_8, j_9, j_10, j_11, j_12, j_13, j_14, j_15, j_16, j_17, j_18, j_19, j_20, j_21, j_22, j_23, j_24, j_25, j_26, j_27, j_28, j_29, j_30, j_31, j_32, j_33, j_34, j_35, j_36, j_37, j_38, j_39, j_40, j_41, j_42, j_43, j_44, j_45, j_46, j_47, j_48, j_49, j_50, j_51, j_52, j_57, j_59, j_63, j_74, j_75, j_93, j_97, j_99, j_100, j_122, j_200, j_255, j_300, j_465, j_496, j_900, j_999, j_1000, j_65536, j_65537, j_99999, j_252645135, j_858993459, j_1431655765, k_0, k_1, k_27, k_32, k_74, k_75, k_100, k_1000, k_65537, ↓bn_e (im2_0 HA H hk ck), im2_0 HA H hk ck, ↓bd_e (gr 1), gr 1, rv_0]
theorem rv_b {v : Int} (h : v = 0 ∨ v = 1) : retV .boolean (J v) = true := by
  cases h with
  | inl e => rw [e]; exact rv_0
  | inr e => rw [e]; exact rv_1
theorem d_cut {a : Ab} {h : Hp} {k : Int} (HA : AW a) (H : RI a h) (hk : rng k) : Da (F_md_cut 88 (J k) h) h (v_chg a k 1) (a_chg a k 1) := by
  obtain ⟨⟨h', e, f, r⟩, b⟩ := d_chg HA (RI_0 H) hk (i := 1) (by omega)
  refine ⟨h', ?_, fm_tr (fm_wF (by omega) (by omega)) f, r⟩
  unfold F_md_cut
  rw [ck_e (MS_k H.1), j_0, pI_J (MS_k H.1), bn_s1, j_1, e, bd_s1, if_pos (rv_b b)]
theorem d_tie {a : Ab} {h : Hp} {k : Int} (HA : AW a) (H : RI a h) (hk : rng k) : Da (F_md_tie 88 (J k) h) h (v_chg a k 0) (a_chg a k 0) := by
  obtain ⟨⟨h', e, f, r⟩, b⟩ := d_chg HA (RI_0 H) hk (i := 0) (by omega)
  refine ⟨h', ?_, fm_tr (fm_wF (by omega) (by omega)) f, r⟩
  unfold F_md_tie
  rw [ck_e (MS_k H.1), j_0, pI_J (MS_k H.1), bn_s1, e, bd_s1, if_pos (rv_b b)]
/-! seed -/
def a_sed (a : Ab) (v : Int) : Ab := if ¬ qL a 1 0 = 0 then (if 0 ≤ v ∧ v ≤ 65536 then sTr (sS a (upS (qS a) 30 v)) 0 else sTr a 2) else sTr a 1
def v_sed (a : Ab) (v : Int) : Int := if ¬ qL a 1 0 = 0 then (if 0 ≤ v ∧ v ≤ 65536 then 1 else 0) else 0
theorem SG_30 {L : Lk} {S : Sk} (HL : LW L) (H : SG L S) {v : Int} (hv : 0 ≤ v ∧ v ≤ 65536) : SG L (upS S 30 v) := by
  have b3 := LW_g HL
  refine ⟨sw_30 HL H.1 hv, ?_, fun j j0 j1 => ?_⟩
  · rw [upS_ne (by omega)]; exact H.2.1
  · rw [upS_ne (by omega)]; exact H.2.2 j j0 j1
theorem AW_sed {a : Ab} {v : Int} (HA : AW a) : AW (a_sed a v) := by
  unfold a_sed
  by_cases c : ¬ qL a 1 0 = 0
  · rw [if_pos c]
    by_cases d : 0 ≤ v ∧ v ≤ 65536
    · rw [if_pos d]; exact AW_w (by omega) (AW_sS HA (SG_30 HA.1 HA.2.1 d))
    · rw [if_neg d]; exact AW_w (by omega) HA
  · rw [if_neg c]; exact AW_w (by omega) HA
theorem c_sed {a : Ab} {t : Nat} {h : Hp} {v : Int} (HA : AW a) (H : CI a t h) (hv : rng v) : Ca (F_cs_seed 0 (J v) h) h (v_sed a v) (a_sed a v) t := by
  have kx := XS_k (XV_x H.1)
  have eo := pr_o (n := v) (lo := 0) (hi := 65536) rfl rfl hv (by omega)
  have el := pr_L HA H
  unfold F_cs_seed v_sed a_sed
  rw [ck_e kx]
  by_cases c : ¬ qL a 1 0 = 0
  · rw [if_pos c] at el
    rw [if_pos c, if_pos c]
    by_cases d : 0 ≤ v ∧ v ≤ 65536
    · rw [if_pos d] at eo
      rw [if_pos d, if_pos d]
      have H1 := CI_w (v := 0) (by omega) H
      have V1 := H1.1
      have f2 : Fm 44 47 (wF h 0 12 0) (wF (wF h 0 12 0) 44 3 v) := fm_wF (by omega) (by omega)
      have b3 := LW_g HA.1
      have S2 : SR (qL a) 44 (upS (qS a) 30 v) (wF (wF h 0 12 0) 44 3 v) := by
        have HS := H1.2.2.1
        refine ⟨fun i i0 i1 => ?_, fun g g0 g1 => ?_, ?_, ?_, ?_⟩
        · rw [upS_ne (by omega)]; exact HS.1 i i0 i1
        · rw [upS_ne (by omega)]; exact HS.2.1 g g0 g1
        · rw [upS_ne (by omega), fi_ne (by omega)]; exact HS.2.2.1
        · rw [fi_same (by omega) (by omega)]; exact (if_pos rfl).symm
        · rw [upS_ne (by omega), fi_ne (by omega)]; exact HS.2.2.2.2
      have H2 := CI_S f2 (by omega) (by omega) H1 S2
      refine ⟨_, ?_, fm_tr (fm_wF (by omega) (by omega)) (fm_wd f2 (by omega) (by omega)), H2⟩
      try simp only [j_0, j_1, j_2, j_3, j_4, j_5, j_6, j_7, j_8, j_9, j_10, j_11, j_12, j_13, j_14, j_15, j_16, j_17, j_18, j_19, j_20, j_21, j_22, j_23, j_24, j_25, j_26, j_27, j_28, j_29, j_30, j_31, j_32, j_33, j_34, j_35, j_36, j_37, j_38, j_39, j_40, j_41, j_42, j_43, j_44, j_45, j_46, j_47, j_48, j_49, j_50, j_51, j_52, j_57, j_59, j_63, j_74, j_75, j_93, j_97, j_99, j_100, j_122, j_200, j_255, j_300, j_465, j_496, j_900, j_999, j_1000, j_65536, j_65537, j_99999, j_252645135, j_858993459, j_1431655765, k_0, k_1, k_27, k_32, k_74, k_75, k_100, k_1000, k_65537]
      simp (disch := first | with_reducible assumption | omega | trivial) only [↓bn_s1, ↓bd_s1, ↓ei_l1, ↓ei_r1, ↓bn_if, ↓ilt_1, ↓ilt_0, ↓ieq_1, ↓ieq_0, bn_s1, bd_s1, ei_l1, ei_r1, J_add, J_sub, J_mul, J_neg, J_lt, J_le, J_eq, dv_J, rm_J, if_pos, if_neg, ↓reduceIte, bitJ, shlJ, orJ, j_0, j_1, j_2, j_3, j_4, j_5, j_6, j_7, j_8, j_9, j_10, j_11, j_12, j_13, j_14, j_15, j_16, j_17, j_18, j_19, j_20, j_21, j_22, j_23, j_24, j_25, j_26, j_27, j_28, j_29, j_30, j_31, j_32, j_33, j_34, j_35, j_36, j_37, j_38, j_39, j_40, j_41, j_42, j_43, j_44, j_45, j_46, j_47, j_48, j_49, j_50, j_51, j_52, j_57, j_59, j_63, j_74, j_75, j_93, j_97, j_99, j_100, j_122, j_200, j_255, j_300, j_465, j_496, j_900, j_999, j_1000, j_65536, j_65537, j_99999, j_252645135, j_858993459, j_1431655765, k_0, k_1, k_27, k_32, k_74, k_75, k_100, k_1000, k_65537, ↓bn_e (el), el, ↓bn_e (eo), eo, ↓bd_e (ref_0 kx), ref_0 kx, vr_0 V1, ↓vr_0_b V1, vr_2 V1, ↓vr_2_b V1, vr_4 V1, ↓vr_4_b V1, vr_5 V1, ↓vr_5_b V1, vr_6 V1, ↓vr_6_b V1, vr_7 V1, ↓vr_7_b V1, vr_8 V1, ↓vr_8_b V1, vr_9 V1, ↓vr_9_b V1, vr_10 V1, ↓vr_10_b V1, vr_11 V1, ↓vr_11_b V1, vr_3 V1, ↓vr_3_b V1, v0i V1, ↓v0i_b V1, v0p V1, ↓v0p_b V1, sr44_0 V1, ↓sr44_0_b V1, sr44_1 V1, ↓sr44_1_b V1, s44i V1, ↓s44i_b V1, s44p V1, ↓s44p_b V1, s45a V1, ↓s45a_b V1, s45s V1, ↓s45s_b V1, s46a V1, ↓s46a_b V1, s46s V1, ↓s46s_b V1]
    · rw [if_neg d] at eo
      rw [if_neg d, if_neg d]
      refine ca_r H (by omega) ?_
      try simp only [j_0, j_1, j_2, j_3, j_4, j_5, j_6, j_7, j_8, j_9, j_10, j_11, j_12, j_13, j_14, j_15, j_16, j_17, j_18, j_19, j_20, j_21, j_22, j_23, j_24, j_25, j_26, j_27, j_28, j_29, j_30, j_31, j_32, j_33, j_34, j_35, j_36, j_37, j_38, j_39, j_40, j_41, j_42, j_43, j_44, j_45, j_46, j_47, j_48, j_49, j_50, j_51, j_52, j_57, j_59, j_63, j_74, j_75, j_93, j_97, j_99, j_100, j_122, j_200, j_255, j_300, j_465, j_496, j_900, j_999, j_1000, j_65536, j_65537, j_99999, j_252645135, j_858993459, j_1431655765, k_0, k_1, k_27, k_32, k_74, k_75, k_100, k_1000, k_65537]
      simp (disch := first | with_reducible assumption | omega | trivial) only [↓bn_s1, ↓bd_s1, ↓ei_l1, ↓ei_r1, ↓bn_if, ↓ilt_1, ↓ilt_0, ↓ieq_1, ↓ieq_0, bn_s1, bd_s1, ei_l1, ei_r1, J_add, J_sub, J_mul, J_neg, J_lt, J_le, J_eq, dv_J, rm_J, if_pos, if_neg, ↓reduceIte, bitJ, shlJ, orJ, j_0, j_1, j_2, j_3, j_4, j_5, j_6, j_7, j_8, j_9, j_10, j_11, j_12, j_13, j_14, j_15, j_16, j_17, j_18, j_19, j_20, j_21, j_22, j_23, j_24, j_25, j_26, j_27, j_28, j_29, j_30, j_31, j_32, j_33, j_34, j_35, j_36, j_37, j_38, j_39, j_40, j_41, j_42, j_43, j_44, j_45, j_46, j_47, j_48, j_49, j_50, j_51, j_52, j_57, j_59, j_63, j_74, j_75, j_93, j_97, j_99, j_100, j_122, j_200, j_255, j_300, j_465, j_496, j_900, j_999, j_1000, j_65536, j_65537, j_99999, j_252645135, j_858993459, j_1431655765, k_0, k_1, k_27, k_32, k_74, k_75, k_100, k_1000, k_65537, ↓bn_e (el), el, ↓bn_e (eo), eo, ↓bd_e (ref_2 kx), ref_2 kx]
  · rw [if_neg c] at el
    rw [if_neg c, if_neg c]
    refine ca_r H (by omega) ?_
    by_cases d : 0 ≤ v ∧ v ≤ 65536
    · rw [if_pos d] at eo
      try simp only [j_0, j_1, j_2, j_3, j_4, j_5, j_6, j_7, j_8, j_9, j_10, j_11, j_12, j_13, j_14, j_15, j_16, j_17, j_18, j_19, j_20, j_21, j_22, j_23, j_24, j_25, j_26, j_27, j_28, j_29, j_30, j_31, j_32, j_33, j_34, j_35, j_36, j_37, j_38, j_39, j_40, j_41, j_42, j_43, j_44, j_45, j_46, j_47, j_48, j_49, j_50, j_51, j_52, j_57, j_59, j_63, j_74, j_75, j_93, j_97, j_99, j_100, j_122, j_200, j_255, j_300, j_465, j_496, j_900, j_999, j_1000, j_65536, j_65537, j_99999, j_252645135, j_858993459, j_1431655765, k_0, k_1, k_27, k_32, k_74, k_75, k_100, k_1000, k_65537]
      simp (disch := first | with_reducible assumption | omega | trivial) only [↓bn_s1, ↓bd_s1, ↓ei_l1, ↓ei_r1, ↓bn_if, ↓ilt_1, ↓ilt_0, ↓ieq_1, ↓ieq_0, bn_s1, bd_s1, ei_l1, ei_r1, J_add, J_sub, J_mul, J_neg, J_lt, J_le, J_eq, dv_J, rm_J, if_pos, if_neg, ↓reduceIte, bitJ, shlJ, orJ, j_0, j_1, j_2, j_3, j_4, j_5, j_6, j_7, j_8, j_9, j_10, j_11, j_12, j_13, j_14, j_15, j_16, j_17, j_18, j_19, j_20, j_21, j_22, j_23, j_24, j_25, j_26, j_27, j_28, j_29, j_30, j_31, j_32, j_33, j_34, j_35, j_36, j_37, j_38, j_39, j_40, j_41, j_42, j_43, j_44, j_45, j_46, j_47, j_48, j_49, j_50, j_51, j_52, j_57, j_59, j_63, j_74, j_75, j_93, j_97, j_99, j_100, j_122, j_200, j_255, j_300, j_465, j_496, j_900, j_999, j_1000, j_65536, j_65537, j_99999, j_252645135, j_858993459, j_1431655765, k_0, k_1, k_27, k_32, k_74, k_75, k_100, k_1000, k_65537, ↓bn_e (el), el, ↓bn_e (eo), eo, ↓bd_e (ref_1 kx 0), ref_1 kx 0]
    · rw [if_neg d] at eo
      try simp only [j_0, j_1, j_2, j_3, j_4, j_5, j_6, j_7, j_8, j_9, j_10, j_11, j_12, j_13, j_14, j_15, j_16, j_17, j_18, j_19, j_20, j_21, j_22, j_23, j_24, j_25, j_26, j_27, j_28, j_29, j_30, j_31, j_32, j_33, j_34, j_35, j_36, j_37, j_38, j_39, j_40, j_41, j_42, j_43, j_44, j_45, j_46, j_47, j_48, j_49, j_50, j_51, j_52, j_57, j_59, j_63, j_74, j_75, j_93, j_97, j_99, j_100, j_122, j_200, j_255, j_300, j_465, j_496, j_900, j_999, j_1000, j_65536, j_65537, j_99999, j_252645135, j_858993459, j_1431655765, k_0, k_1, k_27, k_32, k_74, k_75, k_100, k_1000, k_65537]
      simp (disch := first | with_reducible assumption | omega | trivial) only [↓bn_s1, ↓bd_s1, ↓ei_l1, ↓ei_r1, ↓bn_if, ↓ilt_1, ↓ilt_0, ↓ieq_1, ↓ieq_0, bn_s1, bd_s1, ei_l1, ei_r1, J_add, J_sub, J_mul, J_neg, J_lt, J_le, J_eq, dv_J, rm_J, if_pos, if_neg, ↓reduceIte, bitJ, shlJ, orJ, j_0, j_1, j_2, j_3, j_4, j_5, j_6, j_7, j_8, j_9, j_10, j_11, j_12, j_13, j_14, j_15, j_16, j_17, j_18, j_19, j_20, j_21, j_22, j_23, j_24, j_25, j_26, j_27, j_28, j_29, j_30, j_31, j_32, j_33, j_34, j_35, j_36, j_37, j_38, j_39, j_40, j_41, j_42, j_43, j_44, j_45, j_46, j_47, j_48, j_49, j_50, j_51, j_52, j_57, j_59, j_63, j_74, j_75, j_93, j_97, j_99, j_100, j_122, j_200, j_255, j_300, j_465, j_496, j_900, j_999, j_1000, j_65536, j_65537, j_99999, j_252645135, j_858993459, j_1431655765, k_0, k_1, k_27, k_32, k_74, k_75, k_100, k_1000, k_65537, ↓bn_e (el), el, ↓bn_e (eo), eo, ↓bd_e (ref_1 kx 1), ref_1 kx 1]
theorem d_sed {a : Ab} {h : Hp} {v : Int} (HA : AW a) (H : RI a h) (hv : rng v) : Da (F_md_seed 88 (J v) h) h (v_sed a v) (a_sed a v) := by
  have kx := MS_k H.1
  have H1 := RI_0 H
  have M1 := H1.1
  have f0 : Fm 88 102 h (wF h 88 0 0) := fm_wF (by omega) (by omega)
  have gr := fun (y : Int) => D_denied (y := y) (MS_k M1)
  have ei := in_x (n := v) (lo := 0) (hi := 65536) rfl rfl hv (by omega)
  unfold F_md_seed v_sed a_sed
  rw [ck_e kx]
  by_cases c : ¬ qL a 1 0 = 0
  · rw [if_pos c, if_pos c]
    obtain ⟨b, C1⟩ := lk_1 H1 c
    have ne : ¬ (some b = none) := by intro x; cases x
    by_cases d : 0 ≤ v ∧ v ≤ 65536
    · rw [if_pos d] at ei
      rw [if_pos d, if_pos d]
      have H2 := RI_w90 (z := 30) (v := v) H1 (by omega) (by omega) (by omega)
      have gg := D_granted (MS_k H2.1)
      refine da_g (fm_tr f0 (fm_wA (by omega) (by omega))) H2 ?_
      try simp only [j_0, j_1, j_2, j_3, j_4, j_5, j_6, j_7, j_8, j_9, j_10, j_11, j_12, j_13, j_14, j_15, j_16, j_17, j_18, j_19, j_20, j_21, j_22, j_23, j_24, j_25, j_26, j_27, j_28, j_29, j_30, j_31, j_32, j_33, j_34, j_35, j_36, j_37, j_38, j_39, j_40, j_41, j_42, j_43, j_44, j_45, j_46, j_47, j_48, j_49, j_50, j_51, j_52, j_57, j_59, j_63, j_74, j_75, j_93, j_97, j_99, j_100, j_122, j_200, j_255, j_300, j_465, j_496, j_900, j_999, j_1000, j_65536, j_65537, j_99999, j_252645135, j_858993459, j_1431655765, k_0, k_1, k_27, k_32, k_74, k_75, k_100, k_1000, k_65537]
      simp (disch := first | with_reducible assumption | omega | trivial) only [↓bn_s1, ↓bd_s1, ↓ei_l1, ↓ei_r1, ↓bn_if, ↓ilt_1, ↓ilt_0, ↓ieq_1, ↓ieq_0, bn_s1, bd_s1, ei_l1, ei_r1, J_add, J_sub, J_mul, J_neg, J_lt, J_le, J_eq, dv_J, rm_J, if_pos, if_neg, ↓reduceIte, bitJ, shlJ, orJ, j_0, j_1, j_2, j_3, j_4, j_5, j_6, j_7, j_8, j_9, j_10, j_11, j_12, j_13, j_14, j_15, j_16, j_17, j_18, j_19, j_20, j_21, j_22, j_23, j_24, j_25, j_26, j_27, j_28, j_29, j_30, j_31, j_32, j_33, j_34, j_35, j_36, j_37, j_38, j_39, j_40, j_41, j_42, j_43, j_44, j_45, j_46, j_47, j_48, j_49, j_50, j_51, j_52, j_57, j_59, j_63, j_74, j_75, j_93, j_97, j_99, j_100, j_122, j_200, j_255, j_300, j_465, j_496, j_900, j_999, j_1000, j_65536, j_65537, j_99999, j_252645135, j_858993459, j_1431655765, k_0, k_1, k_27, k_32, k_74, k_75, k_100, k_1000, k_65537, ↓bn_e (pI_J kx), pI_J kx, cl_r C1, ↓cl_r_b C1, cl_q C1, ↓cl_q_b C1, ci_0 C1, ↓ci_0_b C1, ci_1 C1, ↓ci_1_b C1, ci_2 C1, ↓ci_2_b C1, ci_3 C1, ↓ci_3_b C1, ci_4 C1, ↓ci_4_b C1, ci_5 C1, ↓ci_5_b C1, ci_6 C1, ↓ci_6_b C1, ci_7 C1, ↓ci_7_b C1, cr_9 C1, ↓cr_9_b C1, cr_10 C1, ↓cr_10_b C1, cr_11 C1, ↓cr_11_b C1, cr_13 C1, ↓cr_13_b C1, cr_14 C1, ↓cr_14_b C1, cr_15 C1, ↓cr_15_b C1, cr_16 C1, ↓cr_16_b C1, cr_17 C1, ↓cr_17_b C1, cr_18 C1, ↓cr_18_b C1, cr_19 C1, ↓cr_19_b C1, cr_20 C1, ↓cr_20_b C1, cr_21 C1, ↓cr_21_b C1, cr_22 C1, ↓cr_22_b C1, cr_23 C1, ↓cr_23_b C1, cr_24 C1, ↓cr_24_b C1, cr_25 C1, ↓cr_25_b C1, cr_26 C1, ↓cr_26_b C1, ca_9 HA.1 C1, ↓ca_9_b HA.1 C1, ca_10 HA.1 C1, ↓ca_10_b HA.1 C1, ca_11 HA.1 C1, ↓ca_11_b HA.1 C1, ca_13 HA.1 C1, ↓ca_13_b HA.1 C1, ca_14 HA.1 C1, ↓ca_14_b HA.1 C1, ca_15 HA.1 C1, ↓ca_15_b HA.1 C1, ca_16 HA.1 C1, ↓ca_16_b HA.1 C1, ca_17 HA.1 C1, ↓ca_17_b HA.1 C1, ca_18 HA.1 C1, ↓ca_18_b HA.1 C1, ca_19 HA.1 C1, ↓ca_19_b HA.1 C1, ca_20 HA.1 C1, ↓ca_20_b HA.1 C1, ca_21 HA.1 C1, ↓ca_21_b HA.1 C1, ca_22 HA.1 C1, ↓ca_22_b HA.1 C1, ca_23 HA.1 C1, ↓ca_23_b HA.1 C1, ca_24 HA.1 C1, ↓ca_24_b HA.1 C1, ca_25 HA.1 C1, ↓ca_25_b HA.1 C1, ca_26 HA.1 C1, ↓ca_26_b HA.1 C1, m_i C1.1, ↓m_i_b C1.1, m_p C1.1, ↓m_p_b C1.1, m_l C1.1, ↓m_l_b C1.1, m_pl C1.1, ↓m_pl_b C1.1, mr_15 C1.1, ↓mr_15_b C1.1, mr_16 C1.1, ↓mr_16_b C1.1, mr_17 C1.1, ↓mr_17_b C1.1, mr_18 C1.1, ↓mr_18_b C1.1, mr_21 C1.1, ↓mr_21_b C1.1, mr_22 C1.1, ↓mr_22_b C1.1, mr_23 C1.1, ↓mr_23_b C1.1, mr_24 C1.1, ↓mr_24_b C1.1, mr_25 C1.1, ↓mr_25_b C1.1, mr_30 C1.1, ↓mr_30_b C1.1, mr_31 C1.1, ↓mr_31_b C1.1, ne, ↓bn_e (ei), ei, m90a M1, ↓m90a_b M1, m90s M1, ↓m90s_b M1, m91a M1, ↓m91a_b M1, m91s M1, ↓m91s_b M1, m92a M1, ↓m92a_b M1, m92s M1, ↓m92s_b M1, m93a M1, ↓m93a_b M1, m93s M1, ↓m93s_b M1, m94a M1, ↓m94a_b M1, m94s M1, ↓m94s_b M1, m95a M1, ↓m95a_b M1, m95s M1, ↓m95s_b M1, m96a M1, ↓m96a_b M1, m96s M1, ↓m96s_b M1, m97a M1, ↓m97a_b M1, m97s M1, ↓m97s_b M1, m98a M1, ↓m98a_b M1, m98s M1, ↓m98s_b M1, m99a M1, ↓m99a_b M1, m99s M1, ↓m99s_b M1, m100a M1, ↓m100a_b M1, m100s M1, ↓m100s_b M1, ↓bd_e (gg), gg, rv_1]
    · rw [if_neg d] at ei
      rw [if_neg d, if_neg d]
      refine da_r f0 H1 (by omega) (by omega) ?_
      try simp only [j_0, j_1, j_2, j_3, j_4, j_5, j_6, j_7, j_8, j_9, j_10, j_11, j_12, j_13, j_14, j_15, j_16, j_17, j_18, j_19, j_20, j_21, j_22, j_23, j_24, j_25, j_26, j_27, j_28, j_29, j_30, j_31, j_32, j_33, j_34, j_35, j_36, j_37, j_38, j_39, j_40, j_41, j_42, j_43, j_44, j_45, j_46, j_47, j_48, j_49, j_50, j_51, j_52, j_57, j_59, j_63, j_74, j_75, j_93, j_97, j_99, j_100, j_122, j_200, j_255, j_300, j_465, j_496, j_900, j_999, j_1000, j_65536, j_65537, j_99999, j_252645135, j_858993459, j_1431655765, k_0, k_1, k_27, k_32, k_74, k_75, k_100, k_1000, k_65537]
      simp (disch := first | with_reducible assumption | omega | trivial) only [↓bn_s1, ↓bd_s1, ↓ei_l1, ↓ei_r1, ↓bn_if, ↓ilt_1, ↓ilt_0, ↓ieq_1, ↓ieq_0, bn_s1, bd_s1, ei_l1, ei_r1, J_add, J_sub, J_mul, J_neg, J_lt, J_le, J_eq, dv_J, rm_J, if_pos, if_neg, ↓reduceIte, bitJ, shlJ, orJ, j_0, j_1, j_2, j_3, j_4, j_5, j_6, j_7, j_8, j_9, j_10, j_11, j_12, j_13, j_14, j_15, j_16, j_17, j_18, j_19, j_20, j_21, j_22, j_23, j_24, j_25, j_26, j_27, j_28, j_29, j_30, j_31, j_32, j_33, j_34, j_35, j_36, j_37, j_38, j_39, j_40, j_41, j_42, j_43, j_44, j_45, j_46, j_47, j_48, j_49, j_50, j_51, j_52, j_57, j_59, j_63, j_74, j_75, j_93, j_97, j_99, j_100, j_122, j_200, j_255, j_300, j_465, j_496, j_900, j_999, j_1000, j_65536, j_65537, j_99999, j_252645135, j_858993459, j_1431655765, k_0, k_1, k_27, k_32, k_74, k_75, k_100, k_1000, k_65537, ↓bn_e (pI_J kx), pI_J kx, cl_r C1, ↓cl_r_b C1, cl_q C1, ↓cl_q_b C1, ci_0 C1, ↓ci_0_b C1, ci_1 C1, ↓ci_1_b C1, ci_2 C1, ↓ci_2_b C1, ci_3 C1, ↓ci_3_b C1, ci_4 C1, ↓ci_4_b C1, ci_5 C1, ↓ci_5_b C1, ci_6 C1, ↓ci_6_b C1, ci_7 C1, ↓ci_7_b C1, cr_9 C1, ↓cr_9_b C1, cr_10 C1, ↓cr_10_b C1, cr_11 C1, ↓cr_11_b C1, cr_13 C1, ↓cr_13_b C1, cr_14 C1, ↓cr_14_b C1, cr_15 C1, ↓cr_15_b C1, cr_16 C1, ↓cr_16_b C1, cr_17 C1, ↓cr_17_b C1, cr_18 C1, ↓cr_18_b C1, cr_19 C1, ↓cr_19_b C1, cr_20 C1, ↓cr_20_b C1, cr_21 C1, ↓cr_21_b C1, cr_22 C1, ↓cr_22_b C1, cr_23 C1, ↓cr_23_b C1, cr_24 C1, ↓cr_24_b C1, cr_25 C1, ↓cr_25_b C1, cr_26 C1, ↓cr_26_b C1, ca_9 HA.1 C1, ↓ca_9_b HA.1 C1, ca_10 HA.1 C1, ↓ca_10_b HA.1 C1, ca_11 HA.1 C1, ↓ca_11_b HA.1 C1, ca_13 HA.1 C1, ↓ca_13_b HA.1 C1, ca_14 HA.1 C1, ↓ca_14_b HA.1 C1, ca_15 HA.1 C1, ↓ca_15_b HA.1 C1, ca_16 HA.1 C1, ↓ca_16_b HA.1 C1, ca_17 HA.1 C1, ↓ca_17_b HA.1 C1, ca_18 HA.1 C1, ↓ca_18_b HA.1 C1, ca_19 HA.1 C1, ↓ca_19_b HA.1 C1, ca_20 HA.1 C1, ↓ca_20_b HA.1 C1, ca_21 HA.1 C1, ↓ca_21_b HA.1 C1, ca_22 HA.1 C1, ↓ca_22_b HA.1 C1, ca_23 HA.1 C1, ↓ca_23_b HA.1 C1, ca_24 HA.1 C1, ↓ca_24_b HA.1 C1, ca_25 HA.1 C1, ↓ca_25_b HA.1 C1, ca_26 HA.1 C1, ↓ca_26_b HA.1 C1, m_i C1.1, ↓m_i_b C1.1, m_p C1.1, ↓m_p_b C1.1, m_l C1.1, ↓m_l_b C1.1, m_pl C1.1, ↓m_pl_b C1.1, mr_15 C1.1, ↓mr_15_b C1.1, mr_16 C1.1, ↓mr_16_b C1.1, mr_17 C1.1, ↓mr_17_b C1.1, mr_18 C1.1, ↓mr_18_b C1.1, mr_21 C1.1, ↓mr_21_b C1.1, mr_22 C1.1, ↓mr_22_b C1.1, mr_23 C1.1, ↓mr_23_b C1.1, mr_24 C1.1, ↓mr_24_b C1.1, mr_25 C1.1, ↓mr_25_b C1.1, mr_30 C1.1, ↓mr_30_b C1.1, mr_31 C1.1, ↓mr_31_b C1.1, ne, ↓bn_e (ei), ei, ↓bd_e (gr 2), gr 2, rv_0]
  · rw [if_neg c, if_neg c]
    have eq : gQ (wF h 88 0 0) 88 13 3 = some none := by rw [gQ_J (MS_k M1), lk_0 H1 (by omega)]
    refine da_r f0 H1 (by omega) (by omega) ?_
    try simp only [j_0, j_1, j_2, j_3, j_4, j_5, j_6, j_7, j_8, j_9, j_10, j_11, j_12, j_13, j_14, j_15, j_16, j_17, j_18, j_19, j_20, j_21, j_22, j_23, j_24, j_25, j_26, j_27, j_28, j_29, j_30, j_31, j_32, j_33, j_34, j_35, j_36, j_37, j_38, j_39, j_40, j_41, j_42, j_43, j_44, j_45, j_46, j_47, j_48, j_49, j_50, j_51, j_52, j_57, j_59, j_63, j_74, j_75, j_93, j_97, j_99, j_100, j_122, j_200, j_255, j_300, j_465, j_496, j_900, j_999, j_1000, j_65536, j_65537, j_99999, j_252645135, j_858993459, j_1431655765, k_0, k_1, k_27, k_32, k_74, k_75, k_100, k_1000, k_65537]
    simp (disch := first | with_reducible assumption | omega | trivial) only [↓bn_s1, ↓bd_s1, ↓ei_l1, ↓ei_r1, ↓bn_if, ↓ilt_1, ↓ilt_0, ↓ieq_1, ↓ieq_0, bn_s1, bd_s1, ei_l1, ei_r1, J_add, J_sub, J_mul, J_neg, J_lt, J_le, J_eq, dv_J, rm_J, if_pos, if_neg, ↓reduceIte, bitJ, shlJ, orJ, j_0, j_1, j_2, j_3, j_4, j_5, j_6, j_7, j_8, j_9, j_10, j_11, j_12, j_13, j_14, j_15, j_16, j_17, j_18, j_19, j_20, j_21, j_22, j_23, j_24, j_25, j_26, j_27, j_28, j_29, j_30, j_31, j_32, j_33, j_34, j_35, j_36, j_37, j_38, j_39, j_40, j_41, j_42, j_43, j_44, j_45, j_46, j_47, j_48, j_49, j_50, j_51, j_52, j_57, j_59, j_63, j_74, j_75, j_93, j_97, j_99, j_100, j_122, j_200, j_255, j_300, j_465, j_496, j_900, j_999, j_1000, j_65536, j_65537, j_99999, j_252645135, j_858993459, j_1431655765, k_0, k_1, k_27, k_32, k_74, k_75, k_100, k_1000, k_65537, ↓bn_e (pI_J kx), pI_J kx, ↓bn_e (eq), eq, ↓bd_e (gr 1), gr 1, rv_0]
