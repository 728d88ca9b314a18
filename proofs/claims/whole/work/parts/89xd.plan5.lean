/-! the search -/
def BH (D H : Nat) (B : Bs) (h : Hp) : Prop := (B = none → fi h 57 0 = -2) ∧ ∀ x p, B = some (x, p) → fi h 57 0 = x ∧ 0 ≤ x ∧ x ≤ 1000 ∧ ∀ d : Nat, d < D → ia h 68 d = (dyo H (p d) : Nat) ∧ (p d ≠ 0 → ia h 69 d = (hmo H (p d) : Nat))
def TQ (H : Nat) (q : Pn) (d : Nat) (h : Hp) : Prop := ∀ e : Nat, e < d → ia h 66 e = (dyo H (q e) : Nat) ∧ (q e ≠ 0 → ia h 67 e = (hmo H (q e) : Nat))
def PH (L : Lk) (t n D : Nat) (l : Int → Int) (B : Bs) (h : Hp) : Prop := XV t h ∧ TR L t h ∧ LH l h ∧ fi h 57 3 = n ∧ BH D (hn L) B h
theorem BH_fm {D H lo hi : Nat} {B : Bs} {h h' : Hp} (x : Fm lo hi h h') (hd : 58 ≤ lo ∧ hi ≤ 68) (X : BH D H B h) : BH D H B h' := by
  refine ⟨fun e => by rw [fm_fi x (by omega)]; exact X.1 e, fun y p e => ?_⟩
  obtain ⟨a1, a2, a3, a4⟩ := X.2 y p e
  refine ⟨by rw [fm_fi x (by omega)]; exact a1, a2, a3, fun d hd' => ?_⟩
  rw [fm_ia x (by omega), fm_ia x (by omega)]
  exact a4 d hd'
theorem TQ_fm {H lo hi d : Nat} {q : Pn} {h h' : Hp} (x : Fm lo hi h h') (hd : hi ≤ 66 ∨ 68 ≤ lo) (X : TQ H q d h) : TQ H q d h' := by
  intro e he
  rw [fm_ia x (by omega), fm_ia x (by omega)]
  exact X e he
abbrev Rs : Type := Nat → Nat → Int32 → Int32 → Hp → Option Hp
def SO (L : Lk) (c t n D : Nat) (rc : Rs) (M : Nat) : Prop := ∀ (k : Nat) (l : Int → Int) (u : Int) (q : Pn) (B : Bs) (h : Hp), k < M → k ≤ D → nff L c l → lbd l k → 0 ≤ u → u + 36 * k ≤ 200 → PH L t n D l B h → TQ (hn L) q (D - k) h → ∃ h', rc 57 t (J ((D - k : Nat) : Int)) (J u) h = some h' ∧ Fm 57 70 h h' ∧ PH L t n D l (mg B (bcr L c D (1 + n * hn L) k l u q)) h' ∧ TQ (hn L) q (D - k) h'
def rsB (rc : Rs) (a0 a1 : Nat) (a2 a3 : Int32) (h : Hp) : Option Hp :=
    (bn (gI h a1 10 1) fun x3 =>
    bn (F_pl_lackingRafts a0 x3 h) fun x6 =>
    bn (gI h a1 10 11) fun x7 =>
    if (x7 - a2) < x6 then
      (some h)
    else
      (bn (gI h a1 10 11) fun x9 =>
      if a2 < x9 then
        (bn (gR h a0 5 5) fun x11 =>
        bn (sI h 100 x11 a2 (0 : Int32)) fun h13 =>
        bn (rc a0 a1 (a2 + (1 : Int32)) a3 h13) fun h16 =>
        bd (lp (B_pl_search_102 rc a0 a1 a2 a3) FU (1 : Int32) h16) fun x52 h54 =>
        some h54)
      else
        (bn (pI h a0 5 0 a3) fun h55 =>
        bn (gR h55 a0 5 5) fun x57 =>
        bn (gR h55 a0 5 7) fun x59 =>
        bn (gR h55 a0 5 7) fun x61 =>
        bn (aN h55 x61) fun x63 =>
        bn (cpI h55 x57 (0 : Int32) x59 (0 : Int32) x63) fun h65 =>
        bn (gR h65 a0 5 6) fun x67 =>
        bn (gR h65 a0 5 8) fun x69 =>
        bn (gR h65 a0 5 8) fun x71 =>
        bn (aN h65 x71) fun x73 =>
        bn (cpI h65 x67 (0 : Int32) x69 (0 : Int32) x73) fun h75 =>
        some h75)))
theorem G_eq (rc : Rs) (a0 a1 : Nat) (a2 a3 : Int32) (h : Hp) : G_pl_search rc a0 a1 a2 a3 h = ck h a0 5 (bn (gI h a0 5 0) fun x1 => if x1 < (0 : Int32) then rsB rc a0 a1 a2 a3 h else (bn (gI h a0 5 0) fun x77 => if a3 < x77 then rsB rc a0 a1 a2 a3 h else some h)) := rfl
theorem cst_36 {L : Lk} (HL : LW L) {d o : Nat} (hd : d < L 4 0) (ho : dyo (hn L) o ≤ 4) : 0 ≤ cst L d o ∧ cst L d o ≤ 36 := by
  have := LW_ds HL d (by omega) hd
  unfold cst
  have e : dyo (hn L) o = 0 ∨ dyo (hn L) o = 1 ∨ dyo (hn L) o = 2 ∨ dyo (hn L) o = 3 ∨ dyo (hn L) o = 4 := by omega
  rcases e with e | e | e | e | e
  all_goals (rw [e]; omega)
/-- the rest of a search that isn't cut by cost -/
theorem C_rest {L : Lk} {c t n D : Nat} {rc : Rs} {M : Nat} (HL : LW L) (hD : (D : Int) = L 4 0) (hn4 : n ≤ 4) (H1 : 1 ≤ L 1 0) (HS : SO L c t n D rc M) (k : Nat) (l : Int → Int) (u : Int) (q : Pn) (B : Bs) (h : Hp) (hk : k < M + 1) (kD : k ≤ D) (hf : nff L c l) (lb : lbd l k) (u0 : 0 ≤ u) (u1 : u + 36 * k ≤ 200) (HP : PH L t n D l B h) (HT : TQ (hn L) q (D - k) h) (nc : ∀ x p, B = some (x, p) → u < x) : ∃ h', rsB rc 57 t (J ((D - k : Nat) : Int)) (J u) h = some h' ∧ Fm 57 70 h h' ∧ PH L t n D l (mg B (bcr L c D (1 + n * hn L) k l u q)) h' ∧ TQ (hn L) q (D - k) h' := by
  have b1 := LW_h HL
  have b4 := LW_d HL
  have hne := hn_e HL
  obtain ⟨V, R, X, n3, BB⟩ := HP
  have ox := XV_o V
  have elk := C_lackingRafts (n := hn L) V X lb (by omega)
  rw [hne] at elk
  have ll := lkn_le l (hn L)
  unfold rsB
  by_cases pr : (k : Int) < lkn l (hn L)
  · -- too many rafts lack
    have nb : bcr L c D (1 + n * hn L) k l u q = none := by
      cases hb : bcr L c D (1 + n * hn L) k l u q with
      | none => rfl
      | some v => have := bcr_lk k l u q v.1 v.2 hb; omega
    rw [nb, mg_n]
    refine ⟨h, ?_, fm_rf _ _ _, ⟨V, R, X, n3, BB⟩, HT⟩
    try simp only [j_0, j_1, j_2, j_3, j_4, j_5, j_6, j_7, j_8, j_9, j_10, j_11, j_12, j_13, j_14, j_15, j_16, j_17, j_18, j_19, j_20, j_21, j_22, j_23, j_24, j_25, j_26, j_27, j_28, j_29, j_30, j_31, j_32, j_33, j_34, j_35, j_36, j_37, j_38, j_39, j_40, j_41, j_42, j_43, j_44, j_45, j_46, j_47, j_48, j_49, j_50, j_51, j_52, j_57, j_59, j_63, j_74, j_75, j_93, j_97, j_99, j_100, j_122, j_200, j_255, j_300, j_465, j_496, j_900, j_999, j_1000, j_65536, j_65537, j_99999, j_252645135, j_858993459, j_1431655765, k_0, k_1, k_27, k_32, k_74, k_75, k_100, k_1000, k_65537]
    simp (disch := first | with_reducible assumption | omega | trivial) only [↓bn_s1, ↓bd_s1, ↓ei_l1, ↓ei_r1, ↓bn_if, ↓ilt_1, ↓ilt_0, ↓ieq_1, ↓ieq_0, bn_s1, bd_s1, ei_l1, ei_r1, J_add, J_sub, J_mul, J_neg, J_lt, J_le, J_eq, dv_J, rm_J, if_pos, if_neg, ↓reduceIte, bitJ, shlJ, orJ, j_0, j_1, j_2, j_3, j_4, j_5, j_6, j_7, j_8, j_9, j_10, j_11, j_12, j_13, j_14, j_15, j_16, j_17, j_18, j_19, j_20, j_21, j_22, j_23, j_24, j_25, j_26, j_27, j_28, j_29, j_30, j_31, j_32, j_33, j_34, j_35, j_36, j_37, j_38, j_39, j_40, j_41, j_42, j_43, j_44, j_45, j_46, j_47, j_48, j_49, j_50, j_51, j_52, j_57, j_59, j_63, j_74, j_75, j_93, j_97, j_99, j_100, j_122, j_200, j_255, j_300, j_465, j_496, j_900, j_999, j_1000, j_65536, j_65537, j_99999, j_252645135, j_858993459, j_1431655765, k_0, k_1, k_27, k_32, k_74, k_75, k_100, k_1000, k_65537, ti_0 (XV_ts V) R, ↓ti_0_b (XV_ts V) R, ti_1 (XV_ts V) R, ↓ti_1_b (XV_ts V) R, ti_5 (XV_ts V) R, ↓ti_5_b (XV_ts V) R, ti_8 (XV_ts V) R, ↓ti_8_b (XV_ts V) R, ti_11 (XV_ts V) R, ↓ti_11_b (XV_ts V) R, ti_14 (XV_ts V) R, ↓ti_14_b (XV_ts V) R, ty_0 (XV_ts V) R, ↓ty_0_b (XV_ts V) R, ty_4 (XV_ts V) R, ↓ty_4_b (XV_ts V) R, trf_18 (XV_ts V), ↓trf_18_b (XV_ts V), trf_3 (XV_ts V), ↓trf_3_b (XV_ts V), trf_4 (XV_ts V), ↓trf_4_b (XV_ts V), trf_6 (XV_ts V), ↓trf_6_b (XV_ts V), trf_7 (XV_ts V), ↓trf_7_b (XV_ts V), trf_9 (XV_ts V), ↓trf_9_b (XV_ts V), trf_10 (XV_ts V), ↓trf_10_b (XV_ts V), trf_12 (XV_ts V), ↓trf_12_b (XV_ts V), trf_13 (XV_ts V), ↓trf_13_b (XV_ts V), trf_15 (XV_ts V), ↓trf_15_b (XV_ts V), trf_16 (XV_ts V), ↓trf_16_b (XV_ts V), trf_17 (XV_ts V), ↓trf_17_b (XV_ts V), try_1 (XV_ts V), ↓try_1_b (XV_ts V), try_2 (XV_ts V), ↓try_2_b (XV_ts V), try_3 (XV_ts V), ↓try_3_b (XV_ts V), try_5 (XV_ts V), ↓try_5_b (XV_ts V), try_6 (XV_ts V), ↓try_6_b (XV_ts V), ta_3 HL (XV_ts V) R, ↓ta_3_b HL (XV_ts V) R, ta_4 HL (XV_ts V) R, ↓ta_4_b HL (XV_ts V) R, ta_6 HL (XV_ts V) R, ↓ta_6_b HL (XV_ts V) R, ta_7 HL (XV_ts V) R, ↓ta_7_b HL (XV_ts V) R, ta_9 HL (XV_ts V) R, ↓ta_9_b HL (XV_ts V) R, ta_10 HL (XV_ts V) R, ↓ta_10_b HL (XV_ts V) R, ta_12 HL (XV_ts V) R, ↓ta_12_b HL (XV_ts V) R, ta_13 HL (XV_ts V) R, ↓ta_13_b HL (XV_ts V) R, ta_15 HL (XV_ts V) R, ↓ta_15_b HL (XV_ts V) R, ta_16 HL (XV_ts V) R, ↓ta_16_b HL (XV_ts V) R, ta_17 HL (XV_ts V) R, ↓ta_17_b HL (XV_ts V) R, tz_1 HL (XV_ts V) R, ↓tz_1_b HL (XV_ts V) R, tz_2 HL (XV_ts V) R, ↓tz_2_b HL (XV_ts V) R, tz_3 HL (XV_ts V) R, ↓tz_3_b HL (XV_ts V) R, tz_5 HL (XV_ts V) R, ↓tz_5_b HL (XV_ts V) R, tz_6 HL (XV_ts V) R, ↓tz_6_b HL (XV_ts V) R, ↓bn_e (elk), elk]
  · cases k with
    | zero =>
      -- a plan
      have l0 : lkn l (hn L) = 0 := by omega
      have eb : bcr L c D (1 + n * hn L) 0 l u q = some (u, q) := by
        show (if lkn l (hn L) = 0 then some (u, q) else none) = _
        rw [if_pos l0]
      have em : mg B (some (u, q)) = some (u, q) := by
        cases B with
        | none => rfl
        | some v =>
          show (if u < v.1 then some (u, q) else some v) = _
          rw [if_pos (nc v.1 v.2 rfl)]
      rw [eb, em]
      have f1 : Fm 57 70 h (wF h 57 0 u) := fm_wF (by omega) (by omega)
      have V1 := XV_fm f1 (by omega) V
      have P1 := XV_p V1
      have n7 : aN (wF h 57 0 u) 68 = some (J (3 : Nat)) := aN_J (PS_k7 P1) (PS_n7 P1)
      replace n7 : aN (wF h 57 0 u) 68 = some (J 3) := n7
      have m5 := PS_n5 P1
      have m7 := PS_n7 P1
      obtain ⟨h2, e2, f2, y2⟩ := cp_J (h := wF h 57 0 u) (a := 66) (b := 68) (x := 0) (y := 0) (n := 3) (PS_k5 P1) (PS_k7 P1) (by omega) (by omega) (by omega) (by omega) (by omega) (by omega) (by omega) (by omega) (by omega) (by omega)
      have V2 := XV_fm f2 (by omega) V1
      have P2 := XV_p V2
      have n8 : aN h2 69 = some (J (3 : Nat)) := aN_J (PS_k8 P2) (PS_n8 P2)
      replace n8 : aN h2 69 = some (J 3) := n8
      have m6 := PS_n6 P2
      have m8 := PS_n8 P2
      obtain ⟨h3, e3, f3, y3⟩ := cp_J (h := h2) (a := 67) (b := 69) (x := 0) (y := 0) (n := 3) (PS_k6 P2) (PS_k8 P2) (by omega) (by omega) (by omega) (by omega) (by omega) (by omega) (by omega) (by omega) (by omega) (by omega)
      have f13 : Fm 57 70 h h3 := fm_tr f1 (fm_tr (fm_wd f2 (by omega) (by omega)) (fm_wd f3 (by omega) (by omega)))
      have V3 := XV_fm f13 (by omega) V
      have i3 : ∀ y, y ≠ 68 → y ≠ 69 → ∀ z, ia h3 y z = ia h y z := fun y hy hy' z => by rw [fm_ia f3 (by omega), fm_ia f2 (by omega)]; rfl
      have fk : ∀ j, j ≠ 0 → fi h3 57 j = fi h 57 j := fun j hj => by rw [fm_fi f3 (by omega), fm_fi f2 (by omega), fi_ne (Or.inr hj)]
      have f0 : fi h3 57 0 = u := by rw [fm_fi f3 (by omega), fm_fi f2 (by omega)]; exact fi_same (by omega) (by omega)
      refine ⟨h3, ?_, f13, ⟨V3, TR_fm f13 (by omega) R, fun i i0 i1 => by rw [i3 65 (by omega) (by omega)]; exact X i i0 i1, by rw [fk 3 (by omega)]; exact n3, ⟨fun e => (by cases e), fun x p e => ?_⟩⟩, fun e he => ?_⟩
      · have d0 : D - 0 = D := by omega
        rw [d0]
        try simp only [j_0, j_1, j_2, j_3, j_4, j_5, j_6, j_7, j_8, j_9, j_10, j_11, j_12, j_13, j_14, j_15, j_16, j_17, j_18, j_19, j_20, j_21, j_22, j_23, j_24, j_25, j_26, j_27, j_28, j_29, j_30, j_31, j_32, j_33, j_34, j_35, j_36, j_37, j_38, j_39, j_40, j_41, j_42, j_43, j_44, j_45, j_46, j_47, j_48, j_49, j_50, j_51, j_52, j_57, j_59, j_63, j_74, j_75, j_93, j_97, j_99, j_100, j_122, j_200, j_255, j_300, j_465, j_496, j_900, j_999, j_1000, j_65536, j_65537, j_99999, j_252645135, j_858993459, j_1431655765, k_0, k_1, k_27, k_32, k_74, k_75, k_100, k_1000, k_65537]
        simp (disch := first | with_reducible assumption | omega | trivial) only [↓bn_s1, ↓bd_s1, ↓ei_l1, ↓ei_r1, ↓bn_if, ↓ilt_1, ↓ilt_0, ↓ieq_1, ↓ieq_0, bn_s1, bd_s1, ei_l1, ei_r1, J_add, J_sub, J_mul, J_neg, J_lt, J_le, J_eq, dv_J, rm_J, if_pos, if_neg, ↓reduceIte, bitJ, shlJ, orJ, j_0, j_1, j_2, j_3, j_4, j_5, j_6, j_7, j_8, j_9, j_10, j_11, j_12, j_13, j_14, j_15, j_16, j_17, j_18, j_19, j_20, j_21, j_22, j_23, j_24, j_25, j_26, j_27, j_28, j_29, j_30, j_31, j_32, j_33, j_34, j_35, j_36, j_37, j_38, j_39, j_40, j_41, j_42, j_43, j_44, j_45, j_46, j_47, j_48, j_49, j_50, j_51, j_52, j_57, j_59, j_63, j_74, j_75, j_93, j_97, j_99, j_100, j_122, j_200, j_255, j_300, j_465, j_496, j_900, j_999, j_1000, j_65536, j_65537, j_99999, j_252645135, j_858993459, j_1431655765, k_0, k_1, k_27, k_32, k_74, k_75, k_100, k_1000, k_65537, ti_0 (XV_ts V) R, ↓ti_0_b (XV_ts V) R, ti_1 (XV_ts V) R, ↓ti_1_b (XV_ts V) R, ti_5 (XV_ts V) R, ↓ti_5_b (XV_ts V) R, ti_8 (XV_ts V) R, ↓ti_8_b (XV_ts V) R, ti_11 (XV_ts V) R, ↓ti_11_b (XV_ts V) R, ti_14 (XV_ts V) R, ↓ti_14_b (XV_ts V) R, ty_0 (XV_ts V) R, ↓ty_0_b (XV_ts V) R, ty_4 (XV_ts V) R, ↓ty_4_b (XV_ts V) R, trf_18 (XV_ts V), ↓trf_18_b (XV_ts V), trf_3 (XV_ts V), ↓trf_3_b (XV_ts V), trf_4 (XV_ts V), ↓trf_4_b (XV_ts V), trf_6 (XV_ts V), ↓trf_6_b (XV_ts V), trf_7 (XV_ts V), ↓trf_7_b (XV_ts V), trf_9 (XV_ts V), ↓trf_9_b (XV_ts V), trf_10 (XV_ts V), ↓trf_10_b (XV_ts V), trf_12 (XV_ts V), ↓trf_12_b (XV_ts V), trf_13 (XV_ts V), ↓trf_13_b (XV_ts V), trf_15 (XV_ts V), ↓trf_15_b (XV_ts V), trf_16 (XV_ts V), ↓trf_16_b (XV_ts V), trf_17 (XV_ts V), ↓trf_17_b (XV_ts V), try_1 (XV_ts V), ↓try_1_b (XV_ts V), try_2 (XV_ts V), ↓try_2_b (XV_ts V), try_3 (XV_ts V), ↓try_3_b (XV_ts V), try_5 (XV_ts V), ↓try_5_b (XV_ts V), try_6 (XV_ts V), ↓try_6_b (XV_ts V), ta_3 HL (XV_ts V) R, ↓ta_3_b HL (XV_ts V) R, ta_4 HL (XV_ts V) R, ↓ta_4_b HL (XV_ts V) R, ta_6 HL (XV_ts V) R, ↓ta_6_b HL (XV_ts V) R, ta_7 HL (XV_ts V) R, ↓ta_7_b HL (XV_ts V) R, ta_9 HL (XV_ts V) R, ↓ta_9_b HL (XV_ts V) R, ta_10 HL (XV_ts V) R, ↓ta_10_b HL (XV_ts V) R, ta_12 HL (XV_ts V) R, ↓ta_12_b HL (XV_ts V) R, ta_13 HL (XV_ts V) R, ↓ta_13_b HL (XV_ts V) R, ta_15 HL (XV_ts V) R, ↓ta_15_b HL (XV_ts V) R, ta_16 HL (XV_ts V) R, ↓ta_16_b HL (XV_ts V) R, ta_17 HL (XV_ts V) R, ↓ta_17_b HL (XV_ts V) R, tz_1 HL (XV_ts V) R, ↓tz_1_b HL (XV_ts V) R, tz_2 HL (XV_ts V) R, ↓tz_2_b HL (XV_ts V) R, tz_3 HL (XV_ts V) R, ↓tz_3_b HL (XV_ts V) R, tz_5 HL (XV_ts V) R, ↓tz_5_b HL (XV_ts V) R, tz_6 HL (XV_ts V) R, ↓tz_6_b HL (XV_ts V) R, ↓bn_e (elk), elk, l0, hD, p_i V, ↓p_i_b V, p_p V, ↓p_p_b V, p_r1 V, ↓p_r1_b V, p_r2 V, ↓p_r2_b V, p_r4 V, ↓p_r4_b V, p_65a V, ↓p_65a_b V, p_65s V, ↓p_65s_b V, p_r5 V, ↓p_r5_b V, p_66a V, ↓p_66a_b V, p_66s V, ↓p_66s_b V, p_r6 V, ↓p_r6_b V, p_67a V, ↓p_67a_b V, p_67s V, ↓p_67s_b V, p_r7 V, ↓p_r7_b V, p_68a V, ↓p_68a_b V, p_68s V, ↓p_68s_b V, p_r8 V, ↓p_r8_b V, p_69a V, ↓p_69a_b V, p_69s V, ↓p_69s_b V, p_i V1, ↓p_i_b V1, p_p V1, ↓p_p_b V1, p_r1 V1, ↓p_r1_b V1, p_r2 V1, ↓p_r2_b V1, p_r4 V1, ↓p_r4_b V1, p_65a V1, ↓p_65a_b V1, p_65s V1, ↓p_65s_b V1, p_r5 V1, ↓p_r5_b V1, p_66a V1, ↓p_66a_b V1, p_66s V1, ↓p_66s_b V1, p_r6 V1, ↓p_r6_b V1, p_67a V1, ↓p_67a_b V1, p_67s V1, ↓p_67s_b V1, p_r7 V1, ↓p_r7_b V1, p_68a V1, ↓p_68a_b V1, p_68s V1, ↓p_68s_b V1, p_r8 V1, ↓p_r8_b V1, p_69a V1, ↓p_69a_b V1, p_69s V1, ↓p_69s_b V1, ↓bn_e (n7), n7, ↓bn_e (e2), e2, p_i V2, ↓p_i_b V2, p_p V2, ↓p_p_b V2, p_r1 V2, ↓p_r1_b V2, p_r2 V2, ↓p_r2_b V2, p_r4 V2, ↓p_r4_b V2, p_65a V2, ↓p_65a_b V2, p_65s V2, ↓p_65s_b V2, p_r5 V2, ↓p_r5_b V2, p_66a V2, ↓p_66a_b V2, p_66s V2, ↓p_66s_b V2, p_r6 V2, ↓p_r6_b V2, p_67a V2, ↓p_67a_b V2, p_67s V2, ↓p_67s_b V2, p_r7 V2, ↓p_r7_b V2, p_68a V2, ↓p_68a_b V2, p_68s V2, ↓p_68s_b V2, p_r8 V2, ↓p_r8_b V2, p_69a V2, ↓p_69a_b V2, p_69s V2, ↓p_69s_b V2, ↓bn_e (n8), n8, ↓bn_e (e3), e3]
      · cases e
        refine ⟨f0, u0, by omega, fun d hd => ?_⟩
        have ht := HT d (by omega)
        have v68 : ia h3 68 d = ia h 66 d := by
          rw [fm_ia f3 (by omega), y2 d (by omega), if_pos (by omega)]
          have : 0 + (d : Int) - 0 = d := by omega
          rw [this]; rfl
        have v69 : ia h3 69 d = ia h 67 d := by
          rw [y3 d (by omega), if_pos (by omega)]
          have : 0 + (d : Int) - 0 = d := by omega
          rw [this, fm_ia f2 (by omega)]; rfl
        rw [v68, v69]
        exact ht
      · rw [i3 66 (by omega) (by omega), i3 67 (by omega) (by omega)]
        exact HT e he
    | succ k =>
      obtain ⟨d, hd⟩ : ∃ d, d = D - (k + 1) := ⟨_, rfl⟩
      have dl : (d : Int) < L 4 0 := by omega
      have dk : D - k = d + 1 := by omega
      have ds := LW_ds HL d (by omega) dl
      obtain ⟨g, hg⟩ : ∃ g : Nat → Bs, g = fun o => bcr L c D (1 + n * hn L) k (eff L c l d o) (u + cst L d o) (upq q d o) := ⟨_, rfl⟩
      have eb : bcr L c D (1 + n * hn L) (k + 1) l u q = fo g (1 + n * hn L) := by rw [hg, hd]; rfl
      rw [eb]
      rw [← hd] at HT ⊢
      have lbk : ∀ i, 0 ≤ i → i < 20 → -1000000 + 200 * ((k : Int) + 1) ≤ l i ∧ l i ≤ 600000 := fun i i0 i1 => by have := lb i i0 i1; omega
      -- one option
      have opt1 : ∀ (o : Nat) (B1 : Bs) (h1 : Hp), dyo (hn L) o ≤ 4 → lbd (eff L c l d o) k → PH L t n D (eff L c l d o) B1 h1 → TQ (hn L) (upq q d o) (d + 1) h1 → ∃ h2, rc 57 t (J ((d : Int) + 1)) (J (u + cst L d o)) h1 = some h2 ∧ Fm 57 70 h1 h2 ∧ PH L t n D (eff L c l d o) (mg B1 (g o)) h2 ∧ TQ (hn L) q d h2 := by
        intro o B1 h1 ho lo HP1 HT1
        have cs := cst_36 HL dl ho
        obtain ⟨h2, e2, f2, P2, T2⟩ := HS k (eff L c l d o) (u + cst L d o) (upq q d o) B1 h1 (by omega) (by omega) (nf_eff HL dl hf) lo (by omega) (by omega) HP1 (by rw [dk]; exact HT1)
        rw [dk] at e2 T2
        refine ⟨h2, e2, f2, by rw [hg]; exact P2, fun e he => ?_⟩
        have := T2 e (by omega)
        unfold upq at this
        rw [if_neg (by omega)] at this
        exact this
      -- nothing drunk
      have n66 : (iA h 66).length = 3 := PS_n5 (XV_p V)
      obtain ⟨h1, hh1⟩ : ∃ h1, h1 = wA h 66 d 0 := ⟨_, rfl⟩
      have f1 : Fm 66 67 h h1 := by rw [hh1]; exact fm_wA (by omega) (by omega)
      have V1 := XV_fm f1 (by omega) V
      have e0 : ∀ i, eff L c l d 0 i = l i := fun i => by unfold eff ctr; rw [if_pos rfl, Int.sub_zero]
      have c0 : cst L d 0 = 0 := by unfold cst dyo; rw [if_pos rfl]; exact Int.zero_mul _
      have T1 : TQ (hn L) (upq q d 0) (d + 1) h1 := by
        intro e he
        have i67 : ia h1 67 e = ia h 67 e := by rw [fm_ia f1 (by omega)]
        have i66 : ia h1 66 e = if (e : Int) = d then 0 else ia h 66 e := by rw [hh1]; exact ia_if (by omega) (by omega) (by omega) (by omega) (by omega)
        unfold upq
        by_cases ee : e = d
        · rw [if_pos ee, i66, if_pos (by omega)]
          exact ⟨by unfold dyo; rw [if_pos rfl]; rfl, fun x => absurd rfl x⟩
        · rw [if_neg ee, i66, if_neg (by omega), i67]
          exact HT e (by omega)
      obtain ⟨h2, e2, f2, P2, T2⟩ := opt1 0 B h1 (by unfold dyo; rw [if_pos rfl]; omega) (fun i i0 i1 => by rw [e0]; have := lbk i i0 i1; omega) ⟨V1, TR_fm f1 (by omega) R, fun i i0 i1 => by rw [e0, fm_ia f1 (by omega)]; exact X i i0 i1, by rw [fm_fi f1 (by omega)]; exact n3, BH_fm f1 (by omega) BB⟩ T1
      rw [c0, Int.add_zero] at e2
      have P2' : PH L t n D l (mg B (fo g 1)) h2 := by
        obtain ⟨p1, p2, p3, p4, p5⟩ := P2
        exact ⟨p1, p2, fun i i0 i1 => by rw [p3 i i0 i1, e0], p4, p5⟩
      have f02 : Fm 57 70 h h2 := fm_tr (fm_wd f1 (by omega) (by omega)) f2
      obtain ⟨y3, h3, e3, f3, P3, T3⟩ := lp_for (b := B_pl_search_102 rc 57 t (J d) (J u)) (f := FU) (s := J 1) (h := h2) (fun i s h' => s = J (i + 1 : Nat) ∧ Fm 57 70 h h' ∧ PH L t n D l (mg B (fo g (1 + i * hn L))) h' ∧ TQ (hn L) q d h') (fun _ h' => Fm 57 70 h h' ∧ PH L t n D l (mg B (fo g (1 + n * hn L))) h' ∧ TQ (hn L) q d h') n (by unfold FU; omega) ⟨rfl, f02, by rw [Nat.zero_mul]; exact P2', T2⟩ (fun i s h3 hi hI => by
          obtain ⟨rfl, f3, P3, T3⟩ := hI
          have V3 := P3.1
          have R3 := P3.2.1
          have n33 := P3.2.2.2.1
          obtain ⟨x, hx⟩ : ∃ x, x = ((i + 1 : Nat) : Int) * L 18 d := ⟨_, rfl⟩
          have xb : 0 ≤ x ∧ x ≤ 36 := by
            rw [hx]
            have e : i + 1 = 1 ∨ i + 1 = 2 ∨ i + 1 = 3 ∨ i + 1 = 4 := by omega
            rcases e with e | e | e | e
            all_goals (rw [e]; omega)
          have home : ∀ y, y < hn L → hmo (hn L) (1 + i * hn L + y) = y := by
            intro y hy
            unfold hmo
            rw [show 1 + i * hn L + y - 1 = i * hn L + y by omega]
            exact Nat.mul_add_mod_of_lt hy
          have days : ∀ y, y < hn L → dyo (hn L) (1 + i * hn L + y) = i + 1 := by
            intro y hy
            unfold dyo
            rw [if_neg (by omega), show 1 + i * hn L + y - 1 = i * hn L + y by omega, Nat.mul_comm, Nat.mul_add_div (by omega), Nat.div_eq_of_lt hy, Nat.add_zero]
            omega
          obtain ⟨y4, h4, e4, f4, P4, T4⟩ := lp_for (b := B_pl_search_125 rc 57 t (J d) (J u) (J (i + 1 : Nat)) (J x)) (f := FU) (s := J 0) (h := h3) (fun z s h' => s = J z ∧ Fm 57 70 h h' ∧ PH L t n D l (mg B (fo g (1 + i * hn L + z))) h' ∧ TQ (hn L) q d h') (fun _ h' => Fm 57 70 h h' ∧ PH L t n D l (mg B (fo g (1 + i * hn L + hn L))) h' ∧ TQ (hn L) q d h') (hn L) (by unfold FU; omega) ⟨rfl, f3, P3, T3⟩ (fun z s h4 hz hI => by
              obtain ⟨rfl, f4, P4, T4⟩ := hI
              obtain ⟨V4, R4, X4, n4, B4⟩ := P4
              have ei := C_isLacking (z := z) V4 X4 lb (by omega)
              have efo : fo g (1 + i * hn L + (z + 1)) = mg (fo g (1 + i * hn L + z)) (g (1 + i * hn L + z)) := rfl
              by_cases il : isl l z = true
              · rw [if_pos il] at ei
                have fz : fst1 L c z = z := by
                  by_cases ff : fst1 L c z = z
                  · exact ff
                  · have := hf z hz ff; rw [this] at il; cases il
                obtain ⟨o, ho⟩ : ∃ o, o = 1 + i * hn L + z := ⟨_, rfl⟩
                have hm : hmo (hn L) o = z := by rw [ho]; exact home z hz
                have dy : dyo (hn L) o = i + 1 := by rw [ho]; exact days z hz
                have cx : cst L d o = x := by unfold cst; rw [dy, hx]
                have ev : ∀ j, eff L c l d o j = pul l z (L 17 d) x j := by
                  intro j
                  unfold eff ctr pul
                  rw [if_neg (by omega), hm, fz, cx]
                  by_cases e : 4 * (z : Int) ≤ j ∧ j < 4 * z + 4
                  · rw [if_pos e, if_pos e]
                  · rw [if_neg e, if_neg e, Int.sub_zero]
                have n5 : (iA h4 66).length = 3 := PS_n5 (XV_p V4)
                obtain ⟨h5, hh5⟩ : ∃ h5, h5 = wA h4 66 d ((i + 1 : Nat) : Int) := ⟨_, rfl⟩
                have f5 : Fm 66 68 h4 h5 := by rw [hh5]; exact fm_wA (by omega) (by omega)
                have V5 := XV_fm f5 (by omega) V4
                have n6 : (iA h5 67).length = 3 := PS_n6 (XV_p V5)
                obtain ⟨h6, hh6⟩ : ∃ h6, h6 = wA h5 67 d z := ⟨_, rfl⟩
                have f6 : Fm 66 68 h5 h6 := by rw [hh6]; exact fm_wA (by omega) (by omega)
                have V6 := XV_fm f6 (by omega) V5
                have f46 := fm_tr f5 f6
                have R6 := TR_fm f46 (by omega) R4
                have X6 : LH l h6 := fun j j0 j1 => by rw [fm_ia f46 (by omega)]; exact X4 j j0 j1
                obtain ⟨h7, e7, f7, X7⟩ := C_put2 (z := z) (k := L 17 d) (x := x) V6 X6 (fun j j0 j1 => by have := lbk j j0 j1; omega) (by omega) (by omega) (by omega) (by omega)
                have V7 := XV_fm f7 (by omega) V6
                have f47 : Fm 65 68 h4 h7 := fm_tr (fm_wd f46 (by omega) (by omega)) (fm_wd f7 (by omega) (by omega))
                have T7 : TQ (hn L) (upq q d o) (d + 1) h7 := by
                  intro e he
                  have i66 : ia h7 66 e = if (e : Int) = d then ((i + 1 : Nat) : Int) else ia h4 66 e := by
                    rw [fm_ia f7 (by omega), hh6, ia_wA (by omega), hh5]
                    exact ia_if (by omega) (by omega) (by omega) (by omega) (by omega)
                  have i67 : ia h7 67 e = if (e : Int) = d then (z : Int) else ia h4 67 e := by
                    rw [fm_ia f7 (by omega), hh6, ia_if (by omega) (by omega) (by omega) (by omega) (by omega)]
                    by_cases ee : (e : Int) = d
                    · rw [if_pos ee, if_pos ee]
                    · rw [if_neg ee, if_neg ee, hh5, ia_wA (by omega)]
                  rw [i66, i67]
                  unfold upq
                  by_cases ee : e = d
                  · rw [if_pos ee, if_pos (by omega), if_pos (by omega), dy, hm]
                    exact ⟨rfl, fun _ => rfl⟩
                  · rw [if_neg ee, if_neg (by omega), if_neg (by omega)]
                    exact T4 e (by omega)
                have lo7 : lbd (eff L c l d o) k := by
                  intro j j0 j1
                  have b := lbk j j0 j1
                  rw [ev]
                  unfold pul
                  by_cases e : 4 * (z : Int) ≤ j ∧ j < 4 * z + 4
                  · rw [if_pos e]
                    have lo := lod_b (k := L 17 d) (j - 4 * z) (by omega)
                    have xl : 0 ≤ x * lod (L 17 d) (j - 4 * z) ∧ x * lod (L 17 d) (j - 4 * z) ≤ 144 := by
                      have : lod (L 17 d) (j - 4 * z) = 0 ∨ lod (L 17 d) (j - 4 * z) = 1 ∨ lod (L 17 d) (j - 4 * z) = 2 ∨ lod (L 17 d) (j - 4 * z) = 3 ∨ lod (L 17 d) (j - 4 * z) = 4 := by omega
                      rcases this with e | e | e | e | e
                      all_goals (rw [e]; omega)
                    omega
                  · rw [if_neg e]; omega
                obtain ⟨h8, e8, f8, P8, T8⟩ := opt1 o (mg B (fo g (1 + i * hn L + z))) h7 (by omega) lo7 ⟨V7, TR_fm f47 (by omega) R4, fun j j0 j1 => by rw [ev]; exact X7 j j0 j1, by rw [fm_fi f47 (by omega)]; exact n4, BH_fm f47 (by omega) B4⟩ T7
                rw [cx] at e8
                obtain ⟨V8, R8, X8, n8, B8⟩ := P8
                obtain ⟨h9, e9, f9, X9⟩ := C_put2 (z := z) (k := L 17 d) (x := -x) V8 X8 (fun j j0 j1 => by have := lo7 j j0 j1; omega) (by omega) (by omega) (by omega) (by omega)
                have X9' : LH l h9 := by
                  intro j j0 j1
                  rw [X9 j j0 j1]
                  unfold pul
                  rw [ev]
                  unfold pul
                  by_cases e : 4 * (z : Int) ≤ j ∧ j < 4 * z + 4
                  · rw [if_pos e, if_pos e, Int.neg_mul]; omega
                  · rw [if_neg e, if_neg e]
                have V9 := XV_fm f9 (by omega) V8
                refine ⟨J (z + 1 : Nat), h9, ?_, rfl, fm_tr f4 (fm_tr (fm_wd f47 (by omega) (by omega)) (fm_tr f8 (fm_wd f9 (by omega) (by omega)))), ⟨V9, TR_fm f9 (by omega) R8, X9', by rw [fm_fi f9 (by omega)]; exact n8, ?_⟩, TQ_fm f9 (by omega) T8⟩
                · unfold B_pl_search_125
                  try simp only [j_0, j_1, j_2, j_3, j_4, j_5, j_6, j_7, j_8, j_9, j_10, j_11, j_12, j_13, j_14, j_15, j_16, j_17, j_18, j_19, j_20, j_21, j_22, j_23, j_24, j_25, j_26, j_27, j_28, j_29, j_30, j_31, j_32, j_33, j_34, j_35, j_36, j_37, j_38, j_39, j_40, j_41, j_42, j_43, j_44, j_45, j_46, j_47, j_48, j_49, j_50, j_51, j_52, j_57, j_59, j_63, j_74, j_75, j_93, j_97, j_99, j_100, j_122, j_200, j_255, j_300, j_465, j_496, j_900, j_999, j_1000, j_65536, j_65537, j_99999, j_252645135, j_858993459, j_1431655765, k_0, k_1, k_27, k_32, k_74, k_75, k_100, k_1000, k_65537]
                  simp (disch := first | with_reducible assumption | omega | trivial) only [↓bn_s1, ↓bd_s1, ↓ei_l1, ↓ei_r1, ↓bn_if, ↓ilt_1, ↓ilt_0, ↓ieq_1, ↓ieq_0, bn_s1, bd_s1, ei_l1, ei_r1, J_add, J_sub, J_mul, J_neg, J_lt, J_le, J_eq, dv_J, rm_J, if_pos, if_neg, ↓reduceIte, bitJ, shlJ, orJ, j_0, j_1, j_2, j_3, j_4, j_5, j_6, j_7, j_8, j_9, j_10, j_11, j_12, j_13, j_14, j_15, j_16, j_17, j_18, j_19, j_20, j_21, j_22, j_23, j_24, j_25, j_26, j_27, j_28, j_29, j_30, j_31, j_32, j_33, j_34, j_35, j_36, j_37, j_38, j_39, j_40, j_41, j_42, j_43, j_44, j_45, j_46, j_47, j_48, j_49, j_50, j_51, j_52, j_57, j_59, j_63, j_74, j_75, j_93, j_97, j_99, j_100, j_122, j_200, j_255, j_300, j_465, j_496, j_900, j_999, j_1000, j_65536, j_65537, j_99999, j_252645135, j_858993459, j_1431655765, k_0, k_1, k_27, k_32, k_74, k_75, k_100, k_1000, k_65537, ti_0 (XV_ts V4) R4, ↓ti_0_b (XV_ts V4) R4, ti_1 (XV_ts V4) R4, ↓ti_1_b (XV_ts V4) R4, ti_5 (XV_ts V4) R4, ↓ti_5_b (XV_ts V4) R4, ti_8 (XV_ts V4) R4, ↓ti_8_b (XV_ts V4) R4, ti_11 (XV_ts V4) R4, ↓ti_11_b (XV_ts V4) R4, ti_14 (XV_ts V4) R4, ↓ti_14_b (XV_ts V4) R4, ty_0 (XV_ts V4) R4, ↓ty_0_b (XV_ts V4) R4, ty_4 (XV_ts V4) R4, ↓ty_4_b (XV_ts V4) R4, trf_18 (XV_ts V4), ↓trf_18_b (XV_ts V4), trf_3 (XV_ts V4), ↓trf_3_b (XV_ts V4), trf_4 (XV_ts V4), ↓trf_4_b (XV_ts V4), trf_6 (XV_ts V4), ↓trf_6_b (XV_ts V4), trf_7 (XV_ts V4), ↓trf_7_b (XV_ts V4), trf_9 (XV_ts V4), ↓trf_9_b (XV_ts V4), trf_10 (XV_ts V4), ↓trf_10_b (XV_ts V4), trf_12 (XV_ts V4), ↓trf_12_b (XV_ts V4), trf_13 (XV_ts V4), ↓trf_13_b (XV_ts V4), trf_15 (XV_ts V4), ↓trf_15_b (XV_ts V4), trf_16 (XV_ts V4), ↓trf_16_b (XV_ts V4), trf_17 (XV_ts V4), ↓trf_17_b (XV_ts V4), try_1 (XV_ts V4), ↓try_1_b (XV_ts V4), try_2 (XV_ts V4), ↓try_2_b (XV_ts V4), try_3 (XV_ts V4), ↓try_3_b (XV_ts V4), try_5 (XV_ts V4), ↓try_5_b (XV_ts V4), try_6 (XV_ts V4), ↓try_6_b (XV_ts V4), ta_3 HL (XV_ts V4) R4, ↓ta_3_b HL (XV_ts V4) R4, ta_4 HL (XV_ts V4) R4, ↓ta_4_b HL (XV_ts V4) R4, ta_6 HL (XV_ts V4) R4, ↓ta_6_b HL (XV_ts V4) R4, ta_7 HL (XV_ts V4) R4, ↓ta_7_b HL (XV_ts V4) R4, ta_9 HL (XV_ts V4) R4, ↓ta_9_b HL (XV_ts V4) R4, ta_10 HL (XV_ts V4) R4, ↓ta_10_b HL (XV_ts V4) R4, ta_12 HL (XV_ts V4) R4, ↓ta_12_b HL (XV_ts V4) R4, ta_13 HL (XV_ts V4) R4, ↓ta_13_b HL (XV_ts V4) R4, ta_15 HL (XV_ts V4) R4, ↓ta_15_b HL (XV_ts V4) R4, ta_16 HL (XV_ts V4) R4, ↓ta_16_b HL (XV_ts V4) R4, ta_17 HL (XV_ts V4) R4, ↓ta_17_b HL (XV_ts V4) R4, tz_1 HL (XV_ts V4) R4, ↓tz_1_b HL (XV_ts V4) R4, tz_2 HL (XV_ts V4) R4, ↓tz_2_b HL (XV_ts V4) R4, tz_3 HL (XV_ts V4) R4, ↓tz_3_b HL (XV_ts V4) R4, tz_5 HL (XV_ts V4) R4, ↓tz_5_b HL (XV_ts V4) R4, tz_6 HL (XV_ts V4) R4, ↓tz_6_b HL (XV_ts V4) R4, ↓bn_e (ei), ei, p_i V4, ↓p_i_b V4, p_p V4, ↓p_p_b V4, p_r1 V4, ↓p_r1_b V4, p_r2 V4, ↓p_r2_b V4, p_r4 V4, ↓p_r4_b V4, p_65a V4, ↓p_65a_b V4, p_65s V4, ↓p_65s_b V4, p_r5 V4, ↓p_r5_b V4, p_66a V4, ↓p_66a_b V4, p_66s V4, ↓p_66s_b V4, p_r6 V4, ↓p_r6_b V4, p_67a V4, ↓p_67a_b V4, p_67s V4, ↓p_67s_b V4, p_r7 V4, ↓p_r7_b V4, p_68a V4, ↓p_68a_b V4, p_68s V4, ↓p_68s_b V4, p_r8 V4, ↓p_r8_b V4, p_69a V4, ↓p_69a_b V4, p_69s V4, ↓p_69s_b V4, ← hh5, p_i V5, ↓p_i_b V5, p_p V5, ↓p_p_b V5, p_r1 V5, ↓p_r1_b V5, p_r2 V5, ↓p_r2_b V5, p_r4 V5, ↓p_r4_b V5, p_65a V5, ↓p_65a_b V5, p_65s V5, ↓p_65s_b V5, p_r5 V5, ↓p_r5_b V5, p_66a V5, ↓p_66a_b V5, p_66s V5, ↓p_66s_b V5, p_r6 V5, ↓p_r6_b V5, p_67a V5, ↓p_67a_b V5, p_67s V5, ↓p_67s_b V5, p_r7 V5, ↓p_r7_b V5, p_68a V5, ↓p_68a_b V5, p_68s V5, ↓p_68s_b V5, p_r8 V5, ↓p_r8_b V5, p_69a V5, ↓p_69a_b V5, p_69s V5, ↓p_69s_b V5, ← hh6, ti_0 (XV_ts V6) R6, ↓ti_0_b (XV_ts V6) R6, ti_1 (XV_ts V6) R6, ↓ti_1_b (XV_ts V6) R6, ti_5 (XV_ts V6) R6, ↓ti_5_b (XV_ts V6) R6, ti_8 (XV_ts V6) R6, ↓ti_8_b (XV_ts V6) R6, ti_11 (XV_ts V6) R6, ↓ti_11_b (XV_ts V6) R6, ti_14 (XV_ts V6) R6, ↓ti_14_b (XV_ts V6) R6, ty_0 (XV_ts V6) R6, ↓ty_0_b (XV_ts V6) R6, ty_4 (XV_ts V6) R6, ↓ty_4_b (XV_ts V6) R6, trf_18 (XV_ts V6), ↓trf_18_b (XV_ts V6), trf_3 (XV_ts V6), ↓trf_3_b (XV_ts V6), trf_4 (XV_ts V6), ↓trf_4_b (XV_ts V6), trf_6 (XV_ts V6), ↓trf_6_b (XV_ts V6), trf_7 (XV_ts V6), ↓trf_7_b (XV_ts V6), trf_9 (XV_ts V6), ↓trf_9_b (XV_ts V6), trf_10 (XV_ts V6), ↓trf_10_b (XV_ts V6), trf_12 (XV_ts V6), ↓trf_12_b (XV_ts V6), trf_13 (XV_ts V6), ↓trf_13_b (XV_ts V6), trf_15 (XV_ts V6), ↓trf_15_b (XV_ts V6), trf_16 (XV_ts V6), ↓trf_16_b (XV_ts V6), trf_17 (XV_ts V6), ↓trf_17_b (XV_ts V6), try_1 (XV_ts V6), ↓try_1_b (XV_ts V6), try_2 (XV_ts V6), ↓try_2_b (XV_ts V6), try_3 (XV_ts V6), ↓try_3_b (XV_ts V6), try_5 (XV_ts V6), ↓try_5_b (XV_ts V6), try_6 (XV_ts V6), ↓try_6_b (XV_ts V6), ta_3 HL (XV_ts V6) R6, ↓ta_3_b HL (XV_ts V6) R6, ta_4 HL (XV_ts V6) R6, ↓ta_4_b HL (XV_ts V6) R6, ta_6 HL (XV_ts V6) R6, ↓ta_6_b HL (XV_ts V6) R6, ta_7 HL (XV_ts V6) R6, ↓ta_7_b HL (XV_ts V6) R6, ta_9 HL (XV_ts V6) R6, ↓ta_9_b HL (XV_ts V6) R6, ta_10 HL (XV_ts V6) R6, ↓ta_10_b HL (XV_ts V6) R6, ta_12 HL (XV_ts V6) R6, ↓ta_12_b HL (XV_ts V6) R6, ta_13 HL (XV_ts V6) R6, ↓ta_13_b HL (XV_ts V6) R6, ta_15 HL (XV_ts V6) R6, ↓ta_15_b HL (XV_ts V6) R6, ta_16 HL (XV_ts V6) R6, ↓ta_16_b HL (XV_ts V6) R6, ta_17 HL (XV_ts V6) R6, ↓ta_17_b HL (XV_ts V6) R6, tz_1 HL (XV_ts V6) R6, ↓tz_1_b HL (XV_ts V6) R6, tz_2 HL (XV_ts V6) R6, ↓tz_2_b HL (XV_ts V6) R6, tz_3 HL (XV_ts V6) R6, ↓tz_3_b HL (XV_ts V6) R6, tz_5 HL (XV_ts V6) R6, ↓tz_5_b HL (XV_ts V6) R6, tz_6 HL (XV_ts V6) R6, ↓tz_6_b HL (XV_ts V6) R6, ↓bn_e (e7), e7, ↓bn_e (e8), e8, ti_0 (XV_ts V8) R8, ↓ti_0_b (XV_ts V8) R8, ti_1 (XV_ts V8) R8, ↓ti_1_b (XV_ts V8) R8, ti_5 (XV_ts V8) R8, ↓ti_5_b (XV_ts V8) R8, ti_8 (XV_ts V8) R8, ↓ti_8_b (XV_ts V8) R8, ti_11 (XV_ts V8) R8, ↓ti_11_b (XV_ts V8) R8, ti_14 (XV_ts V8) R8, ↓ti_14_b (XV_ts V8) R8, ty_0 (XV_ts V8) R8, ↓ty_0_b (XV_ts V8) R8, ty_4 (XV_ts V8) R8, ↓ty_4_b (XV_ts V8) R8, trf_18 (XV_ts V8), ↓trf_18_b (XV_ts V8), trf_3 (XV_ts V8), ↓trf_3_b (XV_ts V8), trf_4 (XV_ts V8), ↓trf_4_b (XV_ts V8), trf_6 (XV_ts V8), ↓trf_6_b (XV_ts V8), trf_7 (XV_ts V8), ↓trf_7_b (XV_ts V8), trf_9 (XV_ts V8), ↓trf_9_b (XV_ts V8), trf_10 (XV_ts V8), ↓trf_10_b (XV_ts V8), trf_12 (XV_ts V8), ↓trf_12_b (XV_ts V8), trf_13 (XV_ts V8), ↓trf_13_b (XV_ts V8), trf_15 (XV_ts V8), ↓trf_15_b (XV_ts V8), trf_16 (XV_ts V8), ↓trf_16_b (XV_ts V8), trf_17 (XV_ts V8), ↓trf_17_b (XV_ts V8), try_1 (XV_ts V8), ↓try_1_b (XV_ts V8), try_2 (XV_ts V8), ↓try_2_b (XV_ts V8), try_3 (XV_ts V8), ↓try_3_b (XV_ts V8), try_5 (XV_ts V8), ↓try_5_b (XV_ts V8), try_6 (XV_ts V8), ↓try_6_b (XV_ts V8), ta_3 HL (XV_ts V8) R8, ↓ta_3_b HL (XV_ts V8) R8, ta_4 HL (XV_ts V8) R8, ↓ta_4_b HL (XV_ts V8) R8, ta_6 HL (XV_ts V8) R8, ↓ta_6_b HL (XV_ts V8) R8, ta_7 HL (XV_ts V8) R8, ↓ta_7_b HL (XV_ts V8) R8, ta_9 HL (XV_ts V8) R8, ↓ta_9_b HL (XV_ts V8) R8, ta_10 HL (XV_ts V8) R8, ↓ta_10_b HL (XV_ts V8) R8, ta_12 HL (XV_ts V8) R8, ↓ta_12_b HL (XV_ts V8) R8, ta_13 HL (XV_ts V8) R8, ↓ta_13_b HL (XV_ts V8) R8, ta_15 HL (XV_ts V8) R8, ↓ta_15_b HL (XV_ts V8) R8, ta_16 HL (XV_ts V8) R8, ↓ta_16_b HL (XV_ts V8) R8, ta_17 HL (XV_ts V8) R8, ↓ta_17_b HL (XV_ts V8) R8, tz_1 HL (XV_ts V8) R8, ↓tz_1_b HL (XV_ts V8) R8, tz_2 HL (XV_ts V8) R8, ↓tz_2_b HL (XV_ts V8) R8, tz_3 HL (XV_ts V8) R8, ↓tz_3_b HL (XV_ts V8) R8, tz_5 HL (XV_ts V8) R8, ↓tz_5_b HL (XV_ts V8) R8, tz_6 HL (XV_ts V8) R8, ↓tz_6_b HL (XV_ts V8) R8, ↓bn_e (e9), e9]
                  rfl
                · rw [efo, ← mg_a]
                  rw [ho] at B8
                  exact BH_fm f9 (by omega) B8
              · have il' : isl l z = false := by cases hh : isl l z with | true => exact absurd hh il | false => rfl
                rw [if_neg il] at ei
                have sk := skp (A := 1 + n * hn L) (t := i) (u := u) (q := q) HL hD (show k < D by omega) (by omega) hz hf il'
                rw [← hd, ← hg] at sk
                have sk' : mg (fo g (1 + i * hn L + z)) (g (1 + i * hn L + z)) = fo g (1 + i * hn L + z) := by
                  have eg : g (1 + i * hn L + z) = bcr L c D (1 + n * hn L) k (eff L c l d (1 + i * hn L + z)) (u + cst L d (1 + i * hn L + z)) (upq q d (1 + i * hn L + z)) := by rw [hg]
                  rw [eg]; exact sk
                refine ⟨J (z + 1 : Nat), h4, ?_, rfl, f4, ⟨V4, R4, X4, n4, by rw [efo, sk']; exact B4⟩, T4⟩
                unfold B_pl_search_125
                try simp only [j_0, j_1, j_2, j_3, j_4, j_5, j_6, j_7, j_8, j_9, j_10, j_11, j_12, j_13, j_14, j_15, j_16, j_17, j_18, j_19, j_20, j_21, j_22, j_23, j_24, j_25, j_26, j_27, j_28, j_29, j_30, j_31, j_32, j_33, j_34, j_35, j_36, j_37, j_38, j_39, j_40, j_41, j_42, j_43, j_44, j_45, j_46, j_47, j_48, j_49, j_50, j_51, j_52, j_57, j_59, j_63, j_74, j_75, j_93, j_97, j_99, j_100, j_122, j_200, j_255, j_300, j_465, j_496, j_900, j_999, j_1000, j_65536, j_65537, j_99999, j_252645135, j_858993459, j_1431655765, k_0, k_1, k_27, k_32, k_74, k_75, k_100, k_1000, k_65537]
                simp (disch := first | with_reducible assumption | omega | trivial) only [↓bn_s1, ↓bd_s1, ↓ei_l1, ↓ei_r1, ↓bn_if, ↓ilt_1, ↓ilt_0, ↓ieq_1, ↓ieq_0, bn_s1, bd_s1, ei_l1, ei_r1, J_add, J_sub, J_mul, J_neg, J_lt, J_le, J_eq, dv_J, rm_J, if_pos, if_neg, ↓reduceIte, bitJ, shlJ, orJ, j_0, j_1, j_2, j_3, j_4, j_5, j_6, j_7, j_8, j_9, j_10, j_11, j_12, j_13, j_14, j_15, j_16, j_17, j_18, j_19, j_20, j_21, j_22, j_23, j_24, j_25, j_26, j_27, j_28, j_29, j_30, j_31, j_32, j_33, j_34, j_35, j_36, j_37, j_38, j_39, j_40, j_41, j_42, j_43, j_44, j_45, j_46, j_47, j_48, j_49, j_50, j_51, j_52, j_57, j_59, j_63, j_74, j_75, j_93, j_97, j_99, j_100, j_122, j_200, j_255, j_300, j_465, j_496, j_900, j_999, j_1000, j_65536, j_65537, j_99999, j_252645135, j_858993459, j_1431655765, k_0, k_1, k_27, k_32, k_74, k_75, k_100, k_1000, k_65537, ti_0 (XV_ts V4) R4, ↓ti_0_b (XV_ts V4) R4, ti_1 (XV_ts V4) R4, ↓ti_1_b (XV_ts V4) R4, ti_5 (XV_ts V4) R4, ↓ti_5_b (XV_ts V4) R4, ti_8 (XV_ts V4) R4, ↓ti_8_b (XV_ts V4) R4, ti_11 (XV_ts V4) R4, ↓ti_11_b (XV_ts V4) R4, ti_14 (XV_ts V4) R4, ↓ti_14_b (XV_ts V4) R4, ty_0 (XV_ts V4) R4, ↓ty_0_b (XV_ts V4) R4, ty_4 (XV_ts V4) R4, ↓ty_4_b (XV_ts V4) R4, trf_18 (XV_ts V4), ↓trf_18_b (XV_ts V4), trf_3 (XV_ts V4), ↓trf_3_b (XV_ts V4), trf_4 (XV_ts V4), ↓trf_4_b (XV_ts V4), trf_6 (XV_ts V4), ↓trf_6_b (XV_ts V4), trf_7 (XV_ts V4), ↓trf_7_b (XV_ts V4), trf_9 (XV_ts V4), ↓trf_9_b (XV_ts V4), trf_10 (XV_ts V4), ↓trf_10_b (XV_ts V4), trf_12 (XV_ts V4), ↓trf_12_b (XV_ts V4), trf_13 (XV_ts V4), ↓trf_13_b (XV_ts V4), trf_15 (XV_ts V4), ↓trf_15_b (XV_ts V4), trf_16 (XV_ts V4), ↓trf_16_b (XV_ts V4), trf_17 (XV_ts V4), ↓trf_17_b (XV_ts V4), try_1 (XV_ts V4), ↓try_1_b (XV_ts V4), try_2 (XV_ts V4), ↓try_2_b (XV_ts V4), try_3 (XV_ts V4), ↓try_3_b (XV_ts V4), try_5 (XV_ts V4), ↓try_5_b (XV_ts V4), try_6 (XV_ts V4), ↓try_6_b (XV_ts V4), ta_3 HL (XV_ts V4) R4, ↓ta_3_b HL (XV_ts V4) R4, ta_4 HL (XV_ts V4) R4, ↓ta_4_b HL (XV_ts V4) R4, ta_6 HL (XV_ts V4) R4, ↓ta_6_b HL (XV_ts V4) R4, ta_7 HL (XV_ts V4) R4, ↓ta_7_b HL (XV_ts V4) R4, ta_9 HL (XV_ts V4) R4, ↓ta_9_b HL (XV_ts V4) R4, ta_10 HL (XV_ts V4) R4, ↓ta_10_b HL (XV_ts V4) R4, ta_12 HL (XV_ts V4) R4, ↓ta_12_b HL (XV_ts V4) R4, ta_13 HL (XV_ts V4) R4, ↓ta_13_b HL (XV_ts V4) R4, ta_15 HL (XV_ts V4) R4, ↓ta_15_b HL (XV_ts V4) R4, ta_16 HL (XV_ts V4) R4, ↓ta_16_b HL (XV_ts V4) R4, ta_17 HL (XV_ts V4) R4, ↓ta_17_b HL (XV_ts V4) R4, tz_1 HL (XV_ts V4) R4, ↓tz_1_b HL (XV_ts V4) R4, tz_2 HL (XV_ts V4) R4, ↓tz_2_b HL (XV_ts V4) R4, tz_3 HL (XV_ts V4) R4, ↓tz_3_b HL (XV_ts V4) R4, tz_5 HL (XV_ts V4) R4, ↓tz_5_b HL (XV_ts V4) R4, tz_6 HL (XV_ts V4) R4, ↓tz_6_b HL (XV_ts V4) R4, ↓bn_e (ei), ei]
                rfl) (fun s h4 hI => by
              obtain ⟨rfl, f4, P4, T4⟩ := hI
              have V4 := P4.1
              have R4 := P4.2.1
              refine ⟨(), h4, ?_, f4, P4, T4⟩
              unfold B_pl_search_125
              try simp only [j_0, j_1, j_2, j_3, j_4, j_5, j_6, j_7, j_8, j_9, j_10, j_11, j_12, j_13, j_14, j_15, j_16, j_17, j_18, j_19, j_20, j_21, j_22, j_23, j_24, j_25, j_26, j_27, j_28, j_29, j_30, j_31, j_32, j_33, j_34, j_35, j_36, j_37, j_38, j_39, j_40, j_41, j_42, j_43, j_44, j_45, j_46, j_47, j_48, j_49, j_50, j_51, j_52, j_57, j_59, j_63, j_74, j_75, j_93, j_97, j_99, j_100, j_122, j_200, j_255, j_300, j_465, j_496, j_900, j_999, j_1000, j_65536, j_65537, j_99999, j_252645135, j_858993459, j_1431655765, k_0, k_1, k_27, k_32, k_74, k_75, k_100, k_1000, k_65537]
              simp (disch := first | with_reducible assumption | omega | trivial) only [↓bn_s1, ↓bd_s1, ↓ei_l1, ↓ei_r1, ↓bn_if, ↓ilt_1, ↓ilt_0, ↓ieq_1, ↓ieq_0, bn_s1, bd_s1, ei_l1, ei_r1, J_add, J_sub, J_mul, J_neg, J_lt, J_le, J_eq, dv_J, rm_J, if_pos, if_neg, ↓reduceIte, bitJ, shlJ, orJ, j_0, j_1, j_2, j_3, j_4, j_5, j_6, j_7, j_8, j_9, j_10, j_11, j_12, j_13, j_14, j_15, j_16, j_17, j_18, j_19, j_20, j_21, j_22, j_23, j_24, j_25, j_26, j_27, j_28, j_29, j_30, j_31, j_32, j_33, j_34, j_35, j_36, j_37, j_38, j_39, j_40, j_41, j_42, j_43, j_44, j_45, j_46, j_47, j_48, j_49, j_50, j_51, j_52, j_57, j_59, j_63, j_74, j_75, j_93, j_97, j_99, j_100, j_122, j_200, j_255, j_300, j_465, j_496, j_900, j_999, j_1000, j_65536, j_65537, j_99999, j_252645135, j_858993459, j_1431655765, k_0, k_1, k_27, k_32, k_74, k_75, k_100, k_1000, k_65537, ti_0 (XV_ts V4) R4, ↓ti_0_b (XV_ts V4) R4, ti_1 (XV_ts V4) R4, ↓ti_1_b (XV_ts V4) R4, ti_5 (XV_ts V4) R4, ↓ti_5_b (XV_ts V4) R4, ti_8 (XV_ts V4) R4, ↓ti_8_b (XV_ts V4) R4, ti_11 (XV_ts V4) R4, ↓ti_11_b (XV_ts V4) R4, ti_14 (XV_ts V4) R4, ↓ti_14_b (XV_ts V4) R4, ty_0 (XV_ts V4) R4, ↓ty_0_b (XV_ts V4) R4, ty_4 (XV_ts V4) R4, ↓ty_4_b (XV_ts V4) R4, trf_18 (XV_ts V4), ↓trf_18_b (XV_ts V4), trf_3 (XV_ts V4), ↓trf_3_b (XV_ts V4), trf_4 (XV_ts V4), ↓trf_4_b (XV_ts V4), trf_6 (XV_ts V4), ↓trf_6_b (XV_ts V4), trf_7 (XV_ts V4), ↓trf_7_b (XV_ts V4), trf_9 (XV_ts V4), ↓trf_9_b (XV_ts V4), trf_10 (XV_ts V4), ↓trf_10_b (XV_ts V4), trf_12 (XV_ts V4), ↓trf_12_b (XV_ts V4), trf_13 (XV_ts V4), ↓trf_13_b (XV_ts V4), trf_15 (XV_ts V4), ↓trf_15_b (XV_ts V4), trf_16 (XV_ts V4), ↓trf_16_b (XV_ts V4), trf_17 (XV_ts V4), ↓trf_17_b (XV_ts V4), try_1 (XV_ts V4), ↓try_1_b (XV_ts V4), try_2 (XV_ts V4), ↓try_2_b (XV_ts V4), try_3 (XV_ts V4), ↓try_3_b (XV_ts V4), try_5 (XV_ts V4), ↓try_5_b (XV_ts V4), try_6 (XV_ts V4), ↓try_6_b (XV_ts V4), ta_3 HL (XV_ts V4) R4, ↓ta_3_b HL (XV_ts V4) R4, ta_4 HL (XV_ts V4) R4, ↓ta_4_b HL (XV_ts V4) R4, ta_6 HL (XV_ts V4) R4, ↓ta_6_b HL (XV_ts V4) R4, ta_7 HL (XV_ts V4) R4, ↓ta_7_b HL (XV_ts V4) R4, ta_9 HL (XV_ts V4) R4, ↓ta_9_b HL (XV_ts V4) R4, ta_10 HL (XV_ts V4) R4, ↓ta_10_b HL (XV_ts V4) R4, ta_12 HL (XV_ts V4) R4, ↓ta_12_b HL (XV_ts V4) R4, ta_13 HL (XV_ts V4) R4, ↓ta_13_b HL (XV_ts V4) R4, ta_15 HL (XV_ts V4) R4, ↓ta_15_b HL (XV_ts V4) R4, ta_16 HL (XV_ts V4) R4, ↓ta_16_b HL (XV_ts V4) R4, ta_17 HL (XV_ts V4) R4, ↓ta_17_b HL (XV_ts V4) R4, tz_1 HL (XV_ts V4) R4, ↓tz_1_b HL (XV_ts V4) R4, tz_2 HL (XV_ts V4) R4, ↓tz_2_b HL (XV_ts V4) R4, tz_3 HL (XV_ts V4) R4, ↓tz_3_b HL (XV_ts V4) R4, tz_5 HL (XV_ts V4) R4, ↓tz_5_b HL (XV_ts V4) R4, tz_6 HL (XV_ts V4) R4, ↓tz_6_b HL (XV_ts V4) R4])
          have en : 1 + (i + 1) * hn L = 1 + i * hn L + hn L := by rw [Nat.add_mul, Nat.one_mul]; omega
          refine ⟨J (i + 1 + 1 : Nat), h4, ?_, rfl, f4, by rw [en]; exact P4, T4⟩
          unfold B_pl_search_102
          try simp only [j_0, j_1, j_2, j_3, j_4, j_5, j_6, j_7, j_8, j_9, j_10, j_11, j_12, j_13, j_14, j_15, j_16, j_17, j_18, j_19, j_20, j_21, j_22, j_23, j_24, j_25, j_26, j_27, j_28, j_29, j_30, j_31, j_32, j_33, j_34, j_35, j_36, j_37, j_38, j_39, j_40, j_41, j_42, j_43, j_44, j_45, j_46, j_47, j_48, j_49, j_50, j_51, j_52, j_57, j_59, j_63, j_74, j_75, j_93, j_97, j_99, j_100, j_122, j_200, j_255, j_300, j_465, j_496, j_900, j_999, j_1000, j_65536, j_65537, j_99999, j_252645135, j_858993459, j_1431655765, k_0, k_1, k_27, k_32, k_74, k_75, k_100, k_1000, k_65537]
          simp (disch := first | with_reducible assumption | omega | trivial) only [↓bn_s1, ↓bd_s1, ↓ei_l1, ↓ei_r1, ↓bn_if, ↓ilt_1, ↓ilt_0, ↓ieq_1, ↓ieq_0, bn_s1, bd_s1, ei_l1, ei_r1, J_add, J_sub, J_mul, J_neg, J_lt, J_le, J_eq, dv_J, rm_J, if_pos, if_neg, ↓reduceIte, bitJ, shlJ, orJ, j_0, j_1, j_2, j_3, j_4, j_5, j_6, j_7, j_8, j_9, j_10, j_11, j_12, j_13, j_14, j_15, j_16, j_17, j_18, j_19, j_20, j_21, j_22, j_23, j_24, j_25, j_26, j_27, j_28, j_29, j_30, j_31, j_32, j_33, j_34, j_35, j_36, j_37, j_38, j_39, j_40, j_41, j_42, j_43, j_44, j_45, j_46, j_47, j_48, j_49, j_50, j_51, j_52, j_57, j_59, j_63, j_74, j_75, j_93, j_97, j_99, j_100, j_122, j_200, j_255, j_300, j_465, j_496, j_900, j_999, j_1000, j_65536, j_65537, j_99999, j_252645135, j_858993459, j_1431655765, k_0, k_1, k_27, k_32, k_74, k_75, k_100, k_1000, k_65537, p_i V3, ↓p_i_b V3, p_p V3, ↓p_p_b V3, p_r1 V3, ↓p_r1_b V3, p_r2 V3, ↓p_r2_b V3, p_r4 V3, ↓p_r4_b V3, p_65a V3, ↓p_65a_b V3, p_65s V3, ↓p_65s_b V3, p_r5 V3, ↓p_r5_b V3, p_66a V3, ↓p_66a_b V3, p_66s V3, ↓p_66s_b V3, p_r6 V3, ↓p_r6_b V3, p_67a V3, ↓p_67a_b V3, p_67s V3, ↓p_67s_b V3, p_r7 V3, ↓p_r7_b V3, p_68a V3, ↓p_68a_b V3, p_68s V3, ↓p_68s_b V3, p_r8 V3, ↓p_r8_b V3, p_69a V3, ↓p_69a_b V3, p_69s V3, ↓p_69s_b V3, n33, ti_0 (XV_ts V3) R3, ↓ti_0_b (XV_ts V3) R3, ti_1 (XV_ts V3) R3, ↓ti_1_b (XV_ts V3) R3, ti_5 (XV_ts V3) R3, ↓ti_5_b (XV_ts V3) R3, ti_8 (XV_ts V3) R3, ↓ti_8_b (XV_ts V3) R3, ti_11 (XV_ts V3) R3, ↓ti_11_b (XV_ts V3) R3, ti_14 (XV_ts V3) R3, ↓ti_14_b (XV_ts V3) R3, ty_0 (XV_ts V3) R3, ↓ty_0_b (XV_ts V3) R3, ty_4 (XV_ts V3) R3, ↓ty_4_b (XV_ts V3) R3, trf_18 (XV_ts V3), ↓trf_18_b (XV_ts V3), trf_3 (XV_ts V3), ↓trf_3_b (XV_ts V3), trf_4 (XV_ts V3), ↓trf_4_b (XV_ts V3), trf_6 (XV_ts V3), ↓trf_6_b (XV_ts V3), trf_7 (XV_ts V3), ↓trf_7_b (XV_ts V3), trf_9 (XV_ts V3), ↓trf_9_b (XV_ts V3), trf_10 (XV_ts V3), ↓trf_10_b (XV_ts V3), trf_12 (XV_ts V3), ↓trf_12_b (XV_ts V3), trf_13 (XV_ts V3), ↓trf_13_b (XV_ts V3), trf_15 (XV_ts V3), ↓trf_15_b (XV_ts V3), trf_16 (XV_ts V3), ↓trf_16_b (XV_ts V3), trf_17 (XV_ts V3), ↓trf_17_b (XV_ts V3), try_1 (XV_ts V3), ↓try_1_b (XV_ts V3), try_2 (XV_ts V3), ↓try_2_b (XV_ts V3), try_3 (XV_ts V3), ↓try_3_b (XV_ts V3), try_5 (XV_ts V3), ↓try_5_b (XV_ts V3), try_6 (XV_ts V3), ↓try_6_b (XV_ts V3), ta_3 HL (XV_ts V3) R3, ↓ta_3_b HL (XV_ts V3) R3, ta_4 HL (XV_ts V3) R3, ↓ta_4_b HL (XV_ts V3) R3, ta_6 HL (XV_ts V3) R3, ↓ta_6_b HL (XV_ts V3) R3, ta_7 HL (XV_ts V3) R3, ↓ta_7_b HL (XV_ts V3) R3, ta_9 HL (XV_ts V3) R3, ↓ta_9_b HL (XV_ts V3) R3, ta_10 HL (XV_ts V3) R3, ↓ta_10_b HL (XV_ts V3) R3, ta_12 HL (XV_ts V3) R3, ↓ta_12_b HL (XV_ts V3) R3, ta_13 HL (XV_ts V3) R3, ↓ta_13_b HL (XV_ts V3) R3, ta_15 HL (XV_ts V3) R3, ↓ta_15_b HL (XV_ts V3) R3, ta_16 HL (XV_ts V3) R3, ↓ta_16_b HL (XV_ts V3) R3, ta_17 HL (XV_ts V3) R3, ↓ta_17_b HL (XV_ts V3) R3, tz_1 HL (XV_ts V3) R3, ↓tz_1_b HL (XV_ts V3) R3, tz_2 HL (XV_ts V3) R3, ↓tz_2_b HL (XV_ts V3) R3, tz_3 HL (XV_ts V3) R3, ↓tz_3_b HL (XV_ts V3) R3, tz_5 HL (XV_ts V3) R3, ↓tz_5_b HL (XV_ts V3) R3, tz_6 HL (XV_ts V3) R3, ↓tz_6_b HL (XV_ts V3) R3, ← hx, ↓bd_e (e4), e4]
          rfl) (fun s h3 hI => by
          obtain ⟨rfl, f3, P3, T3⟩ := hI
          have V3 := P3.1
          have n33 := P3.2.2.2.1
          refine ⟨(), h3, ?_, f3, P3, T3⟩
          unfold B_pl_search_102
          try simp only [j_0, j_1, j_2, j_3, j_4, j_5, j_6, j_7, j_8, j_9, j_10, j_11, j_12, j_13, j_14, j_15, j_16, j_17, j_18, j_19, j_20, j_21, j_22, j_23, j_24, j_25, j_26, j_27, j_28, j_29, j_30, j_31, j_32, j_33, j_34, j_35, j_36, j_37, j_38, j_39, j_40, j_41, j_42, j_43, j_44, j_45, j_46, j_47, j_48, j_49, j_50, j_51, j_52, j_57, j_59, j_63, j_74, j_75, j_93, j_97, j_99, j_100, j_122, j_200, j_255, j_300, j_465, j_496, j_900, j_999, j_1000, j_65536, j_65537, j_99999, j_252645135, j_858993459, j_1431655765, k_0, k_1, k_27, k_32, k_74, k_75, k_100, k_1000, k_65537]
          simp (disch := first | with_reducible assumption | omega | trivial) only [↓bn_s1, ↓bd_s1, ↓ei_l1, ↓ei_r1, ↓bn_if, ↓ilt_1, ↓ilt_0, ↓ieq_1, ↓ieq_0, bn_s1, bd_s1, ei_l1, ei_r1, J_add, J_sub, J_mul, J_neg, J_lt, J_le, J_eq, dv_J, rm_J, if_pos, if_neg, ↓reduceIte, bitJ, shlJ, orJ, j_0, j_1, j_2, j_3, j_4, j_5, j_6, j_7, j_8, j_9, j_10, j_11, j_12, j_13, j_14, j_15, j_16, j_17, j_18, j_19, j_20, j_21, j_22, j_23, j_24, j_25, j_26, j_27, j_28, j_29, j_30, j_31, j_32, j_33, j_34, j_35, j_36, j_37, j_38, j_39, j_40, j_41, j_42, j_43, j_44, j_45, j_46, j_47, j_48, j_49, j_50, j_51, j_52, j_57, j_59, j_63, j_74, j_75, j_93, j_97, j_99, j_100, j_122, j_200, j_255, j_300, j_465, j_496, j_900, j_999, j_1000, j_65536, j_65537, j_99999, j_252645135, j_858993459, j_1431655765, k_0, k_1, k_27, k_32, k_74, k_75, k_100, k_1000, k_65537, p_i V3, ↓p_i_b V3, p_p V3, ↓p_p_b V3, p_r1 V3, ↓p_r1_b V3, p_r2 V3, ↓p_r2_b V3, p_r4 V3, ↓p_r4_b V3, p_65a V3, ↓p_65a_b V3, p_65s V3, ↓p_65s_b V3, p_r5 V3, ↓p_r5_b V3, p_66a V3, ↓p_66a_b V3, p_66s V3, ↓p_66s_b V3, p_r6 V3, ↓p_r6_b V3, p_67a V3, ↓p_67a_b V3, p_67s V3, ↓p_67s_b V3, p_r7 V3, ↓p_r7_b V3, p_68a V3, ↓p_68a_b V3, p_68s V3, ↓p_68s_b V3, p_r8 V3, ↓p_r8_b V3, p_69a V3, ↓p_69a_b V3, p_69s V3, ↓p_69s_b V3, n33])
      refine ⟨h3, ?_, f3, P3, T3⟩
      try simp only [j_0, j_1, j_2, j_3, j_4, j_5, j_6, j_7, j_8, j_9, j_10, j_11, j_12, j_13, j_14, j_15, j_16, j_17, j_18, j_19, j_20, j_21, j_22, j_23, j_24, j_25, j_26, j_27, j_28, j_29, j_30, j_31, j_32, j_33, j_34, j_35, j_36, j_37, j_38, j_39, j_40, j_41, j_42, j_43, j_44, j_45, j_46, j_47, j_48, j_49, j_50, j_51, j_52, j_57, j_59, j_63, j_74, j_75, j_93, j_97, j_99, j_100, j_122, j_200, j_255, j_300, j_465, j_496, j_900, j_999, j_1000, j_65536, j_65537, j_99999, j_252645135, j_858993459, j_1431655765, k_0, k_1, k_27, k_32, k_74, k_75, k_100, k_1000, k_65537]
      simp (disch := first | with_reducible assumption | omega | trivial) only [↓bn_s1, ↓bd_s1, ↓ei_l1, ↓ei_r1, ↓bn_if, ↓ilt_1, ↓ilt_0, ↓ieq_1, ↓ieq_0, bn_s1, bd_s1, ei_l1, ei_r1, J_add, J_sub, J_mul, J_neg, J_lt, J_le, J_eq, dv_J, rm_J, if_pos, if_neg, ↓reduceIte, bitJ, shlJ, orJ, j_0, j_1, j_2, j_3, j_4, j_5, j_6, j_7, j_8, j_9, j_10, j_11, j_12, j_13, j_14, j_15, j_16, j_17, j_18, j_19, j_20, j_21, j_22, j_23, j_24, j_25, j_26, j_27, j_28, j_29, j_30, j_31, j_32, j_33, j_34, j_35, j_36, j_37, j_38, j_39, j_40, j_41, j_42, j_43, j_44, j_45, j_46, j_47, j_48, j_49, j_50, j_51, j_52, j_57, j_59, j_63, j_74, j_75, j_93, j_97, j_99, j_100, j_122, j_200, j_255, j_300, j_465, j_496, j_900, j_999, j_1000, j_65536, j_65537, j_99999, j_252645135, j_858993459, j_1431655765, k_0, k_1, k_27, k_32, k_74, k_75, k_100, k_1000, k_65537, ti_0 (XV_ts V) R, ↓ti_0_b (XV_ts V) R, ti_1 (XV_ts V) R, ↓ti_1_b (XV_ts V) R, ti_5 (XV_ts V) R, ↓ti_5_b (XV_ts V) R, ti_8 (XV_ts V) R, ↓ti_8_b (XV_ts V) R, ti_11 (XV_ts V) R, ↓ti_11_b (XV_ts V) R, ti_14 (XV_ts V) R, ↓ti_14_b (XV_ts V) R, ty_0 (XV_ts V) R, ↓ty_0_b (XV_ts V) R, ty_4 (XV_ts V) R, ↓ty_4_b (XV_ts V) R, trf_18 (XV_ts V), ↓trf_18_b (XV_ts V), trf_3 (XV_ts V), ↓trf_3_b (XV_ts V), trf_4 (XV_ts V), ↓trf_4_b (XV_ts V), trf_6 (XV_ts V), ↓trf_6_b (XV_ts V), trf_7 (XV_ts V), ↓trf_7_b (XV_ts V), trf_9 (XV_ts V), ↓trf_9_b (XV_ts V), trf_10 (XV_ts V), ↓trf_10_b (XV_ts V), trf_12 (XV_ts V), ↓trf_12_b (XV_ts V), trf_13 (XV_ts V), ↓trf_13_b (XV_ts V), trf_15 (XV_ts V), ↓trf_15_b (XV_ts V), trf_16 (XV_ts V), ↓trf_16_b (XV_ts V), trf_17 (XV_ts V), ↓trf_17_b (XV_ts V), try_1 (XV_ts V), ↓try_1_b (XV_ts V), try_2 (XV_ts V), ↓try_2_b (XV_ts V), try_3 (XV_ts V), ↓try_3_b (XV_ts V), try_5 (XV_ts V), ↓try_5_b (XV_ts V), try_6 (XV_ts V), ↓try_6_b (XV_ts V), ta_3 HL (XV_ts V) R, ↓ta_3_b HL (XV_ts V) R, ta_4 HL (XV_ts V) R, ↓ta_4_b HL (XV_ts V) R, ta_6 HL (XV_ts V) R, ↓ta_6_b HL (XV_ts V) R, ta_7 HL (XV_ts V) R, ↓ta_7_b HL (XV_ts V) R, ta_9 HL (XV_ts V) R, ↓ta_9_b HL (XV_ts V) R, ta_10 HL (XV_ts V) R, ↓ta_10_b HL (XV_ts V) R, ta_12 HL (XV_ts V) R, ↓ta_12_b HL (XV_ts V) R, ta_13 HL (XV_ts V) R, ↓ta_13_b HL (XV_ts V) R, ta_15 HL (XV_ts V) R, ↓ta_15_b HL (XV_ts V) R, ta_16 HL (XV_ts V) R, ↓ta_16_b HL (XV_ts V) R, ta_17 HL (XV_ts V) R, ↓ta_17_b HL (XV_ts V) R, tz_1 HL (XV_ts V) R, ↓tz_1_b HL (XV_ts V) R, tz_2 HL (XV_ts V) R, ↓tz_2_b HL (XV_ts V) R, tz_3 HL (XV_ts V) R, ↓tz_3_b HL (XV_ts V) R, tz_5 HL (XV_ts V) R, ↓tz_5_b HL (XV_ts V) R, tz_6 HL (XV_ts V) R, ↓tz_6_b HL (XV_ts V) R, ↓bn_e (elk), elk, p_i V, ↓p_i_b V, p_p V, ↓p_p_b V, p_r1 V, ↓p_r1_b V, p_r2 V, ↓p_r2_b V, p_r4 V, ↓p_r4_b V, p_65a V, ↓p_65a_b V, p_65s V, ↓p_65s_b V, p_r5 V, ↓p_r5_b V, p_66a V, ↓p_66a_b V, p_66s V, ↓p_66s_b V, p_r6 V, ↓p_r6_b V, p_67a V, ↓p_67a_b V, p_67s V, ↓p_67s_b V, p_r7 V, ↓p_r7_b V, p_68a V, ↓p_68a_b V, p_68s V, ↓p_68s_b V, p_r8 V, ↓p_r8_b V, p_69a V, ↓p_69a_b V, p_69s V, ↓p_69s_b V, ← hh1, ↓bn_e (e2), e2, ↓bd_e (e3), e3]
theorem C_search {L : Lk} {c t n D : Nat} {rc : Rs} {M : Nat} (HL : LW L) (hD : (D : Int) = L 4 0) (hn4 : n ≤ 4) (H1 : 1 ≤ L 1 0) (HS : SO L c t n D rc M) : SO L c t n D (G_pl_search rc) (M + 1) := by
  intro k l u q B h hk kD hf lb u0 u1 HP HT
  have V := HP.1
  have BB := HP.2.2.2.2
  have e := fun nc => C_rest HL hD hn4 H1 HS k l u q B h hk kD hf lb u0 u1 HP HT nc
  rw [G_eq, ck_e (PS_k (XV_p V))]
  cases hB : B with
  | none =>
    rw [hB] at e BB
    obtain ⟨h', e1, e2⟩ := e (fun x p hx => by cases hx)
    have v := BB.1 rfl
    refine ⟨h', ?_, e2⟩
    try simp only [j_0, j_1, j_2, j_3, j_4, j_5, j_6, j_7, j_8, j_9, j_10, j_11, j_12, j_13, j_14, j_15, j_16, j_17, j_18, j_19, j_20, j_21, j_22, j_23, j_24, j_25, j_26, j_27, j_28, j_29, j_30, j_31, j_32, j_33, j_34, j_35, j_36, j_37, j_38, j_39, j_40, j_41, j_42, j_43, j_44, j_45, j_46, j_47, j_48, j_49, j_50, j_51, j_52, j_57, j_59, j_63, j_74, j_75, j_93, j_97, j_99, j_100, j_122, j_200, j_255, j_300, j_465, j_496, j_900, j_999, j_1000, j_65536, j_65537, j_99999, j_252645135, j_858993459, j_1431655765, k_0, k_1, k_27, k_32, k_74, k_75, k_100, k_1000, k_65537]
    simp (disch := first | with_reducible assumption | omega | trivial) only [↓bn_s1, ↓bd_s1, ↓ei_l1, ↓ei_r1, ↓bn_if, ↓ilt_1, ↓ilt_0, ↓ieq_1, ↓ieq_0, bn_s1, bd_s1, ei_l1, ei_r1, J_add, J_sub, J_mul, J_neg, J_lt, J_le, J_eq, dv_J, rm_J, if_pos, if_neg, ↓reduceIte, bitJ, shlJ, orJ, j_0, j_1, j_2, j_3, j_4, j_5, j_6, j_7, j_8, j_9, j_10, j_11, j_12, j_13, j_14, j_15, j_16, j_17, j_18, j_19, j_20, j_21, j_22, j_23, j_24, j_25, j_26, j_27, j_28, j_29, j_30, j_31, j_32, j_33, j_34, j_35, j_36, j_37, j_38, j_39, j_40, j_41, j_42, j_43, j_44, j_45, j_46, j_47, j_48, j_49, j_50, j_51, j_52, j_57, j_59, j_63, j_74, j_75, j_93, j_97, j_99, j_100, j_122, j_200, j_255, j_300, j_465, j_496, j_900, j_999, j_1000, j_65536, j_65537, j_99999, j_252645135, j_858993459, j_1431655765, k_0, k_1, k_27, k_32, k_74, k_75, k_100, k_1000, k_65537, p_i V, ↓p_i_b V, p_p V, ↓p_p_b V, p_r1 V, ↓p_r1_b V, p_r2 V, ↓p_r2_b V, p_r4 V, ↓p_r4_b V, p_65a V, ↓p_65a_b V, p_65s V, ↓p_65s_b V, p_r5 V, ↓p_r5_b V, p_66a V, ↓p_66a_b V, p_66s V, ↓p_66s_b V, p_r6 V, ↓p_r6_b V, p_67a V, ↓p_67a_b V, p_67s V, ↓p_67s_b V, p_r7 V, ↓p_r7_b V, p_68a V, ↓p_68a_b V, p_68s V, ↓p_68s_b V, p_r8 V, ↓p_r8_b V, p_69a V, ↓p_69a_b V, p_69s V, ↓p_69s_b V, v, ↓bn_e (e1), e1]
  | some w =>
    rw [hB] at e BB
    obtain ⟨a1, a2, a3, a4⟩ := BB.2 w.1 w.2 rfl
    by_cases cu : u < w.1
    · obtain ⟨h', e1, e2⟩ := e (fun x p hx => by cases hx; exact cu)
      refine ⟨h', ?_, e2⟩
      try simp only [j_0, j_1, j_2, j_3, j_4, j_5, j_6, j_7, j_8, j_9, j_10, j_11, j_12, j_13, j_14, j_15, j_16, j_17, j_18, j_19, j_20, j_21, j_22, j_23, j_24, j_25, j_26, j_27, j_28, j_29, j_30, j_31, j_32, j_33, j_34, j_35, j_36, j_37, j_38, j_39, j_40, j_41, j_42, j_43, j_44, j_45, j_46, j_47, j_48, j_49, j_50, j_51, j_52, j_57, j_59, j_63, j_74, j_75, j_93, j_97, j_99, j_100, j_122, j_200, j_255, j_300, j_465, j_496, j_900, j_999, j_1000, j_65536, j_65537, j_99999, j_252645135, j_858993459, j_1431655765, k_0, k_1, k_27, k_32, k_74, k_75, k_100, k_1000, k_65537]
      simp (disch := first | with_reducible assumption | omega | trivial) only [↓bn_s1, ↓bd_s1, ↓ei_l1, ↓ei_r1, ↓bn_if, ↓ilt_1, ↓ilt_0, ↓ieq_1, ↓ieq_0, bn_s1, bd_s1, ei_l1, ei_r1, J_add, J_sub, J_mul, J_neg, J_lt, J_le, J_eq, dv_J, rm_J, if_pos, if_neg, ↓reduceIte, bitJ, shlJ, orJ, j_0, j_1, j_2, j_3, j_4, j_5, j_6, j_7, j_8, j_9, j_10, j_11, j_12, j_13, j_14, j_15, j_16, j_17, j_18, j_19, j_20, j_21, j_22, j_23, j_24, j_25, j_26, j_27, j_28, j_29, j_30, j_31, j_32, j_33, j_34, j_35, j_36, j_37, j_38, j_39, j_40, j_41, j_42, j_43, j_44, j_45, j_46, j_47, j_48, j_49, j_50, j_51, j_52, j_57, j_59, j_63, j_74, j_75, j_93, j_97, j_99, j_100, j_122, j_200, j_255, j_300, j_465, j_496, j_900, j_999, j_1000, j_65536, j_65537, j_99999, j_252645135, j_858993459, j_1431655765, k_0, k_1, k_27, k_32, k_74, k_75, k_100, k_1000, k_65537, p_i V, ↓p_i_b V, p_p V, ↓p_p_b V, p_r1 V, ↓p_r1_b V, p_r2 V, ↓p_r2_b V, p_r4 V, ↓p_r4_b V, p_65a V, ↓p_65a_b V, p_65s V, ↓p_65s_b V, p_r5 V, ↓p_r5_b V, p_66a V, ↓p_66a_b V, p_66s V, ↓p_66s_b V, p_r6 V, ↓p_r6_b V, p_67a V, ↓p_67a_b V, p_67s V, ↓p_67s_b V, p_r7 V, ↓p_r7_b V, p_68a V, ↓p_68a_b V, p_68s V, ↓p_68s_b V, p_r8 V, ↓p_r8_b V, p_69a V, ↓p_69a_b V, p_69s V, ↓p_69s_b V, a1]
      exact e1
    · have em : mg (some w) (bcr L c D (1 + n * hn L) k l u q) = some w := mg_skip (fun x p hx => ⟨w.1, w.2, rfl, by have := bcr_ge HL hD k l u q x p kD hx; omega⟩)
      rw [em]
      refine ⟨h, ?_, fm_rf _ _ _, by rw [hB] at HP; exact HP, HT⟩
      try simp only [j_0, j_1, j_2, j_3, j_4, j_5, j_6, j_7, j_8, j_9, j_10, j_11, j_12, j_13, j_14, j_15, j_16, j_17, j_18, j_19, j_20, j_21, j_22, j_23, j_24, j_25, j_26, j_27, j_28, j_29, j_30, j_31, j_32, j_33, j_34, j_35, j_36, j_37, j_38, j_39, j_40, j_41, j_42, j_43, j_44, j_45, j_46, j_47, j_48, j_49, j_50, j_51, j_52, j_57, j_59, j_63, j_74, j_75, j_93, j_97, j_99, j_100, j_122, j_200, j_255, j_300, j_465, j_496, j_900, j_999, j_1000, j_65536, j_65537, j_99999, j_252645135, j_858993459, j_1431655765, k_0, k_1, k_27, k_32, k_74, k_75, k_100, k_1000, k_65537]
      simp (disch := first | with_reducible assumption | omega | trivial) only [↓bn_s1, ↓bd_s1, ↓ei_l1, ↓ei_r1, ↓bn_if, ↓ilt_1, ↓ilt_0, ↓ieq_1, ↓ieq_0, bn_s1, bd_s1, ei_l1, ei_r1, J_add, J_sub, J_mul, J_neg, J_lt, J_le, J_eq, dv_J, rm_J, if_pos, if_neg, ↓reduceIte, bitJ, shlJ, orJ, j_0, j_1, j_2, j_3, j_4, j_5, j_6, j_7, j_8, j_9, j_10, j_11, j_12, j_13, j_14, j_15, j_16, j_17, j_18, j_19, j_20, j_21, j_22, j_23, j_24, j_25, j_26, j_27, j_28, j_29, j_30, j_31, j_32, j_33, j_34, j_35, j_36, j_37, j_38, j_39, j_40, j_41, j_42, j_43, j_44, j_45, j_46, j_47, j_48, j_49, j_50, j_51, j_52, j_57, j_59, j_63, j_74, j_75, j_93, j_97, j_99, j_100, j_122, j_200, j_255, j_300, j_465, j_496, j_900, j_999, j_1000, j_65536, j_65537, j_99999, j_252645135, j_858993459, j_1431655765, k_0, k_1, k_27, k_32, k_74, k_75, k_100, k_1000, k_65537, p_i V, ↓p_i_b V, p_p V, ↓p_p_b V, p_r1 V, ↓p_r1_b V, p_r2 V, ↓p_r2_b V, p_r4 V, ↓p_r4_b V, p_65a V, ↓p_65a_b V, p_65s V, ↓p_65s_b V, p_r5 V, ↓p_r5_b V, p_66a V, ↓p_66a_b V, p_66s V, ↓p_66s_b V, p_r6 V, ↓p_r6_b V, p_67a V, ↓p_67a_b V, p_67s V, ↓p_67s_b V, p_r7 V, ↓p_r7_b V, p_68a V, ↓p_68a_b V, p_68s V, ↓p_68s_b V, p_r8 V, ↓p_r8_b V, p_69a V, ↓p_69a_b V, p_69s V, ↓p_69s_b V, a1]
theorem C_searches {L : Lk} {c t n D : Nat} (HL : LW L) (hD : (D : Int) = L 4 0) (hn4 : n ≤ 4) (H1 : 1 ≤ L 1 0) : ∀ N, SO L c t n D (F_pl_search N) N := by
  intro N
  induction N with
  | zero => intro k l u q B h hk; omega
  | succ N ih => exact C_search HL hD hn4 H1 ih
