/-! Rafts: bestHouseFor -/
def upo (o : Int → Int) (z w : Int) : Int → Int := fun i => if i = z then o i - w else o i
def lov (L : Lk) (o : Int → Int) (c : Nat) (w z : Int) : Int := hgo L (upo o z w) c (lw (hgo L (upo o z w) c) (hn L) : Nat)
def am (g : Int → Int) : Nat → Nat
  | 0 => 0
  | n + 1 => if n = 0 then 0 else if g (am g n) < g n then n else am g n
def amv (g : Int → Int) (n : Nat) : Int := if n = 0 then 0 else g (am g n)
theorem am_lt (g : Int → Int) (n : Nat) : am g (n + 1) ≤ n := by
  induction n with
  | zero => unfold am; rw [if_pos rfl]; omega
  | succ n ih => unfold am; rw [if_neg (by omega)]; split <;> omega
theorem upo_b {L : Lk} {o : Int → Int} (ho : ∀ i, 0 ≤ i → i < L 1 0 → -90000 ≤ o i ∧ o i ≤ 90000) {z w : Int} (hw : -5000 ≤ w ∧ w ≤ 5000) : OB L (upo o z w) := by
  intro i i0 i1
  have := ho i i0 i1
  unfold upo
  split <;> omega
theorem C_bestHouseFor {L : Lk} {r : Nat} {h : Hp} {c : Nat} {o : Int → Int} {w : Int} (HL : LW L) (H1 : 1 ≤ L 1 0) (HX : RS r h) (hh : fi h r 0 = L 1 0) (HB : RB L c r h) (HO : ROw L o r h) (ho : ∀ i, 0 ≤ i → i < L 1 0 → -90000 ≤ o i ∧ o i ≤ 90000) (hw : 0 ≤ w ∧ w ≤ 99) (hr : r < 1000) : ∃ h', F_ra_bestHouseFor r (J w) h = some (J (am (lov L o c w) (hn L) : Nat), h') ∧ Fm r (r + 4) h h' := by
  have k := RS_k HX
  have b1 := LW_h HL
  have b2 := hn_e HL
  obtain ⟨y, h1, e1, q1, q2⟩ := lp_for (b := B_ra_bestHouseFor_7 r (J w)) (f := FU) (s := (J 0, J 0, J 0)) (h := h) (fun i s h' => s = (J (am (lov L o c w) i : Nat), J (amv (lov L o c w) i), J i) ∧ Fm r (r + 4) h h' ∧ fi h' r 0 = L 1 0 ∧ RB L c r h' ∧ ROw L o r h') (fun y h' => y = J (am (lov L o c w) (hn L) : Nat) ∧ Fm r (r + 4) h h') (hn L) (by unfold FU; omega) ⟨rfl, fm_rf _ _ _, hh, HB, HO⟩ (fun i s h1 hi hI => by
      obtain ⟨rfl, f1, e1, B1, O1⟩ := hI
      have HX1 := RS_fm f1 HX
      have k1 := RS_k HX1; have r1 := RS_r1 HX1; have k11 := RS_k1 HX1; have n11 := RS_n1 HX1
      have oi := ho i (by omega) (by omega)
      have vi := O1 i (by omega) (by omega)
      have fa : Fm r (r + 4) h1 (wA h1 (r + 1) i (o i - w)) := fm_wA (by omega) (by omega)
      have HX2 := RS_fm fa HX1
      have ob := upo_b ho (z := i) (w := w) (by omega)
      have O2 : ROw L (upo o i w) r (wA h1 (r + 1) i (o i - w)) := by
        intro j j0 j1
        unfold upo
        by_cases hj : j = i
        · rw [if_pos hj, hj, ia_same (by omega) (by omega) (by omega) (by omega)]
        · rw [if_neg hj, ia_ne (by omega) (by omega) hj]; exact O1 j j0 j1
      have B2 : RB L c r (wA h1 (r + 1) i (o i - w)) := by
        intro j j0 j1
        rw [ia_wA (by omega)]; exact B1 j j0 j1
      obtain ⟨h2, e2, f2, H2⟩ := C_level HL HX2 e1 B2 O2 ob hr
      have HX3 := RS_fm f2 HX2
      have k3 := RS_k HX3; have r31 := RS_r1 HX3; have k31 := RS_k1 HX3; have n31 := RS_n1 HX3; have r33 := RS_r3 HX3; have k33 := RS_k3 HX3; have n33 := RS_n3 HX3
      have v2 : ia h2 (r + 1) i = o i - w := by
        rw [fm_ia f2 (by omega), ia_same (by omega) (by omega) (by omega) (by omega)]
      have f3 : Fm r (r + 4) h2 (wA h2 (r + 1) i (o i - w + w)) := fm_wA (by omega) (by omega)
      have HX4 := RS_fm f3 HX3
      have k4 := RS_k HX4; have r43 := RS_r3 HX4; have k43 := RS_k3 HX4; have n43 := RS_n3 HX4
      have H3 : ∀ j, 0 ≤ j → j < L 1 0 → ia (wA h2 (r + 1) i (o i - w + w)) (r + 3) j = hgo L (upo o i w) c j := by
        intro j j0 j1
        rw [ia_wA (by omega)]; exact H2 j j0 j1
      have e3 : fi h2 r 0 = L 1 0 := by rw [fm_fi f2 (by omega)]; exact e1
      have el := C_lowestHouse HL H1 HX4 e3 H3
      have ll : lw (hgo L (upo o i w) c) (hn L) < hn L := by
        have := lw_lt (hgo L (upo o i w) c) (hn L - 1)
        have e0 : hn L - 1 + 1 = hn L := by omega
        rw [e0] at this
        omega
      have hv := H3 (lw (hgo L (upo o i w) c) (hn L) : Nat) (by omega) (by omega)
      have hb := hgo_b HL ob c (z := (lw (hgo L (upo o i w) c) (hn L) : Nat)) (by omega) (by omega)
      have hlv : hgo L (upo o i w) c (lw (hgo L (upo o i w) c) (hn L) : Nat) = lov L o c w i := rfl
      rw [hlv] at hv hb
      have fin : Fm r (r + 4) h (wA h2 (r + 1) i (o i - w + w)) ∧ fi (wA h2 (r + 1) i (o i - w + w)) r 0 = L 1 0 ∧ RB L c r (wA h2 (r + 1) i (o i - w + w)) ∧ ROw L o r (wA h2 (r + 1) i (o i - w + w)) := by
        refine ⟨fm_tr f1 (fm_tr fa (fm_tr (fm_wd f2 (by omega) (by omega)) f3)), e3, fun j j0 j1 => ?_, fun j j0 j1 => ?_⟩
        · rw [ia_wA (by omega), fm_ia f2 (by omega)]; exact B2 j j0 j1
        · by_cases hj : j = i
          · rw [hj, ia_same (by omega) (by omega) (by omega) (by omega)]; omega
          · rw [ia_ne (by omega) (by omega) hj, fm_ia f2 (by omega), ia_ne (by omega) (by omega) hj]; exact O1 j j0 j1
      have a6 : am (lov L o c w) (i + 1) = if i = 0 then 0 else if lov L o c w (am (lov L o c w) i) < lov L o c w i then i else am (lov L o c w) i := rfl
      have a7 : amv (lov L o c w) (i + 1) = lov L o c w (am (lov L o c w) (i + 1)) := if_neg (by omega)
      by_cases h0 : i = 0
      · subst h0
        refine ⟨(J 0, J (lov L o c w 0), J 1), _, ?_, ⟨?_, fin⟩⟩
        · unfold B_ra_bestHouseFor_7
          simp (disch := first | with_reducible assumption | omega | trivial) only [bn_s1, bd_s1, ei_l1, ei_r1, gI_J, gL_J, gR_J, aI_J, aL_J, sI_J, sL_J, pI_J, pL_J, J_add, J_sub, J_mul, J_neg, J_lt, J_le, J_eq, dv_J, rm_J, if_pos, if_neg, ↓reduceIte, bitJ, shlJ, orJ, j_0, j_1, j_2, j_3, j_4, j_5, j_6, j_7, j_8, j_9, j_10, j_11, j_12, j_13, j_14, j_15, j_16, j_17, j_18, j_19, j_20, j_21, j_22, j_23, j_24, j_25, j_26, j_27, j_28, j_29, j_30, j_31, j_32, j_33, j_34, j_35, j_36, j_37, j_38, j_39, j_40, j_41, j_42, j_43, j_44, j_45, j_46, j_47, j_48, j_49, j_50, j_51, j_52, j_57, j_59, j_63, j_74, j_75, j_93, j_97, j_99, j_100, j_122, j_200, j_255, j_300, j_465, j_496, j_900, j_999, j_1000, j_65536, j_65537, j_99999, j_252645135, j_858993459, j_1431655765, k_0, k_1, k_27, k_32, k_74, k_75, k_100, k_1000, k_65537, e1, r1, vi, e2, r31, v2, r43, el, hv]
          rfl
        · rw [a7, a6]; rfl
      · have am0 : amv (lov L o c w) i = lov L o c w (am (lov L o c w) i) := if_neg h0
        have al : am (lov L o c w) i < i := by
          have := am_lt (lov L o c w) (i - 1)
          have e0 : i - 1 + 1 = i := by omega
          rw [e0] at this
          omega
        have obx := upo_b ho (z := (am (lov L o c w) i : Nat)) (w := w) (by omega)
        have hbx : -500000 ≤ lov L o c w (am (lov L o c w) i : Nat) ∧ lov L o c w (am (lov L o c w) i : Nat) ≤ 500000 := by
          have l2 : lw (hgo L (upo o (am (lov L o c w) i : Nat) w) c) (hn L) < hn L := by
            have := lw_lt (hgo L (upo o (am (lov L o c w) i : Nat) w) c) (hn L - 1)
            have e0 : hn L - 1 + 1 = hn L := by omega
            rw [e0] at this
            omega
          exact hgo_b HL obx c (by omega) (by omega)
        rw [if_neg h0] at a6
        by_cases hc : lov L o c w (am (lov L o c w) i) < lov L o c w i
        · rw [if_pos hc] at a6
          refine ⟨(J i, J (lov L o c w i), J (i + 1)), _, ?_, ⟨?_, fin⟩⟩
          · unfold B_ra_bestHouseFor_7
            simp (disch := first | with_reducible assumption | omega | trivial) only [bn_s1, bd_s1, ei_l1, ei_r1, gI_J, gL_J, gR_J, aI_J, aL_J, sI_J, sL_J, pI_J, pL_J, J_add, J_sub, J_mul, J_neg, J_lt, J_le, J_eq, dv_J, rm_J, if_pos, if_neg, ↓reduceIte, bitJ, shlJ, orJ, j_0, j_1, j_2, j_3, j_4, j_5, j_6, j_7, j_8, j_9, j_10, j_11, j_12, j_13, j_14, j_15, j_16, j_17, j_18, j_19, j_20, j_21, j_22, j_23, j_24, j_25, j_26, j_27, j_28, j_29, j_30, j_31, j_32, j_33, j_34, j_35, j_36, j_37, j_38, j_39, j_40, j_41, j_42, j_43, j_44, j_45, j_46, j_47, j_48, j_49, j_50, j_51, j_52, j_57, j_59, j_63, j_74, j_75, j_93, j_97, j_99, j_100, j_122, j_200, j_255, j_300, j_465, j_496, j_900, j_999, j_1000, j_65536, j_65537, j_99999, j_252645135, j_858993459, j_1431655765, k_0, k_1, k_27, k_32, k_74, k_75, k_100, k_1000, k_65537, e1, r1, vi, e2, r31, v2, r43, el, hv, am0]
          · rw [a7, a6]; rfl
        · rw [if_neg hc] at a6
          refine ⟨(J (am (lov L o c w) i : Nat), J (amv (lov L o c w) i), J (i + 1)), _, ?_, ⟨?_, fin⟩⟩
          · unfold B_ra_bestHouseFor_7
            simp (disch := first | with_reducible assumption | omega | trivial) only [bn_s1, bd_s1, ei_l1, ei_r1, gI_J, gL_J, gR_J, aI_J, aL_J, sI_J, sL_J, pI_J, pL_J, J_add, J_sub, J_mul, J_neg, J_lt, J_le, J_eq, dv_J, rm_J, if_pos, if_neg, ↓reduceIte, bitJ, shlJ, orJ, j_0, j_1, j_2, j_3, j_4, j_5, j_6, j_7, j_8, j_9, j_10, j_11, j_12, j_13, j_14, j_15, j_16, j_17, j_18, j_19, j_20, j_21, j_22, j_23, j_24, j_25, j_26, j_27, j_28, j_29, j_30, j_31, j_32, j_33, j_34, j_35, j_36, j_37, j_38, j_39, j_40, j_41, j_42, j_43, j_44, j_45, j_46, j_47, j_48, j_49, j_50, j_51, j_52, j_57, j_59, j_63, j_74, j_75, j_93, j_97, j_99, j_100, j_122, j_200, j_255, j_300, j_465, j_496, j_900, j_999, j_1000, j_65536, j_65537, j_99999, j_252645135, j_858993459, j_1431655765, k_0, k_1, k_27, k_32, k_74, k_75, k_100, k_1000, k_65537, e1, r1, vi, e2, r31, v2, r43, el, hv, am0]
          · rw [a7, a6, am0]; rfl) (fun s h1 hI => by
      obtain ⟨rfl, f1, e1, B1, O1⟩ := hI
      have k1 := RS_k (RS_fm f1 HX)
      refine ⟨_, h1, ?_, rfl, f1⟩
      unfold B_ra_bestHouseFor_7
      simp (disch := first | with_reducible assumption | omega | trivial) only [bn_s1, bd_s1, ei_l1, ei_r1, gI_J, gL_J, gR_J, aI_J, aL_J, sI_J, sL_J, pI_J, pL_J, J_add, J_sub, J_mul, J_neg, J_lt, J_le, J_eq, dv_J, rm_J, if_pos, if_neg, ↓reduceIte, bitJ, shlJ, orJ, j_0, j_1, j_2, j_3, j_4, j_5, j_6, j_7, j_8, j_9, j_10, j_11, j_12, j_13, j_14, j_15, j_16, j_17, j_18, j_19, j_20, j_21, j_22, j_23, j_24, j_25, j_26, j_27, j_28, j_29, j_30, j_31, j_32, j_33, j_34, j_35, j_36, j_37, j_38, j_39, j_40, j_41, j_42, j_43, j_44, j_45, j_46, j_47, j_48, j_49, j_50, j_51, j_52, j_57, j_59, j_63, j_74, j_75, j_93, j_97, j_99, j_100, j_122, j_200, j_255, j_300, j_465, j_496, j_900, j_999, j_1000, j_65536, j_65537, j_99999, j_252645135, j_858993459, j_1431655765, k_0, k_1, k_27, k_32, k_74, k_75, k_100, k_1000, k_65537, e1])
  refine ⟨h1, ?_, q2⟩
  unfold F_ra_bestHouseFor
  rw [ck_e k]
  simp (disch := first | with_reducible assumption | omega | trivial) only [bn_s1, bd_s1, ei_l1, ei_r1, gI_J, gL_J, gR_J, aI_J, aL_J, sI_J, sL_J, pI_J, pL_J, J_add, J_sub, J_mul, J_neg, J_lt, J_le, J_eq, dv_J, rm_J, if_pos, if_neg, ↓reduceIte, bitJ, shlJ, orJ, j_0, j_1, j_2, j_3, j_4, j_5, j_6, j_7, j_8, j_9, j_10, j_11, j_12, j_13, j_14, j_15, j_16, j_17, j_18, j_19, j_20, j_21, j_22, j_23, j_24, j_25, j_26, j_27, j_28, j_29, j_30, j_31, j_32, j_33, j_34, j_35, j_36, j_37, j_38, j_39, j_40, j_41, j_42, j_43, j_44, j_45, j_46, j_47, j_48, j_49, j_50, j_51, j_52, j_57, j_59, j_63, j_74, j_75, j_93, j_97, j_99, j_100, j_122, j_200, j_255, j_300, j_465, j_496, j_900, j_999, j_1000, j_65536, j_65537, j_99999, j_252645135, j_858993459, j_1431655765, k_0, k_1, k_27, k_32, k_74, k_75, k_100, k_1000, k_65537, e1, q1]
/-! State: isTied, soften, loseOne -/
theorem C_isTied {L : Lk} {b : Nat} {h : Hp} {S : Sk} {k : Nat} (HL : LW L) (H : SS b h) (HS : SR L b S h) (hc0 : 0 ≤ S 28) (hc : (S 28).toNat < 2 ^ rn L) (hk : k < L 2 0) : F_st_isTied b (J k) h = some (J (if (S 28).toNat.testBit k = true then 0 else 1)) := by
  have k0 := SS_k H
  have tj := tieJ HL hc hk
  have et : fi h b 2 = 2 ^ rn L - 1 - ((S 28).toNat : Int) := by
    rw [HS.2.2.1]; congr 1; omega
  unfold F_st_isTied
  rw [ck_e k0]
  by_cases hb : (S 28).toNat.testBit k = true
  · simp (disch := first | with_reducible assumption | omega | trivial) only [bn_s1, bd_s1, ei_l1, ei_r1, gI_J, gL_J, gR_J, aI_J, aL_J, sI_J, sL_J, pI_J, pL_J, J_add, J_sub, J_mul, J_neg, J_lt, J_le, J_eq, dv_J, rm_J, if_pos, if_neg, ↓reduceIte, bitJ, shlJ, orJ, j_0, j_1, j_2, j_3, j_4, j_5, j_6, j_7, j_8, j_9, j_10, j_11, j_12, j_13, j_14, j_15, j_16, j_17, j_18, j_19, j_20, j_21, j_22, j_23, j_24, j_25, j_26, j_27, j_28, j_29, j_30, j_31, j_32, j_33, j_34, j_35, j_36, j_37, j_38, j_39, j_40, j_41, j_42, j_43, j_44, j_45, j_46, j_47, j_48, j_49, j_50, j_51, j_52, j_57, j_59, j_63, j_74, j_75, j_93, j_97, j_99, j_100, j_122, j_200, j_255, j_300, j_465, j_496, j_900, j_999, j_1000, j_65536, j_65537, j_99999, j_252645135, j_858993459, j_1431655765, k_0, k_1, k_27, k_32, k_74, k_75, k_100, k_1000, k_65537, et, tj, hb]
  · simp (disch := first | with_reducible assumption | omega | trivial) only [bn_s1, bd_s1, ei_l1, ei_r1, gI_J, gL_J, gR_J, aI_J, aL_J, sI_J, sL_J, pI_J, pL_J, J_add, J_sub, J_mul, J_neg, J_lt, J_le, J_eq, dv_J, rm_J, if_pos, if_neg, ↓reduceIte, bitJ, shlJ, orJ, j_0, j_1, j_2, j_3, j_4, j_5, j_6, j_7, j_8, j_9, j_10, j_11, j_12, j_13, j_14, j_15, j_16, j_17, j_18, j_19, j_20, j_21, j_22, j_23, j_24, j_25, j_26, j_27, j_28, j_29, j_30, j_31, j_32, j_33, j_34, j_35, j_36, j_37, j_38, j_39, j_40, j_41, j_42, j_43, j_44, j_45, j_46, j_47, j_48, j_49, j_50, j_51, j_52, j_57, j_59, j_63, j_74, j_75, j_93, j_97, j_99, j_100, j_122, j_200, j_255, j_300, j_465, j_496, j_900, j_999, j_1000, j_65536, j_65537, j_99999, j_252645135, j_858993459, j_1431655765, k_0, k_1, k_27, k_32, k_74, k_75, k_100, k_1000, k_65537, et, tj, hb]
/-- a week without mice under one house, under all -/
def sfu (S : Sk) (z : Int) : Sk := fun i => if i = 5 * z + 2 then S (5 * z + 1) else if i = 5 * z + 1 then S (5 * z) else if i = 5 * z then 0 else S i
def sft (S : Sk) : Nat → Sk
  | 0 => S
  | n + 1 => sfu (sft S n) n
theorem C_softenUnder {b : Nat} {h : Hp} {S : Sk} {z : Int} (H : SS b h) (hS : ∀ i, 0 ≤ i → i < 25 → ia h (b + 1) i = S i) (h0 : 0 ≤ z) (h1 : z < 5) (hb : b < 1000) : ∃ h', F_st_softenUnder b (J z) h = some h' ∧ Fm (b + 1) (b + 2) h h' ∧ (∀ i, 0 ≤ i → i < 25 → ia h' (b + 1) i = sfu S z i) := by
  have k := SS_k H; have r0 := SS_r0 H; have k0 := SS_k0 H; have n0 := SS_n0 H
  have v1 := hS (5 * z + 1) (by omega) (by omega)
  have v0 := hS (5 * z) (by omega) (by omega)
  have g1 := ia_rg h (b + 1) (5 * z + 1)
  have g0 := ia_rg h (b + 1) (5 * z)
  rw [v1] at g1
  rw [v0] at g0
  have fa : Fm (b + 1) (b + 2) h (wA h (b + 1) (5 * z + 2) (S (5 * z + 1))) := fm_wA (by omega) (by omega)
  have H1 := SS_fm fa H
  have k1 := SS_k H1; have r10 := SS_r0 H1; have k10 := SS_k0 H1; have n10 := SS_n0 H1
  have w0 : ia (wA h (b + 1) (5 * z + 2) (S (5 * z + 1))) (b + 1) (5 * z) = S (5 * z) := by rw [ia_ne (by omega) (by omega) (by omega)]; exact v0
  have fb : Fm (b + 1) (b + 2) (wA h (b + 1) (5 * z + 2) (S (5 * z + 1))) (wA (wA h (b + 1) (5 * z + 2) (S (5 * z + 1))) (b + 1) (5 * z + 1) (S (5 * z))) := fm_wA (by omega) (by omega)
  have H2 := SS_fm fb H1
  have k2 := SS_k H2; have r20 := SS_r0 H2; have k20 := SS_k0 H2; have n20 := SS_n0 H2
  have e5 : z * 5 = 5 * z := by omega
  refine ⟨wA (wA (wA h (b + 1) (5 * z + 2) (S (5 * z + 1))) (b + 1) (5 * z + 1) (S (5 * z))) (b + 1) (5 * z) 0, ?_, fm_tr fa (fm_tr fb (fm_wA (by omega) (by omega))), fun i i0 i1 => ?_⟩
  · unfold F_st_softenUnder
    rw [ck_e k]
    simp (disch := first | with_reducible assumption | omega | trivial) only [bn_s1, bd_s1, ei_l1, ei_r1, gI_J, gL_J, gR_J, aI_J, aL_J, sI_J, sL_J, pI_J, pL_J, J_add, J_sub, J_mul, J_neg, J_lt, J_le, J_eq, dv_J, rm_J, if_pos, if_neg, ↓reduceIte, bitJ, shlJ, orJ, j_0, j_1, j_2, j_3, j_4, j_5, j_6, j_7, j_8, j_9, j_10, j_11, j_12, j_13, j_14, j_15, j_16, j_17, j_18, j_19, j_20, j_21, j_22, j_23, j_24, j_25, j_26, j_27, j_28, j_29, j_30, j_31, j_32, j_33, j_34, j_35, j_36, j_37, j_38, j_39, j_40, j_41, j_42, j_43, j_44, j_45, j_46, j_47, j_48, j_49, j_50, j_51, j_52, j_57, j_59, j_63, j_74, j_75, j_93, j_97, j_99, j_100, j_122, j_200, j_255, j_300, j_465, j_496, j_900, j_999, j_1000, j_65536, j_65537, j_99999, j_252645135, j_858993459, j_1431655765, k_0, k_1, k_27, k_32, k_74, k_75, k_100, k_1000, k_65537, r0, r10, r20, e5, Int.add_zero, v1, w0]
  · unfold sfu
    rw [ia_if (by omega) i0 (by omega) (by omega) (by omega), ia_if (by omega) i0 (by omega) (by omega) (by omega), ia_if (by omega) i0 (by omega) (by omega) (by omega), hS i i0 i1]
    by_cases c2 : i = 5 * z + 2
    · rw [if_neg (by omega), if_neg (by omega), if_pos c2, if_pos c2]
    · rw [if_neg c2]
      by_cases c1 : i = 5 * z + 1
      · rw [if_neg (by omega), if_pos c1, if_pos c1, if_neg c2]
      · rw [if_neg c1, if_neg c1, if_neg c2]
theorem C_soften {b : Nat} {h : Hp} {S : Sk} (H : SS b h) (hS : ∀ i, 0 ≤ i → i < 25 → ia h (b + 1) i = S i) (hb : b < 1000) : ∃ h', F_st_soften b h = some h' ∧ Fm (b + 1) (b + 2) h h' ∧ (∀ i, 0 ≤ i → i < 25 → ia h' (b + 1) i = sft S 5 i) := by
  have k := SS_k H
  obtain ⟨y, h1, e1, q⟩ := lp_for (b := B_st_soften_2 b) (f := FU) (s := J 0) (h := h) (fun i s h' => s = J i ∧ Fm (b + 1) (b + 2) h h' ∧ (∀ j, 0 ≤ j → j < 25 → ia h' (b + 1) j = sft S i j)) (fun _ h' => Fm (b + 1) (b + 2) h h' ∧ (∀ j, 0 ≤ j → j < 25 → ia h' (b + 1) j = sft S 5 j)) 5 (by decide) ⟨rfl, fm_rf _ _ _, hS⟩ (fun i s h1 hi hI => by
      obtain ⟨rfl, f1, g1⟩ := hI
      obtain ⟨h2, e2, f2, g2⟩ := C_softenUnder (SS_fm f1 H) g1 (z := i) (by omega) (by omega) hb
      refine ⟨J (i + 1), h2, ?_, rfl, fm_tr f1 f2, g2⟩
      unfold B_st_soften_2
      simp (disch := first | with_reducible assumption | omega | trivial) only [bn_s1, bd_s1, ei_l1, ei_r1, gI_J, gL_J, gR_J, aI_J, aL_J, sI_J, sL_J, pI_J, pL_J, J_add, J_sub, J_mul, J_neg, J_lt, J_le, J_eq, dv_J, rm_J, if_pos, if_neg, ↓reduceIte, bitJ, shlJ, orJ, j_0, j_1, j_2, j_3, j_4, j_5, j_6, j_7, j_8, j_9, j_10, j_11, j_12, j_13, j_14, j_15, j_16, j_17, j_18, j_19, j_20, j_21, j_22, j_23, j_24, j_25, j_26, j_27, j_28, j_29, j_30, j_31, j_32, j_33, j_34, j_35, j_36, j_37, j_38, j_39, j_40, j_41, j_42, j_43, j_44, j_45, j_46, j_47, j_48, j_49, j_50, j_51, j_52, j_57, j_59, j_63, j_74, j_75, j_93, j_97, j_99, j_100, j_122, j_200, j_255, j_300, j_465, j_496, j_900, j_999, j_1000, j_65536, j_65537, j_99999, j_252645135, j_858993459, j_1431655765, k_0, k_1, k_27, k_32, k_74, k_75, k_100, k_1000, k_65537, e2]) (fun s h1 hI => by
      obtain ⟨rfl, f1, g1⟩ := hI
      refine ⟨(), h1, ?_, f1, g1⟩
      unfold B_st_soften_2
      simp (disch := first | with_reducible assumption | omega | trivial) only [bn_s1, bd_s1, ei_l1, ei_r1, gI_J, gL_J, gR_J, aI_J, aL_J, sI_J, sL_J, pI_J, pL_J, J_add, J_sub, J_mul, J_neg, J_lt, J_le, J_eq, dv_J, rm_J, if_pos, if_neg, ↓reduceIte, bitJ, shlJ, orJ, j_0, j_1, j_2, j_3, j_4, j_5, j_6, j_7, j_8, j_9, j_10, j_11, j_12, j_13, j_14, j_15, j_16, j_17, j_18, j_19, j_20, j_21, j_22, j_23, j_24, j_25, j_26, j_27, j_28, j_29, j_30, j_31, j_32, j_33, j_34, j_35, j_36, j_37, j_38, j_39, j_40, j_41, j_42, j_43, j_44, j_45, j_46, j_47, j_48, j_49, j_50, j_51, j_52, j_57, j_59, j_63, j_74, j_75, j_93, j_97, j_99, j_100, j_122, j_200, j_255, j_300, j_465, j_496, j_900, j_999, j_1000, j_65536, j_65537, j_99999, j_252645135, j_858993459, j_1431655765, k_0, k_1, k_27, k_32, k_74, k_75, k_100, k_1000, k_65537])
  refine ⟨h1, ?_, q⟩
  unfold F_st_soften
  rw [ck_e k]
  simp (disch := first | with_reducible assumption | omega | trivial) only [bn_s1, bd_s1, ei_l1, ei_r1, gI_J, gL_J, gR_J, aI_J, aL_J, sI_J, sL_J, pI_J, pL_J, J_add, J_sub, J_mul, J_neg, J_lt, J_le, J_eq, dv_J, rm_J, if_pos, if_neg, ↓reduceIte, bitJ, shlJ, orJ, j_0, j_1, j_2, j_3, j_4, j_5, j_6, j_7, j_8, j_9, j_10, j_11, j_12, j_13, j_14, j_15, j_16, j_17, j_18, j_19, j_20, j_21, j_22, j_23, j_24, j_25, j_26, j_27, j_28, j_29, j_30, j_31, j_32, j_33, j_34, j_35, j_36, j_37, j_38, j_39, j_40, j_41, j_42, j_43, j_44, j_45, j_46, j_47, j_48, j_49, j_50, j_51, j_52, j_57, j_59, j_63, j_74, j_75, j_93, j_97, j_99, j_100, j_122, j_200, j_255, j_300, j_465, j_496, j_900, j_999, j_1000, j_65536, j_65537, j_99999, j_252645135, j_858993459, j_1431655765, k_0, k_1, k_27, k_32, k_74, k_75, k_100, k_1000, k_65537, e1]
