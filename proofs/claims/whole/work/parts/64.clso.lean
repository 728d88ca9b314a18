/-! shapes of the class's objects -/
def CR (h : Hp) : Prop := kd h 1000001 = 100 ∧ iA h 1000001 = liftL ∧ kd h 1000002 = 100 ∧ iA h 1000002 = eatL
theorem CR_fm {lo hi : Nat} {h h' : Hp} (x : Fm lo hi h h') (hh : hi ≤ 1000000) (H : CR h) : CR h' := by
  obtain ⟨a1, a2, a3, a4⟩ := H
  refine ⟨?_, ?_, ?_, ?_⟩
  · rw [fm_kd x]; exact a1
  · rw [(x.2.2.2.2.2.2 1000001 (by omega)).2.2.1]; exact a2
  · rw [fm_kd x]; exact a3
  · rw [(x.2.2.2.2.2.2 1000002 (by omega)).2.2.1]; exact a4
theorem lif_0 : ∀ k, k < 5 → ((liftL).getD k 0) = J (if k = 0 then 3 else if k = 2 then 1 else if k = 4 then 4 else 2) := by decide +kernel
def lfk (k : Int) : Int := if k = 0 then 3 else if k = 2 then 1 else if k = 4 then 4 else 2
theorem lif_e {h : Hp} (H : CR h) {z : Int} (h0 : 0 ≤ z) (h1 : z < 5) : aI h 100 1000001 (J z) = some (J (lfk z)) := by
  obtain ⟨a1, a2, a3, a4⟩ := H
  rw [aI_J a1 h0 (by rw [a2]; exact h1) (by omega)]
  unfold ia
  rw [a2]
  have : z = 0 ∨ z = 1 ∨ z = 2 ∨ z = 3 ∨ z = 4 := by omega
  rcases this with rfl | rfl | rfl | rfl | rfl <;> decide +kernel
/-! State: liftUnder -/
def lfs (S : Sk) (h : Int) (n : Nat) : Int := sm n (fun k => S (5 * h + k) * lfk k)
theorem lfs_e (S : Sk) (h : Int) : lfs S h 5 = lft S h := by
  have e0 : lfk 0 = 3 := by decide
  have e1 : lfk 1 = 2 := by decide
  have e2 : lfk 2 = 1 := by decide
  have e3 : lfk 3 = 2 := by decide
  have e4 : lfk 4 = 4 := by decide
  show 0 + S (5 * h + 0) * lfk 0 + S (5 * h + 1) * lfk 1 + S (5 * h + 2) * lfk 2 + S (5 * h + 3) * lfk 3 + S (5 * h + 4) * lfk 4 = _
  rw [e0, e1, e2, e3, e4]
  unfold lft
  rw [Int.add_zero]
  omega
theorem C_liftUnder {b : Nat} {h : Hp} {S : Sk} {z : Int} (HC : CR h) (H : SS b h) (hS : ∀ i, 0 ≤ i → i < 25 → ia h (b + 1) i = S i) (h0 : 0 ≤ z) (h1 : z < 5) : F_st_liftUnder b (J z) h = some (J (lft S z)) := by
  have k := SS_k H; have r0 := SS_r0 H; have k0 := SS_k0 H; have n0 := SS_n0 H
  have e := lq_for (b := B_st_liftUnder_4 b (J z) h) (r := J (lfs S z 5)) (f := FU) (s := (J 0, J 0)) (fun i => (J (lfs S z i), J i)) 5 (by decide) rfl (fun i hi => by
      have e2 : z * 5 + i = 5 * z + i := by omega
      unfold B_st_liftUnder_4
      simp (disch := first | with_reducible assumption | omega | trivial) only [bn_s1, bd_s1, ei_l1, ei_r1, gI_J, gL_J, gR_J, aI_J, aL_J, sI_J, sL_J, pI_J, pL_J, J_add, J_sub, J_mul, J_neg, J_lt, J_le, J_eq, dv_J, rm_J, if_pos, if_neg, ↓reduceIte, bitJ, shlJ, orJ, j_0, j_1, j_2, j_3, j_4, j_5, j_6, j_7, j_8, j_9, j_10, j_11, j_12, j_13, j_14, j_15, j_16, j_17, j_18, j_19, j_20, j_21, j_22, j_23, j_24, j_25, j_26, j_27, j_28, j_29, j_30, j_31, j_32, j_33, j_34, j_35, j_36, j_37, j_38, j_39, j_40, j_41, j_42, j_43, j_44, j_45, j_46, j_47, j_48, j_49, j_50, j_51, j_52, j_57, j_59, j_63, j_74, j_75, j_93, j_97, j_99, j_100, j_122, j_200, j_255, j_300, j_465, j_496, j_900, j_999, j_1000, j_65536, j_65537, j_99999, j_252645135, j_858993459, j_1431655765, k_0, k_1, k_27, k_32, k_74, k_75, k_100, k_1000, k_65537, r0, e2, lif_e HC, hS]
      rfl) (by
      unfold B_st_liftUnder_4
      simp (disch := first | with_reducible assumption | omega | trivial) only [bn_s1, bd_s1, ei_l1, ei_r1, gI_J, gL_J, gR_J, aI_J, aL_J, sI_J, sL_J, pI_J, pL_J, J_add, J_sub, J_mul, J_neg, J_lt, J_le, J_eq, dv_J, rm_J, if_pos, if_neg, ↓reduceIte, bitJ, shlJ, orJ, j_0, j_1, j_2, j_3, j_4, j_5, j_6, j_7, j_8, j_9, j_10, j_11, j_12, j_13, j_14, j_15, j_16, j_17, j_18, j_19, j_20, j_21, j_22, j_23, j_24, j_25, j_26, j_27, j_28, j_29, j_30, j_31, j_32, j_33, j_34, j_35, j_36, j_37, j_38, j_39, j_40, j_41, j_42, j_43, j_44, j_45, j_46, j_47, j_48, j_49, j_50, j_51, j_52, j_57, j_59, j_63, j_74, j_75, j_93, j_97, j_99, j_100, j_122, j_200, j_255, j_300, j_465, j_496, j_900, j_999, j_1000, j_65536, j_65537, j_99999, j_252645135, j_858993459, j_1431655765, k_0, k_1, k_27, k_32, k_74, k_75, k_100, k_1000, k_65537])
  unfold F_st_liftUnder
  rw [ck_e k]
  simp (disch := first | with_reducible assumption | omega | trivial) only [bn_s1, bd_s1, ei_l1, ei_r1, gI_J, gL_J, gR_J, aI_J, aL_J, sI_J, sL_J, pI_J, pL_J, J_add, J_sub, J_mul, J_neg, J_lt, J_le, J_eq, dv_J, rm_J, if_pos, if_neg, ↓reduceIte, bitJ, shlJ, orJ, j_0, j_1, j_2, j_3, j_4, j_5, j_6, j_7, j_8, j_9, j_10, j_11, j_12, j_13, j_14, j_15, j_16, j_17, j_18, j_19, j_20, j_21, j_22, j_23, j_24, j_25, j_26, j_27, j_28, j_29, j_30, j_31, j_32, j_33, j_34, j_35, j_36, j_37, j_38, j_39, j_40, j_41, j_42, j_43, j_44, j_45, j_46, j_47, j_48, j_49, j_50, j_51, j_52, j_57, j_59, j_63, j_74, j_75, j_93, j_97, j_99, j_100, j_122, j_200, j_255, j_300, j_465, j_496, j_900, j_999, j_1000, j_65536, j_65537, j_99999, j_252645135, j_858993459, j_1431655765, k_0, k_1, k_27, k_32, k_74, k_75, k_100, k_1000, k_65537, e, lfs_e]
/-! Told: weightAt -/
def SR (L : Lk) (b : Nat) (S : Sk) (h : Hp) : Prop := (∀ i, 0 ≤ i → i < 25 → ia h (b + 1) i = S i) ∧ (∀ g, 0 ≤ g → g < L 3 0 → ia h (b + 2) g = S (25 + g)) ∧ fi h b 2 = 2 ^ rn L - 1 - S 28 ∧ fi h b 3 = S 30 ∧ fi h b 4 = S 29
def nbo (L : Lk) (n : Nat) : Prop := n < 32 ∧ ∀ i : Nat, i < L 1 0 → n.testBit i = decide (L 9 i = 0)
def TR (L : Lk) (t : Nat) (h : Hp) : Prop := (fi h t 0 = L 0 0 ∧ fi h t 1 = L 1 0 ∧ fi h t 5 = L 2 0 ∧ fi h t 8 = L 3 0 ∧ fi h t 11 = L 4 0 ∧ fi h t 14 = L 5 0 ∧ fi h (t + 12) 0 = L 6 0 ∧ fi h (t + 12) 4 = L 7 0) ∧ (∃ n : Nat, fi h t 2 = n ∧ nbo L n) ∧
  (∀ i, 0 ≤ i → i < L 1 0 → ia h (t + 1) i = L 10 i) ∧ (∀ i, 0 ≤ i → i < 25 → ia h (t + 2) i = L 11 i) ∧ (∀ i, 0 ≤ i → i < L 2 0 → ia h (t + 3) i = L 13 i ∧ ia h (t + 4) i = L 14 i) ∧ (∀ i, 0 ≤ i → i < L 3 0 → ia h (t + 5) i = L 15 i ∧ ia h (t + 6) i = L 16 i) ∧ (∀ i, 0 ≤ i → i < L 4 0 → ia h (t + 7) i = L 17 i ∧ ia h (t + 8) i = L 18 i) ∧ (∀ i, 0 ≤ i → i < L 5 0 → ia h (t + 9) i = L 19 i ∧ ia h (t + 10) i = L 20 i ∧ ia h (t + 11) i = L 21 i) ∧ (∀ i, 0 ≤ i → i < L 6 0 → ia h (t + 13) i = L 22 i ∧ ia h (t + 14) i = L 23 i ∧ ia h (t + 15) i = L 24 i) ∧ (∀ i, 0 ≤ i → i < L 7 0 → ia h (t + 16) i = L 25 i ∧ ia h (t + 17) i = L 26 i)
theorem TR_w {L : Lk} {t : Nat} {h : Hp} (H : TR L t h) : ∀ i, 0 ≤ i → i < L 1 0 → ia h (t + 1) i = L 10 i := H.2.2.1
theorem TR_c {L : Lk} {t : Nat} {h : Hp} (H : TR L t h) : ∀ i, 0 ≤ i → i < 25 → ia h (t + 2) i = L 11 i := H.2.2.2.1
theorem TR_o {L : Lk} {t : Nat} {h : Hp} (H : TR L t h) : ∀ i, 0 ≤ i → i < L 2 0 → ia h (t + 3) i = L 13 i := fun i a b => (H.2.2.2.2.1 i a b).1
theorem TR_u {L : Lk} {t : Nat} {h : Hp} (H : TR L t h) : ∀ i, 0 ≤ i → i < L 2 0 → ia h (t + 4) i = L 14 i := fun i a b => (H.2.2.2.2.1 i a b).2
theorem TR_gw {L : Lk} {t : Nat} {h : Hp} (H : TR L t h) : ∀ i, 0 ≤ i → i < L 3 0 → ia h (t + 5) i = L 15 i := fun i a b => (H.2.2.2.2.2.1 i a b).1
theorem TR_ga {L : Lk} {t : Nat} {h : Hp} (H : TR L t h) : ∀ i, 0 ≤ i → i < L 3 0 → ia h (t + 6) i = L 16 i := fun i a b => (H.2.2.2.2.2.1 i a b).2
theorem TR_dk {L : Lk} {t : Nat} {h : Hp} (H : TR L t h) : ∀ i, 0 ≤ i → i < L 4 0 → ia h (t + 7) i = L 17 i := fun i a b => (H.2.2.2.2.2.2.1 i a b).1
theorem TR_dd {L : Lk} {t : Nat} {h : Hp} (H : TR L t h) : ∀ i, 0 ≤ i → i < L 4 0 → ia h (t + 8) i = L 18 i := fun i a b => (H.2.2.2.2.2.2.1 i a b).2
theorem TR_fa {L : Lk} {t : Nat} {h : Hp} (H : TR L t h) : ∀ i, 0 ≤ i → i < L 5 0 → ia h (t + 9) i = L 19 i := fun i a b => (H.2.2.2.2.2.2.2.1 i a b).1
theorem TR_fw {L : Lk} {t : Nat} {h : Hp} (H : TR L t h) : ∀ i, 0 ≤ i → i < L 5 0 → ia h (t + 10) i = L 20 i := fun i a b => (H.2.2.2.2.2.2.2.1 i a b).2.1
theorem TR_fh {L : Lk} {t : Nat} {h : Hp} (H : TR L t h) : ∀ i, 0 ≤ i → i < L 5 0 → ia h (t + 11) i = L 21 i := fun i a b => (H.2.2.2.2.2.2.2.1 i a b).2.2
theorem TR_vb {L : Lk} {t : Nat} {h : Hp} (H : TR L t h) : ∀ i, 0 ≤ i → i < L 6 0 → ia h (t + 13) i = L 22 i := fun i a b => (H.2.2.2.2.2.2.2.2.1 i a b).1
theorem TR_vt {L : Lk} {t : Nat} {h : Hp} (H : TR L t h) : ∀ i, 0 ≤ i → i < L 6 0 → ia h (t + 14) i = L 23 i := fun i a b => (H.2.2.2.2.2.2.2.2.1 i a b).2.1
theorem TR_vm {L : Lk} {t : Nat} {h : Hp} (H : TR L t h) : ∀ i, 0 ≤ i → i < L 6 0 → ia h (t + 15) i = L 24 i := fun i a b => (H.2.2.2.2.2.2.2.2.1 i a b).2.2
theorem TR_sa {L : Lk} {t : Nat} {h : Hp} (H : TR L t h) : ∀ i, 0 ≤ i → i < L 7 0 → ia h (t + 16) i = L 25 i := fun i a b => (H.2.2.2.2.2.2.2.2.2 i a b).1
theorem TR_sh {L : Lk} {t : Nat} {h : Hp} (H : TR L t h) : ∀ i, 0 ≤ i → i < L 7 0 → ia h (t + 17) i = L 26 i := fun i a b => (H.2.2.2.2.2.2.2.2.2 i a b).2
theorem TR_mi {L : Lk} {t : Nat} {h : Hp} (H : TR L t h) : fi h t 0 = L 0 0 := H.1.1
theorem TR_h {L : Lk} {t : Nat} {h : Hp} (H : TR L t h) : fi h t 1 = L 1 0 := H.1.2.1
theorem TR_r {L : Lk} {t : Nat} {h : Hp} (H : TR L t h) : fi h t 5 = L 2 0 := H.1.2.2.1
theorem TR_g {L : Lk} {t : Nat} {h : Hp} (H : TR L t h) : fi h t 8 = L 3 0 := H.1.2.2.2.1
theorem TR_d {L : Lk} {t : Nat} {h : Hp} (H : TR L t h) : fi h t 11 = L 4 0 := H.1.2.2.2.2.1
theorem TR_f {L : Lk} {t : Nat} {h : Hp} (H : TR L t h) : fi h t 14 = L 5 0 := H.1.2.2.2.2.2.1
theorem TR_v {L : Lk} {t : Nat} {h : Hp} (H : TR L t h) : fi h (t + 12) 0 = L 6 0 := H.1.2.2.2.2.2.2.1
theorem TR_s {L : Lk} {t : Nat} {h : Hp} (H : TR L t h) : fi h (t + 12) 4 = L 7 0 := H.1.2.2.2.2.2.2.2
theorem TR_fm {L : Lk} {lo hi t : Nat} {h h' : Hp} (x : Fm lo hi h h') (hd : t + 18 ≤ lo ∨ hi ≤ t) (H : TR L t h) : TR L t h' := by
  unfold TR
  simp (disch := omega) only [fm_fi x, fm_ia x]
  exact H
theorem SR_fm {L : Lk} {lo hi b : Nat} {S : Sk} {h h' : Hp} (x : Fm lo hi h h') (hd : b + 3 ≤ lo ∨ hi ≤ b) (H : SR L b S h) : SR L b S h' := by
  unfold SR
  simp (disch := omega) only [fm_fi x, fm_ia x]
  exact H
theorem C_weightAt {L : Lk} {t b : Nat} {h : Hp} {S : Sk} {z : Int} (HL : LW L) (HT : TS t h) (HR : TR L t h) (H : SS b h) (HS : SR L b S h) (h0 : 0 ≤ z) (h1 : z < L 1 0) (hg : ∀ g, 0 ≤ g → g < L 3 0 → -1 ≤ S (25 + g) ∧ S (25 + g) < 5) : F_to_weightAt t (J z) b h = some (J (wgt L S z)) := by
  have k := SS_k H; have r1 := SS_r1 H; have k1 := SS_k1 H; have n1 := SS_n1 H
  have tk := TS_k HT; have tr3 := TS_r3 HT; have tk3 := TS_k3 HT; have tn3 := TS_n3 HT; have tr9 := TS_r9 HT; have tk9 := TS_k9 HT; have tn9 := TS_n9 HT
  have b1 := LW_h HL; have b3 := LW_g HL
  have gh := HS.2.1
  have e := lq_for (b := B_to_weightAt_10 t (J z) b h) (r := J (wgt L S z)) (f := FU) (s := (J (L 10 z), J 0)) (fun i => (J (L 10 z + gsm L S z i), J i)) (L 3 0).toNat (by unfold FU; omega) (by show _ = (J (L 10 z + 0), J 0); rw [Int.add_zero]) (fun i hi => by
      have e3 : ia h (b + 2) i = S (25 + i) := gh i (by omega) (by omega)
      have e4 : ia h (t + 5) i = L 15 i := TR_gw HR i (by omega) (by omega)
      have e5 := hg i (by omega) (by omega)
      have e6 : gsm L S z (i + 1) = gsm L S z i + if S (25 + i) = z then L 15 i else 0 := rfl
      unfold B_to_weightAt_10
      by_cases hc : S (25 + i) = z
      · rw [if_pos hc] at e6
        simp (disch := first | with_reducible assumption | omega | trivial) only [bn_s1, bd_s1, ei_l1, ei_r1, gI_J, gL_J, gR_J, aI_J, aL_J, sI_J, sL_J, pI_J, pL_J, J_add, J_sub, J_mul, J_neg, J_lt, J_le, J_eq, dv_J, rm_J, if_pos, if_neg, ↓reduceIte, bitJ, shlJ, orJ, j_0, j_1, j_2, j_3, j_4, j_5, j_6, j_7, j_8, j_9, j_10, j_11, j_12, j_13, j_14, j_15, j_16, j_17, j_18, j_19, j_20, j_21, j_22, j_23, j_24, j_25, j_26, j_27, j_28, j_29, j_30, j_31, j_32, j_33, j_34, j_35, j_36, j_37, j_38, j_39, j_40, j_41, j_42, j_43, j_44, j_45, j_46, j_47, j_48, j_49, j_50, j_51, j_52, j_57, j_59, j_63, j_74, j_75, j_93, j_97, j_99, j_100, j_122, j_200, j_255, j_300, j_465, j_496, j_900, j_999, j_1000, j_65536, j_65537, j_99999, j_252645135, j_858993459, j_1431655765, k_0, k_1, k_27, k_32, k_74, k_75, k_100, k_1000, k_65537, r1, TR_g HR, tr9, e3, e4, e6]
        simp only [Int.add_assoc]
        rfl
      · rw [if_neg hc] at e6
        simp (disch := first | with_reducible assumption | omega | trivial) only [bn_s1, bd_s1, ei_l1, ei_r1, gI_J, gL_J, gR_J, aI_J, aL_J, sI_J, sL_J, pI_J, pL_J, J_add, J_sub, J_mul, J_neg, J_lt, J_le, J_eq, dv_J, rm_J, if_pos, if_neg, ↓reduceIte, bitJ, shlJ, orJ, j_0, j_1, j_2, j_3, j_4, j_5, j_6, j_7, j_8, j_9, j_10, j_11, j_12, j_13, j_14, j_15, j_16, j_17, j_18, j_19, j_20, j_21, j_22, j_23, j_24, j_25, j_26, j_27, j_28, j_29, j_30, j_31, j_32, j_33, j_34, j_35, j_36, j_37, j_38, j_39, j_40, j_41, j_42, j_43, j_44, j_45, j_46, j_47, j_48, j_49, j_50, j_51, j_52, j_57, j_59, j_63, j_74, j_75, j_93, j_97, j_99, j_100, j_122, j_200, j_255, j_300, j_465, j_496, j_900, j_999, j_1000, j_65536, j_65537, j_99999, j_252645135, j_858993459, j_1431655765, k_0, k_1, k_27, k_32, k_74, k_75, k_100, k_1000, k_65537, r1, TR_g HR, e3, e6]
        simp only [Int.add_zero]
        rfl) (by
      unfold B_to_weightAt_10
      simp (disch := first | with_reducible assumption | omega | trivial) only [bn_s1, bd_s1, ei_l1, ei_r1, gI_J, gL_J, gR_J, aI_J, aL_J, sI_J, sL_J, pI_J, pL_J, J_add, J_sub, J_mul, J_neg, J_lt, J_le, J_eq, dv_J, rm_J, if_pos, if_neg, ↓reduceIte, bitJ, shlJ, orJ, j_0, j_1, j_2, j_3, j_4, j_5, j_6, j_7, j_8, j_9, j_10, j_11, j_12, j_13, j_14, j_15, j_16, j_17, j_18, j_19, j_20, j_21, j_22, j_23, j_24, j_25, j_26, j_27, j_28, j_29, j_30, j_31, j_32, j_33, j_34, j_35, j_36, j_37, j_38, j_39, j_40, j_41, j_42, j_43, j_44, j_45, j_46, j_47, j_48, j_49, j_50, j_51, j_52, j_57, j_59, j_63, j_74, j_75, j_93, j_97, j_99, j_100, j_122, j_200, j_255, j_300, j_465, j_496, j_900, j_999, j_1000, j_65536, j_65537, j_99999, j_252645135, j_858993459, j_1431655765, k_0, k_1, k_27, k_32, k_74, k_75, k_100, k_1000, k_65537, TR_g HR]
      rfl)
  unfold F_to_weightAt
  rw [ck_e tk]
  simp (disch := first | with_reducible assumption | omega | trivial) only [bn_s1, bd_s1, ei_l1, ei_r1, gI_J, gL_J, gR_J, aI_J, aL_J, sI_J, sL_J, pI_J, pL_J, J_add, J_sub, J_mul, J_neg, J_lt, J_le, J_eq, dv_J, rm_J, if_pos, if_neg, ↓reduceIte, bitJ, shlJ, orJ, j_0, j_1, j_2, j_3, j_4, j_5, j_6, j_7, j_8, j_9, j_10, j_11, j_12, j_13, j_14, j_15, j_16, j_17, j_18, j_19, j_20, j_21, j_22, j_23, j_24, j_25, j_26, j_27, j_28, j_29, j_30, j_31, j_32, j_33, j_34, j_35, j_36, j_37, j_38, j_39, j_40, j_41, j_42, j_43, j_44, j_45, j_46, j_47, j_48, j_49, j_50, j_51, j_52, j_57, j_59, j_63, j_74, j_75, j_93, j_97, j_99, j_100, j_122, j_200, j_255, j_300, j_465, j_496, j_900, j_999, j_1000, j_65536, j_65537, j_99999, j_252645135, j_858993459, j_1431655765, k_0, k_1, k_27, k_32, k_74, k_75, k_100, k_1000, k_65537, tr3, TR_w HR, e]
