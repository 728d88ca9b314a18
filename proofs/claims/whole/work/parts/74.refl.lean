/-! the reference: what it holds, and its leaves -/
def LR (L : Lk) (b : Nat) (h : Hp) : Prop := (fi h b 0 = L 0 0 ∧ fi h b 1 = L 1 0 ∧ fi h b 2 = L 2 0 ∧ fi h b 3 = L 3 0 ∧ fi h b 4 = L 4 0 ∧ fi h b 5 = L 5 0 ∧ fi h b 6 = L 6 0 ∧ fi h b 7 = L 7 0) ∧
  (∀ i, 0 ≤ i → i < L 1 0 → ia h (b + 1) i = L 9 i ∧ ia h (b + 2) i = L 10 i) ∧ (∀ i, 0 ≤ i → i < 25 → ia h (b + 3) i = L 11 i) ∧ (∀ i, 0 ≤ i → i < L 2 0 → ia h (b + 5) i = L 13 i ∧ ia h (b + 6) i = L 14 i) ∧ (∀ i, 0 ≤ i → i < L 3 0 → ia h (b + 7) i = L 15 i ∧ ia h (b + 8) i = L 16 i) ∧ (∀ i, 0 ≤ i → i < L 4 0 → ia h (b + 9) i = L 17 i ∧ ia h (b + 10) i = L 18 i) ∧ (∀ i, 0 ≤ i → i < L 5 0 → ia h (b + 11) i = L 19 i ∧ ia h (b + 12) i = L 20 i ∧ ia h (b + 13) i = L 21 i) ∧ (∀ i, 0 ≤ i → i < L 6 0 → ia h (b + 14) i = L 22 i ∧ ia h (b + 15) i = L 23 i ∧ ia h (b + 16) i = L 24 i) ∧ (∀ i, 0 ≤ i → i < L 7 0 → ia h (b + 17) i = L 25 i ∧ ia h (b + 18) i = L 26 i)
theorem LR_fm {L : Lk} {lo hi b : Nat} {h h' : Hp} (x : Fm lo hi h h') (hd : b + 22 ≤ lo ∨ hi ≤ b) (H : LR L b h) : LR L b h' := by
  unfold LR
  simp (disch := omega) only [fm_fi x, fm_ia x]
  exact H
def RC (L : Lk) (b : Nat) (h : Hp) : Prop := MS h ∧ fR h 88 3 = some b ∧ YS b h ∧ LR L b h ∧ 102 ≤ b ∧ b < 900000
theorem RC_fm {L : Lk} {lo hi b : Nat} {h h' : Hp} (x : Fm lo hi h h') (hd : hi ≤ 102) (H : RC L b h) : RC L b h' := by
  obtain ⟨a1, a2, a3, a4, a5, a6⟩ := H
  exact ⟨MS_fm x a1, by rw [fm_fR x]; exact a2, YS_fm x a3, LR_fm x (by omega) a4, a5, a6⟩
def XR (S : Sk) (h : Hp) : Prop := ∀ i, 0 ≤ i → i < 31 → ia h 91 i = S i
theorem lifts_e {k : Int} (h0 : 0 ≤ k) (h1 : k < 5) : F_md_lifts (J k) = some (J (lfk k)) := by
  have : k = 0 ∨ k = 1 ∨ k = 2 ∨ k = 3 ∨ k = 4 := by omega
  rcases this with rfl | rfl | rfl | rfl | rfl <;> decide +kernel
theorem cell_e (z k : Int) : F_md_cell (J z) (J k) = some (J (5 * z + k)) := by
  unfold F_md_cell
  simp (disch := first | with_reducible assumption | omega | trivial) only [bn_s1, bd_s1, ei_l1, ei_r1, gI_J, gL_J, gR_J, aI_J, aL_J, sI_J, sL_J, pI_J, pL_J, J_add, J_sub, J_mul, J_neg, J_lt, J_le, J_eq, dv_J, rm_J, if_pos, if_neg, ↓reduceIte, bitJ, shlJ, orJ, j_0, j_1, j_2, j_3, j_4, j_5, j_6, j_7, j_8, j_9, j_10, j_11, j_12, j_13, j_14, j_15, j_16, j_17, j_18, j_19, j_20, j_21, j_22, j_23, j_24, j_25, j_26, j_27, j_28, j_29, j_30, j_31, j_32, j_33, j_34, j_35, j_36, j_37, j_38, j_39, j_40, j_41, j_42, j_43, j_44, j_45, j_46, j_47, j_48, j_49, j_50, j_51, j_52, j_57, j_59, j_63, j_74, j_75, j_93, j_97, j_99, j_100, j_122, j_200, j_255, j_300, j_465, j_496, j_900, j_999, j_1000, j_65536, j_65537, j_99999, j_252645135, j_858993459, j_1431655765, k_0, k_1, k_27, k_32, k_74, k_75, k_100, k_1000, k_65537, Int.zero_add]
theorem bit_e {n : Nat} {z : Int} (hn : n < 32) (h0 : 0 ≤ z) (h1 : z < 5) : F_md_bit (J n) (J z) = some (J (if n.testBit z.toNat = true then 1 else 0)) := by
  unfold F_md_bit
  rw [j_1, show (31 : Int32) = J 31 from j_31, bitZ hn h0 h1]
  by_cases c : n.testBit z.toNat = true
  · rw [if_pos c, if_pos rfl]
  · rw [if_neg c, if_neg (by decide)]; rfl
theorem bits_e : ∀ n, n < 32 → F_md_bits (J (n : Nat)) = some (J (pc5 n : Nat)) := by decide +kernel
theorem D_liftOf {L : Lk} {b : Nat} {h : Hp} {S : Sk} {z : Int} (HC : RC L b h) (HX : XR S h) (h0 : 0 ≤ z) (h1 : z < 5) : F_md_liftOf 88 (J z) h = some (J (lft S z)) := by
  have HM := HC.1
  have k := MS_k HM; have r := MS_r16 HM; have k1 := MS_k16 HM; have n1 := MS_n16 HM
  have e := lq_for (b := B_md_liftOf_4 88 (J z) h) (r := J (lfs S z 5)) (f := FU) (s := (J 0, J 0)) (fun i => (J (lfs S z i), J i)) 5 (by decide) rfl (fun i hi => by
      have e2 := HX (5 * z + i) (by omega) (by omega)
      have e3 : lfs S z (i + 1) = lfs S z i + lfk i * S (5 * z + i) := by rw [Int.mul_comm]; rfl
      unfold B_md_liftOf_4
      simp (disch := first | with_reducible assumption | omega | trivial) only [bn_s1, bd_s1, ei_l1, ei_r1, gI_J, gL_J, gR_J, aI_J, aL_J, sI_J, sL_J, pI_J, pL_J, J_add, J_sub, J_mul, J_neg, J_lt, J_le, J_eq, dv_J, rm_J, if_pos, if_neg, ↓reduceIte, bitJ, shlJ, orJ, j_0, j_1, j_2, j_3, j_4, j_5, j_6, j_7, j_8, j_9, j_10, j_11, j_12, j_13, j_14, j_15, j_16, j_17, j_18, j_19, j_20, j_21, j_22, j_23, j_24, j_25, j_26, j_27, j_28, j_29, j_30, j_31, j_32, j_33, j_34, j_35, j_36, j_37, j_38, j_39, j_40, j_41, j_42, j_43, j_44, j_45, j_46, j_47, j_48, j_49, j_50, j_51, j_52, j_57, j_59, j_63, j_74, j_75, j_93, j_97, j_99, j_100, j_122, j_200, j_255, j_300, j_465, j_496, j_900, j_999, j_1000, j_65536, j_65537, j_99999, j_252645135, j_858993459, j_1431655765, k_0, k_1, k_27, k_32, k_74, k_75, k_100, k_1000, k_65537, r, cell_e, lifts_e, e2, e3]
      rfl) (by
      unfold B_md_liftOf_4
      simp (disch := first | with_reducible assumption | omega | trivial) only [bn_s1, bd_s1, ei_l1, ei_r1, gI_J, gL_J, gR_J, aI_J, aL_J, sI_J, sL_J, pI_J, pL_J, J_add, J_sub, J_mul, J_neg, J_lt, J_le, J_eq, dv_J, rm_J, if_pos, if_neg, ↓reduceIte, bitJ, shlJ, orJ, j_0, j_1, j_2, j_3, j_4, j_5, j_6, j_7, j_8, j_9, j_10, j_11, j_12, j_13, j_14, j_15, j_16, j_17, j_18, j_19, j_20, j_21, j_22, j_23, j_24, j_25, j_26, j_27, j_28, j_29, j_30, j_31, j_32, j_33, j_34, j_35, j_36, j_37, j_38, j_39, j_40, j_41, j_42, j_43, j_44, j_45, j_46, j_47, j_48, j_49, j_50, j_51, j_52, j_57, j_59, j_63, j_74, j_75, j_93, j_97, j_99, j_100, j_122, j_200, j_255, j_300, j_465, j_496, j_900, j_999, j_1000, j_65536, j_65537, j_99999, j_252645135, j_858993459, j_1431655765, k_0, k_1, k_27, k_32, k_74, k_75, k_100, k_1000, k_65537])
  unfold F_md_liftOf
  rw [ck_e k]
  simp (disch := first | with_reducible assumption | omega | trivial) only [bn_s1, bd_s1, ei_l1, ei_r1, gI_J, gL_J, gR_J, aI_J, aL_J, sI_J, sL_J, pI_J, pL_J, J_add, J_sub, J_mul, J_neg, J_lt, J_le, J_eq, dv_J, rm_J, if_pos, if_neg, ↓reduceIte, bitJ, shlJ, orJ, j_0, j_1, j_2, j_3, j_4, j_5, j_6, j_7, j_8, j_9, j_10, j_11, j_12, j_13, j_14, j_15, j_16, j_17, j_18, j_19, j_20, j_21, j_22, j_23, j_24, j_25, j_26, j_27, j_28, j_29, j_30, j_31, j_32, j_33, j_34, j_35, j_36, j_37, j_38, j_39, j_40, j_41, j_42, j_43, j_44, j_45, j_46, j_47, j_48, j_49, j_50, j_51, j_52, j_57, j_59, j_63, j_74, j_75, j_93, j_97, j_99, j_100, j_122, j_200, j_255, j_300, j_465, j_496, j_900, j_999, j_1000, j_65536, j_65537, j_99999, j_252645135, j_858993459, j_1431655765, k_0, k_1, k_27, k_32, k_74, k_75, k_100, k_1000, k_65537, e, lfs_e]
theorem D_weightOf {L : Lk} {b : Nat} {h : Hp} {S : Sk} {z : Int} (HL : LW L) (HC : RC L b h) (HX : XR S h) (h0 : 0 ≤ z) (h1 : z < L 1 0) (hg : gok L S) : F_md_weightOf 88 (J z) h = some (J (wgt L S z)) := by
  have HM := HC.1
  have rb := HC.2.1
  have HY := HC.2.2.1
  have HR := HC.2.2.2.1
  have b1 := LW_h HL; have b3 := LW_g HL
  have k := MS_k HM; have r := MS_r16 HM; have k1 := MS_k16 HM; have n1 := MS_n16 HM
  have yk := YS_k HY; have yr10 := YS_r10 HY; have yk10 := YS_k10 HY; have yn10 := YS_n10 HY; have yr15 := YS_r15 HY; have yk15 := YS_k15 HY; have yn15 := YS_n15 HY
  have c3 := HR.1.2.2.2.1
  have e := lq_for (b := B_md_weightOf_12 88 (J z) h) (r := J (wgt L S z)) (f := FU) (s := (J (L 10 z), J 0)) (fun i => (J (L 10 z + gsm L S z i), J i)) (L 3 0).toNat (by unfold FU; omega) (by show _ = (J (L 10 z + 0), J 0); rw [Int.add_zero]) (fun i hi => by
      have e3 := HX (25 + i) (by omega) (by omega)
      have e4 := (HR.2.2.2.2.1 i (by omega) (by omega)).1
      have e5 := hg i (by omega) (by omega)
      have e6 : gsm L S z (i + 1) = gsm L S z i + if S (25 + i) = z then L 15 i else 0 := rfl
      unfold B_md_weightOf_12
      by_cases hc : S (25 + i) = z
      · rw [if_pos hc] at e6
        simp (disch := first | with_reducible assumption | omega | trivial) only [bn_s1, bd_s1, ei_l1, ei_r1, gI_J, gL_J, gR_J, aI_J, aL_J, sI_J, sL_J, pI_J, pL_J, J_add, J_sub, J_mul, J_neg, J_lt, J_le, J_eq, dv_J, rm_J, if_pos, if_neg, ↓reduceIte, bitJ, shlJ, orJ, j_0, j_1, j_2, j_3, j_4, j_5, j_6, j_7, j_8, j_9, j_10, j_11, j_12, j_13, j_14, j_15, j_16, j_17, j_18, j_19, j_20, j_21, j_22, j_23, j_24, j_25, j_26, j_27, j_28, j_29, j_30, j_31, j_32, j_33, j_34, j_35, j_36, j_37, j_38, j_39, j_40, j_41, j_42, j_43, j_44, j_45, j_46, j_47, j_48, j_49, j_50, j_51, j_52, j_57, j_59, j_63, j_74, j_75, j_93, j_97, j_99, j_100, j_122, j_200, j_255, j_300, j_465, j_496, j_900, j_999, j_1000, j_65536, j_65537, j_99999, j_252645135, j_858993459, j_1431655765, k_0, k_1, k_27, k_32, k_74, k_75, k_100, k_1000, k_65537, rb, c3, r, e3, yr15, e4, e6, Int.add_assoc]
        rfl
      · rw [if_neg hc] at e6
        simp (disch := first | with_reducible assumption | omega | trivial) only [bn_s1, bd_s1, ei_l1, ei_r1, gI_J, gL_J, gR_J, aI_J, aL_J, sI_J, sL_J, pI_J, pL_J, J_add, J_sub, J_mul, J_neg, J_lt, J_le, J_eq, dv_J, rm_J, if_pos, if_neg, ↓reduceIte, bitJ, shlJ, orJ, j_0, j_1, j_2, j_3, j_4, j_5, j_6, j_7, j_8, j_9, j_10, j_11, j_12, j_13, j_14, j_15, j_16, j_17, j_18, j_19, j_20, j_21, j_22, j_23, j_24, j_25, j_26, j_27, j_28, j_29, j_30, j_31, j_32, j_33, j_34, j_35, j_36, j_37, j_38, j_39, j_40, j_41, j_42, j_43, j_44, j_45, j_46, j_47, j_48, j_49, j_50, j_51, j_52, j_57, j_59, j_63, j_74, j_75, j_93, j_97, j_99, j_100, j_122, j_200, j_255, j_300, j_465, j_496, j_900, j_999, j_1000, j_65536, j_65537, j_99999, j_252645135, j_858993459, j_1431655765, k_0, k_1, k_27, k_32, k_74, k_75, k_100, k_1000, k_65537, rb, c3, r, e3, e6, Int.add_assoc]
        rfl) (by
      unfold B_md_weightOf_12
      simp (disch := first | with_reducible assumption | omega | trivial) only [bn_s1, bd_s1, ei_l1, ei_r1, gI_J, gL_J, gR_J, aI_J, aL_J, sI_J, sL_J, pI_J, pL_J, J_add, J_sub, J_mul, J_neg, J_lt, J_le, J_eq, dv_J, rm_J, if_pos, if_neg, ↓reduceIte, bitJ, shlJ, orJ, j_0, j_1, j_2, j_3, j_4, j_5, j_6, j_7, j_8, j_9, j_10, j_11, j_12, j_13, j_14, j_15, j_16, j_17, j_18, j_19, j_20, j_21, j_22, j_23, j_24, j_25, j_26, j_27, j_28, j_29, j_30, j_31, j_32, j_33, j_34, j_35, j_36, j_37, j_38, j_39, j_40, j_41, j_42, j_43, j_44, j_45, j_46, j_47, j_48, j_49, j_50, j_51, j_52, j_57, j_59, j_63, j_74, j_75, j_93, j_97, j_99, j_100, j_122, j_200, j_255, j_300, j_465, j_496, j_900, j_999, j_1000, j_65536, j_65537, j_99999, j_252645135, j_858993459, j_1431655765, k_0, k_1, k_27, k_32, k_74, k_75, k_100, k_1000, k_65537, rb, c3]
      rfl)
  have e7 := (HR.2.1 z h0 h1).2
  unfold F_md_weightOf
  rw [ck_e k]
  simp (disch := first | with_reducible assumption | omega | trivial) only [bn_s1, bd_s1, ei_l1, ei_r1, gI_J, gL_J, gR_J, aI_J, aL_J, sI_J, sL_J, pI_J, pL_J, J_add, J_sub, J_mul, J_neg, J_lt, J_le, J_eq, dv_J, rm_J, if_pos, if_neg, ↓reduceIte, bitJ, shlJ, orJ, j_0, j_1, j_2, j_3, j_4, j_5, j_6, j_7, j_8, j_9, j_10, j_11, j_12, j_13, j_14, j_15, j_16, j_17, j_18, j_19, j_20, j_21, j_22, j_23, j_24, j_25, j_26, j_27, j_28, j_29, j_30, j_31, j_32, j_33, j_34, j_35, j_36, j_37, j_38, j_39, j_40, j_41, j_42, j_43, j_44, j_45, j_46, j_47, j_48, j_49, j_50, j_51, j_52, j_57, j_59, j_63, j_74, j_75, j_93, j_97, j_99, j_100, j_122, j_200, j_255, j_300, j_465, j_496, j_900, j_999, j_1000, j_65536, j_65537, j_99999, j_252645135, j_858993459, j_1431655765, k_0, k_1, k_27, k_32, k_74, k_75, k_100, k_1000, k_65537, rb, yr10, e7, e]
theorem D_netOf {L : Lk} {b : Nat} {h : Hp} {S : Sk} {z : Int} (HL : LW L) (HC : RC L b h) (HX : XR S h) (hg : gok L S) (h0 : 0 ≤ z) (h1 : z < L 1 0) : F_md_netOf 88 (J z) h = some (J (net L S z)) := by
  have k := MS_k HC.1
  have b1 := LW_h HL
  unfold F_md_netOf
  rw [ck_e k]
  simp (disch := first | with_reducible assumption | omega | trivial) only [bn_s1, bd_s1, ei_l1, ei_r1, gI_J, gL_J, gR_J, aI_J, aL_J, sI_J, sL_J, pI_J, pL_J, J_add, J_sub, J_mul, J_neg, J_lt, J_le, J_eq, dv_J, rm_J, if_pos, if_neg, ↓reduceIte, bitJ, shlJ, orJ, j_0, j_1, j_2, j_3, j_4, j_5, j_6, j_7, j_8, j_9, j_10, j_11, j_12, j_13, j_14, j_15, j_16, j_17, j_18, j_19, j_20, j_21, j_22, j_23, j_24, j_25, j_26, j_27, j_28, j_29, j_30, j_31, j_32, j_33, j_34, j_35, j_36, j_37, j_38, j_39, j_40, j_41, j_42, j_43, j_44, j_45, j_46, j_47, j_48, j_49, j_50, j_51, j_52, j_57, j_59, j_63, j_74, j_75, j_93, j_97, j_99, j_100, j_122, j_200, j_255, j_300, j_465, j_496, j_900, j_999, j_1000, j_65536, j_65537, j_99999, j_252645135, j_858993459, j_1431655765, k_0, k_1, k_27, k_32, k_74, k_75, k_100, k_1000, k_65537, D_liftOf HC HX h0 (show z < 5 by omega), D_weightOf HL HC HX h0 h1 hg]
  rfl
theorem pw5 : ∀ k, k < 5 → 2 ^ k < 32 := by decide
theorem foldl_snoc {α β : Type} (f : α → β → α) (a : α) (l : List β) (x : β) : (l ++ [x]).foldl f a = f (l.foldl f a) x := by rw [List.foldl_append]; rfl
theorem D_raftOf {L : Lk} {b : Nat} {h : Hp} {S : Sk} {z : Nat} (HL : LW L) (HC : RC L b h) (HX : XR S h) (hc0 : 0 ≤ S 28) (hc : (S 28).toNat < 2 ^ rn L) (h1 : z < L 1 0) : F_md_raftOf 88 (J z) h = some (J (raft L (S 28).toNat z : Nat)) := by
  have HM := HC.1
  have rb := HC.2.1
  have HY := HC.2.2.1
  have HR := HC.2.2.2.1
  have b1 := LW_h HL; have b2 := LW_r HL
  have hne := hn_e HL; have rne := rn_e HL
  have k := MS_k HM; have r := MS_r16 HM; have k1 := MS_k16 HM; have n1 := MS_n16 HM
  have yk := YS_k HY; have yr13 := YS_r13 HY; have yk13 := YS_k13 HY; have yn13 := YS_n13 HY; have yr14 := YS_r14 HY; have yk14 := YS_k14 HY; have yn14 := YS_n14 HY
  have ch := HR.1.2.1
  have cr := HR.1.2.2.1
  have x28 : ia h 91 28 = ((S 28).toNat : Int) := by rw [HX 28 (by omega) (by omega)]; omega
  obtain ⟨c, hcc⟩ : ∃ c, c = (S 28).toNat := ⟨_, rfl⟩
  rw [← hcc] at hc x28 ⊢
  have c32 : c < 32 := by
    have : 2 ^ rn L ≤ 2 ^ 5 := Nat.pow_le_pow_right (by decide) (by omega)
    omega
  have lt32 : ∀ k x, k ≤ rn L → x < 2 ^ hn L → (rop L c k).foldl rst x < 2 ^ hn L := by
    intro k x hk hx
    obtain ⟨_, hE⟩ := inv_jn (n := hn L) k L c (fun j hj => rop_n HL j (by omega))
    apply lt_of_sub
    refine (rnd_c (E := rop L c k) (x := x)).2 _ (fun e he => ?_) (sub_of_lt hx)
    rw [full_b, full_b, decide_eq_true (hE e he).1, decide_eq_true (hE e he).2]
  have p32 := p32 HL
  have inner : ∀ (l3 : Int32) (x : Nat), x < 2 ^ hn L → lq (B_md_raftOf_20 88 l3 h) FU (J x, J 0) = some (J ((rop L c (rn L)).foldl rst x : Nat)) := by
    intro l3 x hx
    refine lq_for (fun i => (J ((rop L c i).foldl rst x : Nat), J i)) (rn L) (by unfold FU; omega) rfl (fun i hi => ?_) ?_
    · have w := LW_rs HL i (by omega) (by omega)
      have lx := lt32 i x (by omega) hx
      have v13 := (HR.2.2.2.1 i (by omega) (by omega)).1
      have v14 := (HR.2.2.2.1 i (by omega) (by omega)).2
      have bc := bit_e (n := c) (z := i) c32 (by omega) (by omega)
      rw [Int.toNat_natCast] at bc
      generalize hy : (rop L c i).foldl rst x = y at lx ⊢
      by_cases cb : c.testBit i = true
      · have e : rop L c (i + 1) = rop L c i := by show rop L c i ++ (if c.testBit i then [] else _) = _; rw [if_pos cb, List.append_nil]
        rw [e, hy]
        rw [if_pos cb] at bc
        unfold B_md_raftOf_20
        simp (disch := first | with_reducible assumption | omega | trivial) only [bn_s1, bd_s1, ei_l1, ei_r1, gI_J, gL_J, gR_J, aI_J, aL_J, sI_J, sL_J, pI_J, pL_J, J_add, J_sub, J_mul, J_neg, J_lt, J_le, J_eq, dv_J, rm_J, if_pos, if_neg, ↓reduceIte, bitJ, shlJ, orJ, j_0, j_1, j_2, j_3, j_4, j_5, j_6, j_7, j_8, j_9, j_10, j_11, j_12, j_13, j_14, j_15, j_16, j_17, j_18, j_19, j_20, j_21, j_22, j_23, j_24, j_25, j_26, j_27, j_28, j_29, j_30, j_31, j_32, j_33, j_34, j_35, j_36, j_37, j_38, j_39, j_40, j_41, j_42, j_43, j_44, j_45, j_46, j_47, j_48, j_49, j_50, j_51, j_52, j_57, j_59, j_63, j_74, j_75, j_93, j_97, j_99, j_100, j_122, j_200, j_255, j_300, j_465, j_496, j_900, j_999, j_1000, j_65536, j_65537, j_99999, j_252645135, j_858993459, j_1431655765, k_0, k_1, k_27, k_32, k_74, k_75, k_100, k_1000, k_65537, rb, cr, r, x28, bc]
        rfl
      · have e : rop L c (i + 1) = rop L c i ++ [((L 13 i).toNat, (L 14 i).toNat)] := by show rop L c i ++ (if c.testBit i then [] else _) = _; rw [if_neg cb]
        rw [e, foldl_snoc, hy]
        rw [if_neg cb] at bc
        have ba := bit_e (n := y) (z := L 13 i) (by omega) (by omega) (by omega)
        have sa := shlJ (k := (L 13 i).toNat) (by omega)
        have sb := shlJ (k := (L 14 i).toNat) (by omega)
        have ta : ((L 13 i).toNat : Int) = L 13 i := by omega
        have tb : ((L 14 i).toNat : Int) = L 14 i := by omega
        rw [ta] at sa
        rw [tb] at sb
        have pa : 2 ^ (L 13 i).toNat < 32 := pw5 _ (by omega)
        have pb : 2 ^ (L 14 i).toNat < 32 := pw5 _ (by omega)
        show _ = some (Sum.inl (J ((if (if y.testBit (L 13 i).toNat then y ||| 2 ^ (L 14 i).toNat else y).testBit (L 14 i).toNat then (if y.testBit (L 13 i).toNat then y ||| 2 ^ (L 14 i).toNat else y) ||| 2 ^ (L 13 i).toNat else (if y.testBit (L 13 i).toNat then y ||| 2 ^ (L 14 i).toNat else y) : Nat) : Int), J (i + 1)))
        by_cases ca : y.testBit (L 13 i).toNat = true
        · rw [if_pos ca] at ba ⊢
          have o1 : y ||| 2 ^ (L 14 i).toNat < 32 := Nat.or_lt_two_pow (n := 5) (by omega) pb
          have bb := bit_e (n := y ||| 2 ^ (L 14 i).toNat) (z := L 14 i) o1 (by omega) (by omega)
          have hb : (y ||| 2 ^ (L 14 i).toNat).testBit (L 14 i).toNat = true := by rw [Nat.testBit_or, two_b]; simp
          rw [if_pos hb] at bb ⊢
          unfold B_md_raftOf_20
          simp (disch := first | with_reducible assumption | omega | trivial) only [bn_s1, bd_s1, ei_l1, ei_r1, gI_J, gL_J, gR_J, aI_J, aL_J, sI_J, sL_J, pI_J, pL_J, J_add, J_sub, J_mul, J_neg, J_lt, J_le, J_eq, dv_J, rm_J, if_pos, if_neg, ↓reduceIte, bitJ, shlJ, orJ, j_0, j_1, j_2, j_3, j_4, j_5, j_6, j_7, j_8, j_9, j_10, j_11, j_12, j_13, j_14, j_15, j_16, j_17, j_18, j_19, j_20, j_21, j_22, j_23, j_24, j_25, j_26, j_27, j_28, j_29, j_30, j_31, j_32, j_33, j_34, j_35, j_36, j_37, j_38, j_39, j_40, j_41, j_42, j_43, j_44, j_45, j_46, j_47, j_48, j_49, j_50, j_51, j_52, j_57, j_59, j_63, j_74, j_75, j_93, j_97, j_99, j_100, j_122, j_200, j_255, j_300, j_465, j_496, j_900, j_999, j_1000, j_65536, j_65537, j_99999, j_252645135, j_858993459, j_1431655765, k_0, k_1, k_27, k_32, k_74, k_75, k_100, k_1000, k_65537, rb, cr, r, x28, bc, yr13, v13, ba, yr14, v14, sb, sa, bb]
        · rw [if_neg ca] at ba ⊢
          have bb := bit_e (n := y) (z := L 14 i) (by omega) (by omega) (by omega)
          by_cases cc : y.testBit (L 14 i).toNat = true
          · rw [if_pos cc] at bb ⊢
            unfold B_md_raftOf_20
            simp (disch := first | with_reducible assumption | omega | trivial) only [bn_s1, bd_s1, ei_l1, ei_r1, gI_J, gL_J, gR_J, aI_J, aL_J, sI_J, sL_J, pI_J, pL_J, J_add, J_sub, J_mul, J_neg, J_lt, J_le, J_eq, dv_J, rm_J, if_pos, if_neg, ↓reduceIte, bitJ, shlJ, orJ, j_0, j_1, j_2, j_3, j_4, j_5, j_6, j_7, j_8, j_9, j_10, j_11, j_12, j_13, j_14, j_15, j_16, j_17, j_18, j_19, j_20, j_21, j_22, j_23, j_24, j_25, j_26, j_27, j_28, j_29, j_30, j_31, j_32, j_33, j_34, j_35, j_36, j_37, j_38, j_39, j_40, j_41, j_42, j_43, j_44, j_45, j_46, j_47, j_48, j_49, j_50, j_51, j_52, j_57, j_59, j_63, j_74, j_75, j_93, j_97, j_99, j_100, j_122, j_200, j_255, j_300, j_465, j_496, j_900, j_999, j_1000, j_65536, j_65537, j_99999, j_252645135, j_858993459, j_1431655765, k_0, k_1, k_27, k_32, k_74, k_75, k_100, k_1000, k_65537, rb, cr, r, x28, bc, yr13, v13, ba, yr14, v14, sb, sa, bb]
          · rw [if_neg cc] at bb ⊢
            unfold B_md_raftOf_20
            simp (disch := first | with_reducible assumption | omega | trivial) only [bn_s1, bd_s1, ei_l1, ei_r1, gI_J, gL_J, gR_J, aI_J, aL_J, sI_J, sL_J, pI_J, pL_J, J_add, J_sub, J_mul, J_neg, J_lt, J_le, J_eq, dv_J, rm_J, if_pos, if_neg, ↓reduceIte, bitJ, shlJ, orJ, j_0, j_1, j_2, j_3, j_4, j_5, j_6, j_7, j_8, j_9, j_10, j_11, j_12, j_13, j_14, j_15, j_16, j_17, j_18, j_19, j_20, j_21, j_22, j_23, j_24, j_25, j_26, j_27, j_28, j_29, j_30, j_31, j_32, j_33, j_34, j_35, j_36, j_37, j_38, j_39, j_40, j_41, j_42, j_43, j_44, j_45, j_46, j_47, j_48, j_49, j_50, j_51, j_52, j_57, j_59, j_63, j_74, j_75, j_93, j_97, j_99, j_100, j_122, j_200, j_255, j_300, j_465, j_496, j_900, j_999, j_1000, j_65536, j_65537, j_99999, j_252645135, j_858993459, j_1431655765, k_0, k_1, k_27, k_32, k_74, k_75, k_100, k_1000, k_65537, rb, cr, r, x28, bc, yr13, v13, ba, yr14, v14, sb, sa, bb]
    · unfold B_md_raftOf_20
      simp (disch := first | with_reducible assumption | omega | trivial) only [bn_s1, bd_s1, ei_l1, ei_r1, gI_J, gL_J, gR_J, aI_J, aL_J, sI_J, sL_J, pI_J, pL_J, J_add, J_sub, J_mul, J_neg, J_lt, J_le, J_eq, dv_J, rm_J, if_pos, if_neg, ↓reduceIte, bitJ, shlJ, orJ, j_0, j_1, j_2, j_3, j_4, j_5, j_6, j_7, j_8, j_9, j_10, j_11, j_12, j_13, j_14, j_15, j_16, j_17, j_18, j_19, j_20, j_21, j_22, j_23, j_24, j_25, j_26, j_27, j_28, j_29, j_30, j_31, j_32, j_33, j_34, j_35, j_36, j_37, j_38, j_39, j_40, j_41, j_42, j_43, j_44, j_45, j_46, j_47, j_48, j_49, j_50, j_51, j_52, j_57, j_59, j_63, j_74, j_75, j_93, j_97, j_99, j_100, j_122, j_200, j_255, j_300, j_465, j_496, j_900, j_999, j_1000, j_65536, j_65537, j_99999, j_252645135, j_858993459, j_1431655765, k_0, k_1, k_27, k_32, k_74, k_75, k_100, k_1000, k_65537, rb, cr]
  have zl : 2 ^ z < 2 ^ hn L := Nat.pow_lt_pow_right (by decide) (by omega)
  have sz := shlJ (k := z) (by omega)
  have e := lq_for (b := B_md_raftOf_6 88 h) (r := J (raft L c z : Nat)) (f := FU) (s := (J ((2 ^ z : Nat) : Int), J 0)) (fun i => (J (itr (rop L c (rn L)) i (2 ^ z) : Nat), J i)) (hn L) (by unfold FU; omega) rfl (fun i hi => by
      have hx : itr (rop L c (rn L)) i (2 ^ z) < 2 ^ hn L := by
        obtain ⟨_, hE⟩ := inv_jn (n := hn L) (rn L) L c (rop_n HL)
        exact itr_lt hE (by omega) i
      unfold B_md_raftOf_6
      simp (disch := first | with_reducible assumption | omega | trivial) only [bn_s1, bd_s1, ei_l1, ei_r1, gI_J, gL_J, gR_J, aI_J, aL_J, sI_J, sL_J, pI_J, pL_J, J_add, J_sub, J_mul, J_neg, J_lt, J_le, J_eq, dv_J, rm_J, if_pos, if_neg, ↓reduceIte, bitJ, shlJ, orJ, j_0, j_1, j_2, j_3, j_4, j_5, j_6, j_7, j_8, j_9, j_10, j_11, j_12, j_13, j_14, j_15, j_16, j_17, j_18, j_19, j_20, j_21, j_22, j_23, j_24, j_25, j_26, j_27, j_28, j_29, j_30, j_31, j_32, j_33, j_34, j_35, j_36, j_37, j_38, j_39, j_40, j_41, j_42, j_43, j_44, j_45, j_46, j_47, j_48, j_49, j_50, j_51, j_52, j_57, j_59, j_63, j_74, j_75, j_93, j_97, j_99, j_100, j_122, j_200, j_255, j_300, j_465, j_496, j_900, j_999, j_1000, j_65536, j_65537, j_99999, j_252645135, j_858993459, j_1431655765, k_0, k_1, k_27, k_32, k_74, k_75, k_100, k_1000, k_65537, rb, ch, inner _ _ hx]
      rfl) (by
      unfold B_md_raftOf_6
      simp (disch := first | with_reducible assumption | omega | trivial) only [bn_s1, bd_s1, ei_l1, ei_r1, gI_J, gL_J, gR_J, aI_J, aL_J, sI_J, sL_J, pI_J, pL_J, J_add, J_sub, J_mul, J_neg, J_lt, J_le, J_eq, dv_J, rm_J, if_pos, if_neg, ↓reduceIte, bitJ, shlJ, orJ, j_0, j_1, j_2, j_3, j_4, j_5, j_6, j_7, j_8, j_9, j_10, j_11, j_12, j_13, j_14, j_15, j_16, j_17, j_18, j_19, j_20, j_21, j_22, j_23, j_24, j_25, j_26, j_27, j_28, j_29, j_30, j_31, j_32, j_33, j_34, j_35, j_36, j_37, j_38, j_39, j_40, j_41, j_42, j_43, j_44, j_45, j_46, j_47, j_48, j_49, j_50, j_51, j_52, j_57, j_59, j_63, j_74, j_75, j_93, j_97, j_99, j_100, j_122, j_200, j_255, j_300, j_465, j_496, j_900, j_999, j_1000, j_65536, j_65537, j_99999, j_252645135, j_858993459, j_1431655765, k_0, k_1, k_27, k_32, k_74, k_75, k_100, k_1000, k_65537, rb, ch]
      unfold raft
      rw [Int.toNat_natCast])
  unfold F_md_raftOf
  rw [ck_e k]
  simp (disch := first | with_reducible assumption | omega | trivial) only [bn_s1, bd_s1, ei_l1, ei_r1, gI_J, gL_J, gR_J, aI_J, aL_J, sI_J, sL_J, pI_J, pL_J, J_add, J_sub, J_mul, J_neg, J_lt, J_le, J_eq, dv_J, rm_J, if_pos, if_neg, ↓reduceIte, bitJ, shlJ, orJ, j_0, j_1, j_2, j_3, j_4, j_5, j_6, j_7, j_8, j_9, j_10, j_11, j_12, j_13, j_14, j_15, j_16, j_17, j_18, j_19, j_20, j_21, j_22, j_23, j_24, j_25, j_26, j_27, j_28, j_29, j_30, j_31, j_32, j_33, j_34, j_35, j_36, j_37, j_38, j_39, j_40, j_41, j_42, j_43, j_44, j_45, j_46, j_47, j_48, j_49, j_50, j_51, j_52, j_57, j_59, j_63, j_74, j_75, j_93, j_97, j_99, j_100, j_122, j_200, j_255, j_300, j_465, j_496, j_900, j_999, j_1000, j_65536, j_65537, j_99999, j_252645135, j_858993459, j_1431655765, k_0, k_1, k_27, k_32, k_74, k_75, k_100, k_1000, k_65537, sz, e]
