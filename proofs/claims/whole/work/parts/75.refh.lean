/-! the reference: heights, weeks -/
def stk (L : Lk) (S : Sk) : Prop := gok L S ∧ 0 ≤ S 28 ∧ (S 28).toNat < 2 ^ rn L ∧ CW 5000 S
theorem sw_stk {m : Int} {L : Lk} {S : Sk} (hm : m ≤ 5000) (H : SW m L S) : stk L S := ⟨H.2.2.1, H.2.2.2.1, H.2.2.2.2.1, fun i i0 i1 => by have := H.1 i i0 i1; omega⟩
theorem D_netOfAll {L : Lk} {b : Nat} {h : Hp} {S : Sk} {x : Nat} (HL : LW L) (HC : RC L b h) (HX : XR S h) (hg : gok L S) (hx : x < 32) : F_md_netOfAll 88 (J x) h = some (J (tot (net L S) (hn L) x)) := by
  have rb := HC.2.1
  have HR := HC.2.2.2.1
  have k := MS_k HC.1
  have yk := YS_k HC.2.2.1
  have ch := HR.1.2.1
  have b1 := LW_h HL
  have hne := hn_e HL
  have e := lq_for (b := B_md_netOfAll_4 88 (J x) h) (r := J (tot (net L S) (hn L) x)) (f := FU) (s := (J 0, J 0)) (fun i => (J (tot (net L S) i x), J i)) (hn L) (by unfold FU; omega) rfl (fun i hi => by
      have e6 : tot (net L S) (i + 1) x = tot (net L S) i x + if x.testBit i then net L S i else 0 := rfl
      have bc := bit_e (n := x) (z := i) hx (by omega) (by omega)
      rw [Int.toNat_natCast] at bc
      have en := D_netOf HL HC HX hg (z := i) (by omega) (by omega)
      unfold B_md_netOfAll_4
      by_cases c : x.testBit i = true
      · rw [if_pos c] at e6 bc
        simp (disch := first | with_reducible assumption | omega | trivial) only [bn_s1, bd_s1, ei_l1, ei_r1, gI_J, gL_J, gR_J, aI_J, aL_J, sI_J, sL_J, pI_J, pL_J, J_add, J_sub, J_mul, J_neg, J_lt, J_le, J_eq, dv_J, rm_J, if_pos, if_neg, ↓reduceIte, bitJ, shlJ, orJ, j_0, j_1, j_2, j_3, j_4, j_5, j_6, j_7, j_8, j_9, j_10, j_11, j_12, j_13, j_14, j_15, j_16, j_17, j_18, j_19, j_20, j_21, j_22, j_23, j_24, j_25, j_26, j_27, j_28, j_29, j_30, j_31, j_32, j_33, j_34, j_35, j_36, j_37, j_38, j_39, j_40, j_41, j_42, j_43, j_44, j_45, j_46, j_47, j_48, j_49, j_50, j_51, j_52, j_57, j_59, j_63, j_74, j_75, j_93, j_97, j_99, j_100, j_122, j_200, j_255, j_300, j_465, j_496, j_900, j_999, j_1000, j_65536, j_65537, j_99999, j_252645135, j_858993459, j_1431655765, k_0, k_1, k_27, k_32, k_74, k_75, k_100, k_1000, k_65537, rb, ch, bc, en, e6]
        rfl
      · rw [if_neg c] at e6 bc
        simp (disch := first | with_reducible assumption | omega | trivial) only [bn_s1, bd_s1, ei_l1, ei_r1, gI_J, gL_J, gR_J, aI_J, aL_J, sI_J, sL_J, pI_J, pL_J, J_add, J_sub, J_mul, J_neg, J_lt, J_le, J_eq, dv_J, rm_J, if_pos, if_neg, ↓reduceIte, bitJ, shlJ, orJ, j_0, j_1, j_2, j_3, j_4, j_5, j_6, j_7, j_8, j_9, j_10, j_11, j_12, j_13, j_14, j_15, j_16, j_17, j_18, j_19, j_20, j_21, j_22, j_23, j_24, j_25, j_26, j_27, j_28, j_29, j_30, j_31, j_32, j_33, j_34, j_35, j_36, j_37, j_38, j_39, j_40, j_41, j_42, j_43, j_44, j_45, j_46, j_47, j_48, j_49, j_50, j_51, j_52, j_57, j_59, j_63, j_74, j_75, j_93, j_97, j_99, j_100, j_122, j_200, j_255, j_300, j_465, j_496, j_900, j_999, j_1000, j_65536, j_65537, j_99999, j_252645135, j_858993459, j_1431655765, k_0, k_1, k_27, k_32, k_74, k_75, k_100, k_1000, k_65537, rb, ch, bc, e6]
        rfl) (by
      unfold B_md_netOfAll_4
      simp (disch := first | with_reducible assumption | omega | trivial) only [bn_s1, bd_s1, ei_l1, ei_r1, gI_J, gL_J, gR_J, aI_J, aL_J, sI_J, sL_J, pI_J, pL_J, J_add, J_sub, J_mul, J_neg, J_lt, J_le, J_eq, dv_J, rm_J, if_pos, if_neg, ↓reduceIte, bitJ, shlJ, orJ, j_0, j_1, j_2, j_3, j_4, j_5, j_6, j_7, j_8, j_9, j_10, j_11, j_12, j_13, j_14, j_15, j_16, j_17, j_18, j_19, j_20, j_21, j_22, j_23, j_24, j_25, j_26, j_27, j_28, j_29, j_30, j_31, j_32, j_33, j_34, j_35, j_36, j_37, j_38, j_39, j_40, j_41, j_42, j_43, j_44, j_45, j_46, j_47, j_48, j_49, j_50, j_51, j_52, j_57, j_59, j_63, j_74, j_75, j_93, j_97, j_99, j_100, j_122, j_200, j_255, j_300, j_465, j_496, j_900, j_999, j_1000, j_65536, j_65537, j_99999, j_252645135, j_858993459, j_1431655765, k_0, k_1, k_27, k_32, k_74, k_75, k_100, k_1000, k_65537, rb, ch])
  unfold F_md_netOfAll
  rw [ck_e k]
  simp (disch := first | with_reducible assumption | omega | trivial) only [bn_s1, bd_s1, ei_l1, ei_r1, gI_J, gL_J, gR_J, aI_J, aL_J, sI_J, sL_J, pI_J, pL_J, J_add, J_sub, J_mul, J_neg, J_lt, J_le, J_eq, dv_J, rm_J, if_pos, if_neg, ↓reduceIte, bitJ, shlJ, orJ, j_0, j_1, j_2, j_3, j_4, j_5, j_6, j_7, j_8, j_9, j_10, j_11, j_12, j_13, j_14, j_15, j_16, j_17, j_18, j_19, j_20, j_21, j_22, j_23, j_24, j_25, j_26, j_27, j_28, j_29, j_30, j_31, j_32, j_33, j_34, j_35, j_36, j_37, j_38, j_39, j_40, j_41, j_42, j_43, j_44, j_45, j_46, j_47, j_48, j_49, j_50, j_51, j_52, j_57, j_59, j_63, j_74, j_75, j_93, j_97, j_99, j_100, j_122, j_200, j_255, j_300, j_465, j_496, j_900, j_999, j_1000, j_65536, j_65537, j_99999, j_252645135, j_858993459, j_1431655765, k_0, k_1, k_27, k_32, k_74, k_75, k_100, k_1000, k_65537, e]
theorem D_heightOf {L : Lk} {b : Nat} {h : Hp} {S : Sk} {z : Nat} (HL : LW L) (HC : RC L b h) (HX : XR S h) (hs : stk L S) (h1 : z < L 1 0) : F_md_heightOf 88 (J z) h = some (J (hgt L S z)) := by
  have k := MS_k HC.1
  have hp := raft_p HL (S 28).toNat (h := z) (by omega) h1
  have hne := hn_e HL
  have tb := tot_b HL (net_ob HL hs.2.2.2 (by omega)) (n := hn L) (by omega) (raft L (S 28).toNat z)
  have e := down_e (a := tot (net L S) (hn L) (raft L (S 28).toNat z)) (b := (pc5 (raft L (S 28).toNat z) : Nat)) (by omega) (by omega) (by omega) (by omega)
  unfold F_md_heightOf
  rw [ck_e k]
  simp (disch := first | with_reducible assumption | omega | trivial) only [bn_s1, bd_s1, ei_l1, ei_r1, gI_J, gL_J, gR_J, aI_J, aL_J, sI_J, sL_J, pI_J, pL_J, J_add, J_sub, J_mul, J_neg, J_lt, J_le, J_eq, dv_J, rm_J, if_pos, if_neg, ↓reduceIte, bitJ, shlJ, orJ, j_0, j_1, j_2, j_3, j_4, j_5, j_6, j_7, j_8, j_9, j_10, j_11, j_12, j_13, j_14, j_15, j_16, j_17, j_18, j_19, j_20, j_21, j_22, j_23, j_24, j_25, j_26, j_27, j_28, j_29, j_30, j_31, j_32, j_33, j_34, j_35, j_36, j_37, j_38, j_39, j_40, j_41, j_42, j_43, j_44, j_45, j_46, j_47, j_48, j_49, j_50, j_51, j_52, j_57, j_59, j_63, j_74, j_75, j_93, j_97, j_99, j_100, j_122, j_200, j_255, j_300, j_465, j_496, j_900, j_999, j_1000, j_65536, j_65537, j_99999, j_252645135, j_858993459, j_1431655765, k_0, k_1, k_27, k_32, k_74, k_75, k_100, k_1000, k_65537, D_raftOf HL HC HX hs.2.1 hs.2.2.1 h1, D_netOfAll HL HC HX hs.1 hp.2.1, bits_e _ hp.2.1, e]
  rfl
theorem hgt_b {L : Lk} {S : Sk} (HL : LW L) (hs : stk L S) {z : Int} (h0 : 0 ≤ z) (h1 : z < L 1 0) : -500000 ≤ hgt L S z ∧ hgt L S z ≤ 500000 := hgo_b HL (net_ob HL hs.2.2.2 (by omega)) _ h0 h1
theorem D_underNow {L : Lk} {b : Nat} {h : Hp} {S : Sk} (HL : LW L) (HC : RC L b h) (HX : XR S h) (hs : stk L S) : F_md_underNow 88 h = some (J (und (hgt L S) (hn L) : Nat)) := by
  have rb := HC.2.1
  have HR := HC.2.2.2.1
  have k := MS_k HC.1
  have yk := YS_k HC.2.2.1
  have ch := HR.1.2.1
  have b1 := LW_h HL
  have hne := hn_e HL
  have e := lq_for (b := B_md_underNow_4 88 h) (r := J (und (hgt L S) (hn L) : Nat)) (f := FU) (s := (J 0, J 0)) (fun i => (J (und (hgt L S) i : Nat), J i)) (hn L) (by unfold FU; omega) rfl (fun i hi => by
      have e6 : und (hgt L S) (i + 1) = und (hgt L S) i ||| (if hgt L S i < 0 then 2 ^ i else 0) := rfl
      have eh := D_heightOf HL HC HX hs (z := i) (by omega)
      have hb := hgt_b HL hs (z := i) (by omega) (by omega)
      have l1 := und_32 (hgt L S) (n := i) (by omega)
      have p5 := pw5 i (by omega)
      have o0 := or_J (und (hgt L S) i) l1 0 (by decide)
      unfold B_md_underNow_4
      by_cases c : hgt L S i < 0
      · rw [if_pos c] at e6
        simp (disch := first | with_reducible assumption | omega | trivial) only [bn_s1, bd_s1, ei_l1, ei_r1, gI_J, gL_J, gR_J, aI_J, aL_J, sI_J, sL_J, pI_J, pL_J, J_add, J_sub, J_mul, J_neg, J_lt, J_le, J_eq, dv_J, rm_J, if_pos, if_neg, ↓reduceIte, bitJ, shlJ, orJ, j_0, j_1, j_2, j_3, j_4, j_5, j_6, j_7, j_8, j_9, j_10, j_11, j_12, j_13, j_14, j_15, j_16, j_17, j_18, j_19, j_20, j_21, j_22, j_23, j_24, j_25, j_26, j_27, j_28, j_29, j_30, j_31, j_32, j_33, j_34, j_35, j_36, j_37, j_38, j_39, j_40, j_41, j_42, j_43, j_44, j_45, j_46, j_47, j_48, j_49, j_50, j_51, j_52, j_57, j_59, j_63, j_74, j_75, j_93, j_97, j_99, j_100, j_122, j_200, j_255, j_300, j_465, j_496, j_900, j_999, j_1000, j_65536, j_65537, j_99999, j_252645135, j_858993459, j_1431655765, k_0, k_1, k_27, k_32, k_74, k_75, k_100, k_1000, k_65537, rb, ch, eh, e6]
        rfl
      · rw [if_neg c] at e6
        simp (disch := first | with_reducible assumption | omega | trivial) only [bn_s1, bd_s1, ei_l1, ei_r1, gI_J, gL_J, gR_J, aI_J, aL_J, sI_J, sL_J, pI_J, pL_J, J_add, J_sub, J_mul, J_neg, J_lt, J_le, J_eq, dv_J, rm_J, if_pos, if_neg, ↓reduceIte, bitJ, shlJ, orJ, j_0, j_1, j_2, j_3, j_4, j_5, j_6, j_7, j_8, j_9, j_10, j_11, j_12, j_13, j_14, j_15, j_16, j_17, j_18, j_19, j_20, j_21, j_22, j_23, j_24, j_25, j_26, j_27, j_28, j_29, j_30, j_31, j_32, j_33, j_34, j_35, j_36, j_37, j_38, j_39, j_40, j_41, j_42, j_43, j_44, j_45, j_46, j_47, j_48, j_49, j_50, j_51, j_52, j_57, j_59, j_63, j_74, j_75, j_93, j_97, j_99, j_100, j_122, j_200, j_255, j_300, j_465, j_496, j_900, j_999, j_1000, j_65536, j_65537, j_99999, j_252645135, j_858993459, j_1431655765, k_0, k_1, k_27, k_32, k_74, k_75, k_100, k_1000, k_65537, rb, ch, eh, e6]
        congr 3) (by
      unfold B_md_underNow_4
      simp (disch := first | with_reducible assumption | omega | trivial) only [bn_s1, bd_s1, ei_l1, ei_r1, gI_J, gL_J, gR_J, aI_J, aL_J, sI_J, sL_J, pI_J, pL_J, J_add, J_sub, J_mul, J_neg, J_lt, J_le, J_eq, dv_J, rm_J, if_pos, if_neg, ↓reduceIte, bitJ, shlJ, orJ, j_0, j_1, j_2, j_3, j_4, j_5, j_6, j_7, j_8, j_9, j_10, j_11, j_12, j_13, j_14, j_15, j_16, j_17, j_18, j_19, j_20, j_21, j_22, j_23, j_24, j_25, j_26, j_27, j_28, j_29, j_30, j_31, j_32, j_33, j_34, j_35, j_36, j_37, j_38, j_39, j_40, j_41, j_42, j_43, j_44, j_45, j_46, j_47, j_48, j_49, j_50, j_51, j_52, j_57, j_59, j_63, j_74, j_75, j_93, j_97, j_99, j_100, j_122, j_200, j_255, j_300, j_465, j_496, j_900, j_999, j_1000, j_65536, j_65537, j_99999, j_252645135, j_858993459, j_1431655765, k_0, k_1, k_27, k_32, k_74, k_75, k_100, k_1000, k_65537, rb, ch])
  unfold F_md_underNow
  rw [ck_e k]
  simp (disch := first | with_reducible assumption | omega | trivial) only [bn_s1, bd_s1, ei_l1, ei_r1, gI_J, gL_J, gR_J, aI_J, aL_J, sI_J, sL_J, pI_J, pL_J, J_add, J_sub, J_mul, J_neg, J_lt, J_le, J_eq, dv_J, rm_J, if_pos, if_neg, ↓reduceIte, bitJ, shlJ, orJ, j_0, j_1, j_2, j_3, j_4, j_5, j_6, j_7, j_8, j_9, j_10, j_11, j_12, j_13, j_14, j_15, j_16, j_17, j_18, j_19, j_20, j_21, j_22, j_23, j_24, j_25, j_26, j_27, j_28, j_29, j_30, j_31, j_32, j_33, j_34, j_35, j_36, j_37, j_38, j_39, j_40, j_41, j_42, j_43, j_44, j_45, j_46, j_47, j_48, j_49, j_50, j_51, j_52, j_57, j_59, j_63, j_74, j_75, j_93, j_97, j_99, j_100, j_122, j_200, j_255, j_300, j_465, j_496, j_900, j_999, j_1000, j_65536, j_65537, j_99999, j_252645135, j_858993459, j_1431655765, k_0, k_1, k_27, k_32, k_74, k_75, k_100, k_1000, k_65537, e]
theorem D_lowestNow {L : Lk} {b : Nat} {h : Hp} {S : Sk} (HL : LW L) (H1 : 1 ≤ L 1 0) (HC : RC L b h) (HX : XR S h) (hs : stk L S) : F_md_lowestNow 88 h = some (J (lw (hgt L S) (hn L) : Nat)) := by
  have rb := HC.2.1
  have HR := HC.2.2.2.1
  have k := MS_k HC.1
  have yk := YS_k HC.2.2.1
  have ch := HR.1.2.1
  have b1 := LW_h HL
  have hne := hn_e HL
  have l1 : lw (hgt L S) 1 = 0 := by have : lw (hgt L S) 1 ≤ 0 := lw_lt (hgt L S) 0; omega
  have e := lq_for (b := B_md_lowestNow_4 88 h) (r := J (lw (hgt L S) (hn L) : Nat)) (f := FU) (s := (J 0, J 1)) (fun i => (J (lw (hgt L S) (i + 1) : Nat), J (i + 1 : Nat))) (hn L - 1) (by unfold FU; omega) (by show _ = (J (lw (hgt L S) 1 : Nat), J 1); rw [l1]; rfl) (fun i hi => by
      have e6 : lw (hgt L S) (i + 1 + 1) = if hgt L S (i + 1 : Nat) < hgt L S (lw (hgt L S) (i + 1)) then (i + 1) else lw (hgt L S) (i + 1) := rfl
      have l := lw_lt (hgt L S) i
      have eh := D_heightOf HL HC HX hs (z := i + 1) (by omega)
      have el := D_heightOf HL HC HX hs (z := lw (hgt L S) (i + 1)) (by omega)
      have hb := hgt_b HL hs (z := (i + 1 : Nat)) (by omega) (by omega)
      have hc := hgt_b HL hs (z := (lw (hgt L S) (i + 1) : Nat)) (by omega) (by omega)
      unfold B_md_lowestNow_4
      by_cases c : hgt L S (i + 1 : Nat) < hgt L S (lw (hgt L S) (i + 1))
      · rw [if_pos c] at e6
        simp (disch := first | with_reducible assumption | omega | trivial) only [bn_s1, bd_s1, ei_l1, ei_r1, gI_J, gL_J, gR_J, aI_J, aL_J, sI_J, sL_J, pI_J, pL_J, J_add, J_sub, J_mul, J_neg, J_lt, J_le, J_eq, dv_J, rm_J, if_pos, if_neg, ↓reduceIte, bitJ, shlJ, orJ, j_0, j_1, j_2, j_3, j_4, j_5, j_6, j_7, j_8, j_9, j_10, j_11, j_12, j_13, j_14, j_15, j_16, j_17, j_18, j_19, j_20, j_21, j_22, j_23, j_24, j_25, j_26, j_27, j_28, j_29, j_30, j_31, j_32, j_33, j_34, j_35, j_36, j_37, j_38, j_39, j_40, j_41, j_42, j_43, j_44, j_45, j_46, j_47, j_48, j_49, j_50, j_51, j_52, j_57, j_59, j_63, j_74, j_75, j_93, j_97, j_99, j_100, j_122, j_200, j_255, j_300, j_465, j_496, j_900, j_999, j_1000, j_65536, j_65537, j_99999, j_252645135, j_858993459, j_1431655765, k_0, k_1, k_27, k_32, k_74, k_75, k_100, k_1000, k_65537, rb, ch, eh, el, e6]
        rfl
      · rw [if_neg c] at e6
        simp (disch := first | with_reducible assumption | omega | trivial) only [bn_s1, bd_s1, ei_l1, ei_r1, gI_J, gL_J, gR_J, aI_J, aL_J, sI_J, sL_J, pI_J, pL_J, J_add, J_sub, J_mul, J_neg, J_lt, J_le, J_eq, dv_J, rm_J, if_pos, if_neg, ↓reduceIte, bitJ, shlJ, orJ, j_0, j_1, j_2, j_3, j_4, j_5, j_6, j_7, j_8, j_9, j_10, j_11, j_12, j_13, j_14, j_15, j_16, j_17, j_18, j_19, j_20, j_21, j_22, j_23, j_24, j_25, j_26, j_27, j_28, j_29, j_30, j_31, j_32, j_33, j_34, j_35, j_36, j_37, j_38, j_39, j_40, j_41, j_42, j_43, j_44, j_45, j_46, j_47, j_48, j_49, j_50, j_51, j_52, j_57, j_59, j_63, j_74, j_75, j_93, j_97, j_99, j_100, j_122, j_200, j_255, j_300, j_465, j_496, j_900, j_999, j_1000, j_65536, j_65537, j_99999, j_252645135, j_858993459, j_1431655765, k_0, k_1, k_27, k_32, k_74, k_75, k_100, k_1000, k_65537, rb, ch, eh, el, e6]
        rfl) (by
      have e0 : hn L - 1 + 1 = hn L := by omega
      unfold B_md_lowestNow_4
      rw [e0]
      simp (disch := first | with_reducible assumption | omega | trivial) only [bn_s1, bd_s1, ei_l1, ei_r1, gI_J, gL_J, gR_J, aI_J, aL_J, sI_J, sL_J, pI_J, pL_J, J_add, J_sub, J_mul, J_neg, J_lt, J_le, J_eq, dv_J, rm_J, if_pos, if_neg, ↓reduceIte, bitJ, shlJ, orJ, j_0, j_1, j_2, j_3, j_4, j_5, j_6, j_7, j_8, j_9, j_10, j_11, j_12, j_13, j_14, j_15, j_16, j_17, j_18, j_19, j_20, j_21, j_22, j_23, j_24, j_25, j_26, j_27, j_28, j_29, j_30, j_31, j_32, j_33, j_34, j_35, j_36, j_37, j_38, j_39, j_40, j_41, j_42, j_43, j_44, j_45, j_46, j_47, j_48, j_49, j_50, j_51, j_52, j_57, j_59, j_63, j_74, j_75, j_93, j_97, j_99, j_100, j_122, j_200, j_255, j_300, j_465, j_496, j_900, j_999, j_1000, j_65536, j_65537, j_99999, j_252645135, j_858993459, j_1431655765, k_0, k_1, k_27, k_32, k_74, k_75, k_100, k_1000, k_65537, rb, ch])
  unfold F_md_lowestNow
  rw [ck_e k]
  simp (disch := first | with_reducible assumption | omega | trivial) only [bn_s1, bd_s1, ei_l1, ei_r1, gI_J, gL_J, gR_J, aI_J, aL_J, sI_J, sL_J, pI_J, pL_J, J_add, J_sub, J_mul, J_neg, J_lt, J_le, J_eq, dv_J, rm_J, if_pos, if_neg, ↓reduceIte, bitJ, shlJ, orJ, j_0, j_1, j_2, j_3, j_4, j_5, j_6, j_7, j_8, j_9, j_10, j_11, j_12, j_13, j_14, j_15, j_16, j_17, j_18, j_19, j_20, j_21, j_22, j_23, j_24, j_25, j_26, j_27, j_28, j_29, j_30, j_31, j_32, j_33, j_34, j_35, j_36, j_37, j_38, j_39, j_40, j_41, j_42, j_43, j_44, j_45, j_46, j_47, j_48, j_49, j_50, j_51, j_52, j_57, j_59, j_63, j_74, j_75, j_93, j_97, j_99, j_100, j_122, j_200, j_255, j_300, j_465, j_496, j_900, j_999, j_1000, j_65536, j_65537, j_99999, j_252645135, j_858993459, j_1431655765, k_0, k_1, k_27, k_32, k_74, k_75, k_100, k_1000, k_65537, e]
theorem D_works {h : Hp} {S : Sk} (HM : MS h) (HV : ∀ i, 0 ≤ i → i < 31 → ia h 90 i = S i) : ∃ h', F_md_works 88 h = some h' ∧ Fm 91 92 h h' ∧ XR S h' := by
  have k := MS_k HM
  obtain ⟨y, h1, e1, q⟩ := lp_for (b := B_md_works_2 88) (f := FU) (s := J 0) (h := h) (fun i s h' => s = J i ∧ Fm 91 92 h h' ∧ (∀ j : Int, 0 ≤ j → j < i → ia h' 91 j = S j)) (fun _ h' => Fm 91 92 h h' ∧ XR S h') 31 (by decide) ⟨rfl, fm_rf _ _ _, fun j j0 j1 => by omega⟩ (fun i s h1 hi hI => by
      obtain ⟨rfl, f1, g1⟩ := hI
      have HM1 := MS_fm f1 HM
      have k1 := MS_k HM1; have r16 := MS_r16 HM1; have k16 := MS_k16 HM1; have n16 := MS_n16 HM1; have r15 := MS_r15 HM1; have k15 := MS_k15 HM1; have n15 := MS_n15 HM1
      have v : ia h1 90 i = S i := by rw [fm_ia f1 (by omega)]; exact HV i (by omega) (by omega)
      have rg := ia_rg h1 90 i
      rw [v] at rg
      refine ⟨J (i + 1), wA h1 91 i (S i), ?_, rfl, fm_tr f1 (fm_wA (by omega) (by omega)), fun j j0 j1 => ?_⟩
      · unfold B_md_works_2
        simp (disch := first | with_reducible assumption | omega | trivial) only [bn_s1, bd_s1, ei_l1, ei_r1, gI_J, gL_J, gR_J, aI_J, aL_J, sI_J, sL_J, pI_J, pL_J, J_add, J_sub, J_mul, J_neg, J_lt, J_le, J_eq, dv_J, rm_J, if_pos, if_neg, ↓reduceIte, bitJ, shlJ, orJ, j_0, j_1, j_2, j_3, j_4, j_5, j_6, j_7, j_8, j_9, j_10, j_11, j_12, j_13, j_14, j_15, j_16, j_17, j_18, j_19, j_20, j_21, j_22, j_23, j_24, j_25, j_26, j_27, j_28, j_29, j_30, j_31, j_32, j_33, j_34, j_35, j_36, j_37, j_38, j_39, j_40, j_41, j_42, j_43, j_44, j_45, j_46, j_47, j_48, j_49, j_50, j_51, j_52, j_57, j_59, j_63, j_74, j_75, j_93, j_97, j_99, j_100, j_122, j_200, j_255, j_300, j_465, j_496, j_900, j_999, j_1000, j_65536, j_65537, j_99999, j_252645135, j_858993459, j_1431655765, k_0, k_1, k_27, k_32, k_74, k_75, k_100, k_1000, k_65537, r16, r15, v]
      · by_cases cj : j = i
        · rw [cj]; exact ia_same (by omega) (by omega) (by omega) (by omega)
        · rw [ia_ne (by omega) (by omega) cj]; exact g1 j j0 (by omega)) (fun s h1 hI => by
      obtain ⟨rfl, f1, g1⟩ := hI
      refine ⟨(), h1, ?_, f1, fun j j0 j1 => g1 j j0 (by omega)⟩
      unfold B_md_works_2
      simp (disch := first | with_reducible assumption | omega | trivial) only [bn_s1, bd_s1, ei_l1, ei_r1, gI_J, gL_J, gR_J, aI_J, aL_J, sI_J, sL_J, pI_J, pL_J, J_add, J_sub, J_mul, J_neg, J_lt, J_le, J_eq, dv_J, rm_J, if_pos, if_neg, ↓reduceIte, bitJ, shlJ, orJ, j_0, j_1, j_2, j_3, j_4, j_5, j_6, j_7, j_8, j_9, j_10, j_11, j_12, j_13, j_14, j_15, j_16, j_17, j_18, j_19, j_20, j_21, j_22, j_23, j_24, j_25, j_26, j_27, j_28, j_29, j_30, j_31, j_32, j_33, j_34, j_35, j_36, j_37, j_38, j_39, j_40, j_41, j_42, j_43, j_44, j_45, j_46, j_47, j_48, j_49, j_50, j_51, j_52, j_57, j_59, j_63, j_74, j_75, j_93, j_97, j_99, j_100, j_122, j_200, j_255, j_300, j_465, j_496, j_900, j_999, j_1000, j_65536, j_65537, j_99999, j_252645135, j_858993459, j_1431655765, k_0, k_1, k_27, k_32, k_74, k_75, k_100, k_1000, k_65537])
  refine ⟨h1, ?_, q⟩
  unfold F_md_works
  rw [ck_e k]
  simp (disch := first | with_reducible assumption | omega | trivial) only [bn_s1, bd_s1, ei_l1, ei_r1, gI_J, gL_J, gR_J, aI_J, aL_J, sI_J, sL_J, pI_J, pL_J, J_add, J_sub, J_mul, J_neg, J_lt, J_le, J_eq, dv_J, rm_J, if_pos, if_neg, ↓reduceIte, bitJ, shlJ, orJ, j_0, j_1, j_2, j_3, j_4, j_5, j_6, j_7, j_8, j_9, j_10, j_11, j_12, j_13, j_14, j_15, j_16, j_17, j_18, j_19, j_20, j_21, j_22, j_23, j_24, j_25, j_26, j_27, j_28, j_29, j_30, j_31, j_32, j_33, j_34, j_35, j_36, j_37, j_38, j_39, j_40, j_41, j_42, j_43, j_44, j_45, j_46, j_47, j_48, j_49, j_50, j_51, j_52, j_57, j_59, j_63, j_74, j_75, j_93, j_97, j_99, j_100, j_122, j_200, j_255, j_300, j_465, j_496, j_900, j_999, j_1000, j_65536, j_65537, j_99999, j_252645135, j_858993459, j_1431655765, k_0, k_1, k_27, k_32, k_74, k_75, k_100, k_1000, k_65537, e1]
theorem D_softens {L : Lk} {b : Nat} {h : Hp} {S : Sk} (HL : LW L) (HC : RC L b h) (HX : XR S h) : ∃ h', F_md_softens 88 h = some h' ∧ Fm 91 92 h h' ∧ XR (sft S (hn L)) h' := by
  have k := MS_k HC.1
  have b1 := LW_h HL
  have hne := hn_e HL
  obtain ⟨y, h1, e1, q⟩ := lp_for (b := B_md_softens_2 88) (f := FU) (s := J 0) (h := h) (fun i s h' => s = J i ∧ Fm 91 92 h h' ∧ XR (sft S i) h') (fun _ h' => Fm 91 92 h h' ∧ XR (sft S (hn L)) h') (hn L) (by unfold FU; omega) ⟨rfl, fm_rf _ _ _, HX⟩ (fun i s h1 hi hI => by
      obtain ⟨rfl, f1, g1⟩ := hI
      have HC1 := RC_fm f1 (by omega) HC
      have rb := HC1.2.1
      have yk := YS_k HC1.2.2.1
      have ch := HC1.2.2.2.1.1.2.1
      have HM1 := HC1.1
      have k1 := MS_k HM1; have r16 := MS_r16 HM1; have k16 := MS_k16 HM1; have n16 := MS_n16 HM1
      obtain ⟨T, hT⟩ : ∃ T, T = sft S i := ⟨_, rfl⟩
      rw [← hT] at g1
      have v1 := g1 (5 * i + 1) (by omega) (by omega)
      have v0 := g1 (5 * i) (by omega) (by omega)
      have R1 := ia_rg h1 91 (5 * i + 1)
      have R0 := ia_rg h1 91 (5 * i)
      rw [v1] at R1
      rw [v0] at R0
      have fa : Fm 91 92 h1 (wA h1 91 (5 * i + 2) (T (5 * i + 1))) := fm_wA (by omega) (by omega)
      have M1 := MS_fm fa HM1
      have k2 := MS_k M1; have r2 := MS_r16 M1; have k26 := MS_k16 M1; have n2 := MS_n16 M1
      have w0 : ia (wA h1 91 (5 * i + 2) (T (5 * i + 1))) 91 (5 * i) = T (5 * i) := by rw [ia_ne (by omega) (by omega) (by omega)]; exact v0
      have fb : Fm 91 92 (wA h1 91 (5 * i + 2) (T (5 * i + 1))) (wA (wA h1 91 (5 * i + 2) (T (5 * i + 1))) 91 (5 * i + 1) (T (5 * i))) := fm_wA (by omega) (by omega)
      have M2 := MS_fm fb M1
      have k3 := MS_k M2; have r3 := MS_r16 M2; have k36 := MS_k16 M2; have n3 := MS_n16 M2
      refine ⟨J (i + 1), wA (wA (wA h1 91 (5 * i + 2) (T (5 * i + 1))) 91 (5 * i + 1) (T (5 * i))) 91 (5 * i) 0, ?_, rfl, fm_tr f1 (fm_tr fa (fm_tr fb (fm_wA (by omega) (by omega)))), fun j j0 j1 => ?_⟩
      · unfold B_md_softens_2
        simp (disch := first | with_reducible assumption | omega | trivial) only [bn_s1, bd_s1, ei_l1, ei_r1, gI_J, gL_J, gR_J, aI_J, aL_J, sI_J, sL_J, pI_J, pL_J, J_add, J_sub, J_mul, J_neg, J_lt, J_le, J_eq, dv_J, rm_J, if_pos, if_neg, ↓reduceIte, bitJ, shlJ, orJ, j_0, j_1, j_2, j_3, j_4, j_5, j_6, j_7, j_8, j_9, j_10, j_11, j_12, j_13, j_14, j_15, j_16, j_17, j_18, j_19, j_20, j_21, j_22, j_23, j_24, j_25, j_26, j_27, j_28, j_29, j_30, j_31, j_32, j_33, j_34, j_35, j_36, j_37, j_38, j_39, j_40, j_41, j_42, j_43, j_44, j_45, j_46, j_47, j_48, j_49, j_50, j_51, j_52, j_57, j_59, j_63, j_74, j_75, j_93, j_97, j_99, j_100, j_122, j_200, j_255, j_300, j_465, j_496, j_900, j_999, j_1000, j_65536, j_65537, j_99999, j_252645135, j_858993459, j_1431655765, k_0, k_1, k_27, k_32, k_74, k_75, k_100, k_1000, k_65537, rb, ch, r16, cell_e, v1, r2, w0, r3, Int.add_zero]
      · show _ = sfu (sft S i) i j
        rw [← hT]
        unfold sfu
        rw [ia_if (by omega) j0 (by omega) (by omega) (by omega), ia_if (by omega) j0 (by omega) (by omega) (by omega), ia_if (by omega) j0 (by omega) (by omega) (by omega), g1 j j0 j1]
        by_cases c2 : j = 5 * i + 2
        · rw [if_neg (by omega), if_neg (by omega), if_pos c2, if_pos c2]
        · rw [if_neg c2]
          by_cases c1 : j = 5 * i + 1
          · rw [if_neg (by omega), if_pos c1, if_pos c1, if_neg c2]
          · rw [if_neg c1, if_neg c1, if_neg c2]) (fun s h1 hI => by
      obtain ⟨rfl, f1, g1⟩ := hI
      have HC1 := RC_fm f1 (by omega) HC
      have rb := HC1.2.1
      have yk := YS_k HC1.2.2.1
      have ch := HC1.2.2.2.1.1.2.1
      have k1 := MS_k HC1.1
      refine ⟨(), h1, ?_, f1, g1⟩
      unfold B_md_softens_2
      simp (disch := first | with_reducible assumption | omega | trivial) only [bn_s1, bd_s1, ei_l1, ei_r1, gI_J, gL_J, gR_J, aI_J, aL_J, sI_J, sL_J, pI_J, pL_J, J_add, J_sub, J_mul, J_neg, J_lt, J_le, J_eq, dv_J, rm_J, if_pos, if_neg, ↓reduceIte, bitJ, shlJ, orJ, j_0, j_1, j_2, j_3, j_4, j_5, j_6, j_7, j_8, j_9, j_10, j_11, j_12, j_13, j_14, j_15, j_16, j_17, j_18, j_19, j_20, j_21, j_22, j_23, j_24, j_25, j_26, j_27, j_28, j_29, j_30, j_31, j_32, j_33, j_34, j_35, j_36, j_37, j_38, j_39, j_40, j_41, j_42, j_43, j_44, j_45, j_46, j_47, j_48, j_49, j_50, j_51, j_52, j_57, j_59, j_63, j_74, j_75, j_93, j_97, j_99, j_100, j_122, j_200, j_255, j_300, j_465, j_496, j_900, j_999, j_1000, j_65536, j_65537, j_99999, j_252645135, j_858993459, j_1431655765, k_0, k_1, k_27, k_32, k_74, k_75, k_100, k_1000, k_65537, rb, ch])
  refine ⟨h1, ?_, q⟩
  unfold F_md_softens
  rw [ck_e k]
  simp (disch := first | with_reducible assumption | omega | trivial) only [bn_s1, bd_s1, ei_l1, ei_r1, gI_J, gL_J, gR_J, aI_J, aL_J, sI_J, sL_J, pI_J, pL_J, J_add, J_sub, J_mul, J_neg, J_lt, J_le, J_eq, dv_J, rm_J, if_pos, if_neg, ↓reduceIte, bitJ, shlJ, orJ, j_0, j_1, j_2, j_3, j_4, j_5, j_6, j_7, j_8, j_9, j_10, j_11, j_12, j_13, j_14, j_15, j_16, j_17, j_18, j_19, j_20, j_21, j_22, j_23, j_24, j_25, j_26, j_27, j_28, j_29, j_30, j_31, j_32, j_33, j_34, j_35, j_36, j_37, j_38, j_39, j_40, j_41, j_42, j_43, j_44, j_45, j_46, j_47, j_48, j_49, j_50, j_51, j_52, j_57, j_59, j_63, j_74, j_75, j_93, j_97, j_99, j_100, j_122, j_200, j_255, j_300, j_465, j_496, j_900, j_999, j_1000, j_65536, j_65537, j_99999, j_252645135, j_858993459, j_1431655765, k_0, k_1, k_27, k_32, k_74, k_75, k_100, k_1000, k_65537, e1]
