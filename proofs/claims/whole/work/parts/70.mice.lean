/-! State: weeks and mice -/
def ZCk (L : Lk) (S : Sk) : Prop := ∀ i, 5 * L 1 0 ≤ i → i < 25 → S i = 0
def SW (m : Int) (L : Lk) (S : Sk) : Prop := CW m S ∧ ZCk L S ∧ gok L S ∧ 0 ≤ S 28 ∧ (S 28).toNat < 2 ^ rn L ∧ 0 ≤ S 30 ∧ S 30 ≤ 65536
theorem sfu_hi {S : Sk} {z i : Int} (h1 : z < 5) (h2 : 25 ≤ i) : sfu S z i = S i := by
  unfold sfu
  rw [if_neg (by omega), if_neg (by omega), if_neg (by omega)]
theorem sft_hi {S : Sk} {i : Int} (h2 : 25 ≤ i) : ∀ n : Nat, n ≤ 5 → sft S n i = S i := by
  intro n
  induction n with
  | zero => intro _; rfl
  | succ n ih => intro h; show sfu (sft S n) n i = S i; rw [sfu_hi (by omega) h2, ih (by omega)]
theorem sfu_z {S : Sk} {z : Int} (h : ∀ i, 5 * z ≤ i → i < 5 * z + 5 → S i = 0) : sfu S z = S := by
  funext i
  unfold sfu
  by_cases c2 : i = 5 * z + 2
  · rw [if_pos c2, h _ (by omega) (by omega), c2, h _ (by omega) (by omega)]
  · rw [if_neg c2]
    by_cases c1 : i = 5 * z + 1
    · rw [if_pos c1, h _ (by omega) (by omega), c1, h _ (by omega) (by omega)]
    · rw [if_neg c1]
      by_cases c0 : i = 5 * z
      · rw [if_pos c0, c0, h _ (by omega) (by omega)]
      · rw [if_neg c0]
theorem sfu_zc {L : Lk} {S : Sk} {z : Int} (hz : z < L 1 0) (H : ZCk L S) : ZCk L (sfu S z) := by
  intro i h1 h2
  unfold sfu
  rw [if_neg (by omega), if_neg (by omega), if_neg (by omega)]
  exact H i h1 h2
theorem sft_zc {L : Lk} {S : Sk} (H : ZCk L S) : ∀ n : Nat, n ≤ L 1 0 → ZCk L (sft S n) := by
  intro n
  induction n with
  | zero => intro _; exact H
  | succ n ih => intro h; exact sfu_zc (by omega) (ih (by omega))
theorem sft_5 {L : Lk} {S : Sk} (HL : LW L) (H : ZCk L S) : sft S 5 = sft S (hn L) := by
  have b1 := LW_h HL
  have b2 := hn_e HL
  have key : ∀ k, hn L + k ≤ 5 → sft S (hn L + k) = sft S (hn L) := by
    intro k
    induction k with
    | zero => intro _; rfl
    | succ k ih =>
      intro hk
      have e := ih (by omega)
      show sfu (sft S (hn L + k)) (hn L + k : Nat) = _
      rw [e]
      apply sfu_z
      intro i h1 h2
      exact sft_zc H (hn L) (by omega) i (by omega) (by omega)
  have := key (5 - hn L) (by omega)
  have e0 : hn L + (5 - hn L) = 5 := by omega
  rw [e0] at this
  exact this
theorem sfu_cw {m : Int} {S : Sk} {z : Int} (h0 : 0 ≤ z) (h1 : z < 5) (hm : 0 ≤ m) (H : CW m S) : CW m (sfu S z) := by
  intro i i0 i1
  unfold sfu
  split
  · exact H _ (by omega) (by omega)
  · split
    · exact H _ (by omega) (by omega)
    · split
      · omega
      · exact H _ i0 i1
theorem sft_cw {m : Int} {S : Sk} (hm : 0 ≤ m) (H : CW m S) : ∀ n : Nat, n ≤ 5 → CW m (sft S n) := by
  intro n
  induction n with
  | zero => intro _; exact H
  | succ n ih => intro h; exact sfu_cw (by omega) (by omega) hm (ih (by omega))
theorem sft_sw {m : Int} {L : Lk} {S : Sk} (HL : LW L) (hm : 0 ≤ m) (H : SW m L S) : SW m L (sft S (hn L)) := by
  have b1 := LW_h HL
  have b2 := hn_e HL
  have b3 := LW_g HL
  obtain ⟨a1, a2, a3, a4, a5, a6, a7⟩ := H
  refine ⟨sft_cw hm a1 _ (by omega), sft_zc a2 _ (by omega), fun g g0 g1 => ?_, ?_, ?_, ?_, ?_⟩
  · rw [sft_hi (by omega) _ (by omega)]; exact a3 g g0 g1
  · rw [sft_hi (by omega) _ (by omega)]; exact a4
  · rw [sft_hi (by omega) _ (by omega)]; exact a5
  · rw [sft_hi (by omega) _ (by omega)]; exact a6
  · rw [sft_hi (by omega) _ (by omega)]; exact a7
theorem C_softenL {m : Int} {L : Lk} {b : Nat} {h : Hp} {S : Sk} (HL : LW L) (HW : SW m L S) (H : SS b h) (HS : SR L b S h) (hb : b < 1000) : ∃ h', F_st_soften b h = some h' ∧ Fm (b + 1) (b + 2) h h' ∧ SR L b (sft S (hn L)) h' := by
  obtain ⟨h1, e1, f1, g1⟩ := C_soften H HS.1 hb
  have b1 := LW_h HL
  have b2 := hn_e HL
  rw [sft_5 HL HW.2.1] at g1
  refine ⟨h1, e1, f1, g1, fun g g0 g1' => ?_, ?_, ?_, ?_⟩
  · rw [fm_ia f1 (by omega), sft_hi (by omega) _ (by omega)]; exact HS.2.1 g g0 g1'
  · rw [fm_fi f1 (by omega), sft_hi (by omega) _ (by omega)]; exact HS.2.2.1
  · rw [fm_fi f1 (by omega), sft_hi (by omega) _ (by omega)]; exact HS.2.2.2.1
  · rw [fm_fi f1 (by omega), sft_hi (by omega) _ (by omega)]; exact HS.2.2.2.2
/-- what mice take first -/
def bk (S : Sk) (z : Int) : Int := if 0 < S (5 * z + 2) then 2 else if 0 < S (5 * z + 1) then 1 else if 0 < S (5 * z + 3) then 3 else if 0 < S (5 * z) then 0 else if 0 < S (5 * z + 4) then 4 else -1
def lse (S : Sk) (z : Int) : Sk := fun i => if bk S z ≠ -1 ∧ i = 5 * z + bk S z then S i - 1 else S i
def ek (i : Nat) : Int := if i = 0 then 2 else if i = 1 then 1 else if i = 2 then 3 else if i = 3 then 0 else 4
theorem eat_e {h : Hp} (H : CR h) {i : Nat} (h1 : i < 5) : aI h 100 1000002 (J i) = some (J (ek i)) := by
  obtain ⟨a1, a2, a3, a4⟩ := H
  rw [aI_J a3 (by omega) (by rw [a4]; show (i : Int) < 5; omega) (by omega)]
  unfold ia
  rw [a4]
  have : i = 0 ∨ i = 1 ∨ i = 2 ∨ i = 3 ∨ i = 4 := by omega
  rcases this with rfl | rfl | rfl | rfl | rfl <;> decide +kernel
theorem ek_b (i : Nat) : 0 ≤ ek i ∧ ek i ≤ 4 := by
  unfold ek
  split
  · omega
  · split
    · omega
    · split
      · omega
      · split <;> omega
theorem bk_b (S : Sk) (z : Int) : -1 ≤ bk S z ∧ bk S z ≤ 4 := by
  unfold bk
  split
  · omega
  · split
    · omega
    · split
      · omega
      · split
        · omega
        · split <;> omega
theorem bk_ex (S : Sk) (z : Int) : ∃ m, m ≤ 5 ∧ (∀ j, j < m → ¬ 0 < S (5 * z + ek j)) ∧ (m < 5 → 0 < S (5 * z + ek m) ∧ bk S z = ek m) ∧ (m = 5 → bk S z = -1) := by
  obtain ⟨m, m1, m2, m3⟩ := fst_ex (fun i => decide (0 < S (5 * z + ek i))) 5
  have q2 : ∀ j, j < m → ¬ 0 < S (5 * z + ek j) := fun j hj => of_decide_eq_false (m2 j hj)
  have q3 : m < 5 → 0 < S (5 * z + ek m) := fun hm => of_decide_eq_true (m3 hm)
  refine ⟨m, m1, q2, ?_, ?_⟩
  · intro hm
    refine ⟨q3 hm, ?_⟩
    have p := q3 hm
    have : m = 0 ∨ m = 1 ∨ m = 2 ∨ m = 3 ∨ m = 4 := by omega
    rcases this with rfl | rfl | rfl | rfl | rfl
    · replace p : 0 < S (5 * z + 2) := p
      unfold bk; rw [if_pos p]; rfl
    · have p0 : ¬ 0 < S (5 * z + 2) := q2 0 (by omega)
      replace p : 0 < S (5 * z + 1) := p
      unfold bk; rw [if_neg p0, if_pos p]; rfl
    · have p0 : ¬ 0 < S (5 * z + 2) := q2 0 (by omega)
      have p1 : ¬ 0 < S (5 * z + 1) := q2 1 (by omega)
      replace p : 0 < S (5 * z + 3) := p
      unfold bk; rw [if_neg p0, if_neg p1, if_pos p]; rfl
    · have p0 : ¬ 0 < S (5 * z + 2) := q2 0 (by omega)
      have p1 : ¬ 0 < S (5 * z + 1) := q2 1 (by omega)
      have p2 : ¬ 0 < S (5 * z + 3) := q2 2 (by omega)
      replace p : 0 < S (5 * z + 0) := p
      rw [Int.add_zero] at p
      unfold bk; rw [if_neg p0, if_neg p1, if_neg p2, if_pos p]; rfl
    · have p0 : ¬ 0 < S (5 * z + 2) := q2 0 (by omega)
      have p1 : ¬ 0 < S (5 * z + 1) := q2 1 (by omega)
      have p2 : ¬ 0 < S (5 * z + 3) := q2 2 (by omega)
      have p3 : ¬ 0 < S (5 * z + 0) := q2 3 (by omega)
      replace p : 0 < S (5 * z + 4) := p
      rw [Int.add_zero] at p3
      unfold bk; rw [if_neg p0, if_neg p1, if_neg p2, if_neg p3, if_pos p]; rfl
  · intro hm
    have p0 : ¬ 0 < S (5 * z + 2) := q2 0 (by omega)
    have p1 : ¬ 0 < S (5 * z + 1) := q2 1 (by omega)
    have p2 : ¬ 0 < S (5 * z + 3) := q2 2 (by omega)
    have p3 : ¬ 0 < S (5 * z + 0) := q2 3 (by omega)
    have p4 : ¬ 0 < S (5 * z + 4) := q2 4 (by omega)
    rw [Int.add_zero] at p3
    unfold bk; rw [if_neg p0, if_neg p1, if_neg p2, if_neg p3, if_neg p4]
theorem C_loseOne {b : Nat} {h : Hp} {S : Sk} {z : Int} (HC : CR h) (H : SS b h) (hS : ∀ i, 0 ≤ i → i < 25 → ia h (b + 1) i = S i) (hW : CW 5000 S) (h0 : 0 ≤ z) (h1 : z < 5) (hb : b < 1000) : ∃ h', F_st_loseOne b (J z) h = some (J (if bk S z = -1 then 0 else 1), h') ∧ Fm (b + 1) (b + 2) h h' ∧ (∀ i, 0 ≤ i → i < 25 → ia h' (b + 1) i = lse S z i) := by
  have k := SS_k H; have r0 := SS_r0 H; have k0 := SS_k0 H; have n0 := SS_n0 H
  obtain ⟨m, m1, m2, m3, m4⟩ := bk_ex S z
  have e5 : z * 5 = 5 * z := by omega
  have st : ∀ i, i < m → B_st_loseOne_2 b (J z) (J i) h = some (.inl (J (i + 1 : Nat)), h) := fun i hi => by
    have eb := ek_b i
    have nv := m2 i hi
    have hv := hS (5 * z + ek i) (by omega) (by omega)
    have cv := hW (5 * z + ek i) (by omega) (by omega)
    unfold B_st_loseOne_2
    simp (disch := first | with_reducible assumption | omega | trivial) only [bn_s1, bd_s1, ei_l1, ei_r1, gI_J, gL_J, gR_J, aI_J, aL_J, sI_J, sL_J, pI_J, pL_J, J_add, J_sub, J_mul, J_neg, J_lt, J_le, J_eq, dv_J, rm_J, if_pos, if_neg, ↓reduceIte, bitJ, shlJ, orJ, j_0, j_1, j_2, j_3, j_4, j_5, j_6, j_7, j_8, j_9, j_10, j_11, j_12, j_13, j_14, j_15, j_16, j_17, j_18, j_19, j_20, j_21, j_22, j_23, j_24, j_25, j_26, j_27, j_28, j_29, j_30, j_31, j_32, j_33, j_34, j_35, j_36, j_37, j_38, j_39, j_40, j_41, j_42, j_43, j_44, j_45, j_46, j_47, j_48, j_49, j_50, j_51, j_52, j_57, j_59, j_63, j_74, j_75, j_93, j_97, j_99, j_100, j_122, j_200, j_255, j_300, j_465, j_496, j_900, j_999, j_1000, j_65536, j_65537, j_99999, j_252645135, j_858993459, j_1431655765, k_0, k_1, k_27, k_32, k_74, k_75, k_100, k_1000, k_65537, eat_e HC (show i < 5 by omega), r0, e5, hv]
    rfl
  by_cases hm : m < 5
  · obtain ⟨p, q⟩ := m3 hm
    have eb := ek_b m
    have hv := hS (5 * z + ek m) (by omega) (by omega)
    have cv := hW (5 * z + ek m) (by omega) (by omega)
    have e := lp_fin (b := B_st_loseOne_2 b (J z)) (r := .inr (J 1)) (f := FU) (s := J 0) (h := h) (h' := wA h (b + 1) (5 * z + ek m) (S (5 * z + ek m) - 1)) (fun i => J i) m (by unfold FU; omega) rfl st (by
      unfold B_st_loseOne_2
      simp (disch := first | with_reducible assumption | omega | trivial) only [bn_s1, bd_s1, ei_l1, ei_r1, gI_J, gL_J, gR_J, aI_J, aL_J, sI_J, sL_J, pI_J, pL_J, J_add, J_sub, J_mul, J_neg, J_lt, J_le, J_eq, dv_J, rm_J, if_pos, if_neg, ↓reduceIte, bitJ, shlJ, orJ, j_0, j_1, j_2, j_3, j_4, j_5, j_6, j_7, j_8, j_9, j_10, j_11, j_12, j_13, j_14, j_15, j_16, j_17, j_18, j_19, j_20, j_21, j_22, j_23, j_24, j_25, j_26, j_27, j_28, j_29, j_30, j_31, j_32, j_33, j_34, j_35, j_36, j_37, j_38, j_39, j_40, j_41, j_42, j_43, j_44, j_45, j_46, j_47, j_48, j_49, j_50, j_51, j_52, j_57, j_59, j_63, j_74, j_75, j_93, j_97, j_99, j_100, j_122, j_200, j_255, j_300, j_465, j_496, j_900, j_999, j_1000, j_65536, j_65537, j_99999, j_252645135, j_858993459, j_1431655765, k_0, k_1, k_27, k_32, k_74, k_75, k_100, k_1000, k_65537, eat_e HC (show m < 5 by omega), r0, e5, hv])
    refine ⟨wA h (b + 1) (5 * z + ek m) (S (5 * z + ek m) - 1), ?_, fm_wA (by omega) (by omega), fun i i0 i1 => ?_⟩
    · unfold F_st_loseOne
      rw [ck_e k]
      simp (disch := first | with_reducible assumption | omega | trivial) only [bn_s1, bd_s1, ei_l1, ei_r1, gI_J, gL_J, gR_J, aI_J, aL_J, sI_J, sL_J, pI_J, pL_J, J_add, J_sub, J_mul, J_neg, J_lt, J_le, J_eq, dv_J, rm_J, if_pos, if_neg, ↓reduceIte, bitJ, shlJ, orJ, j_0, j_1, j_2, j_3, j_4, j_5, j_6, j_7, j_8, j_9, j_10, j_11, j_12, j_13, j_14, j_15, j_16, j_17, j_18, j_19, j_20, j_21, j_22, j_23, j_24, j_25, j_26, j_27, j_28, j_29, j_30, j_31, j_32, j_33, j_34, j_35, j_36, j_37, j_38, j_39, j_40, j_41, j_42, j_43, j_44, j_45, j_46, j_47, j_48, j_49, j_50, j_51, j_52, j_57, j_59, j_63, j_74, j_75, j_93, j_97, j_99, j_100, j_122, j_200, j_255, j_300, j_465, j_496, j_900, j_999, j_1000, j_65536, j_65537, j_99999, j_252645135, j_858993459, j_1431655765, k_0, k_1, k_27, k_32, k_74, k_75, k_100, k_1000, k_65537, e]
    · unfold lse
      rw [q, ia_if (by omega) i0 (by omega) (by omega) (by omega), hS i i0 i1]
      by_cases c : i = 5 * z + ek m
      · rw [if_pos c, if_pos ⟨by omega, c⟩, c]
      · rw [if_neg c, if_neg (fun x => c x.2)]
  · have q := m4 (by omega)
    have e := lp_fin (b := B_st_loseOne_2 b (J z)) (r := .inl ()) (f := FU) (s := J 0) (h := h) (h' := h) (fun i => J i) m (by unfold FU; omega) rfl st (by
      unfold B_st_loseOne_2
      simp (disch := first | with_reducible assumption | omega | trivial) only [bn_s1, bd_s1, ei_l1, ei_r1, gI_J, gL_J, gR_J, aI_J, aL_J, sI_J, sL_J, pI_J, pL_J, J_add, J_sub, J_mul, J_neg, J_lt, J_le, J_eq, dv_J, rm_J, if_pos, if_neg, ↓reduceIte, bitJ, shlJ, orJ, j_0, j_1, j_2, j_3, j_4, j_5, j_6, j_7, j_8, j_9, j_10, j_11, j_12, j_13, j_14, j_15, j_16, j_17, j_18, j_19, j_20, j_21, j_22, j_23, j_24, j_25, j_26, j_27, j_28, j_29, j_30, j_31, j_32, j_33, j_34, j_35, j_36, j_37, j_38, j_39, j_40, j_41, j_42, j_43, j_44, j_45, j_46, j_47, j_48, j_49, j_50, j_51, j_52, j_57, j_59, j_63, j_74, j_75, j_93, j_97, j_99, j_100, j_122, j_200, j_255, j_300, j_465, j_496, j_900, j_999, j_1000, j_65536, j_65537, j_99999, j_252645135, j_858993459, j_1431655765, k_0, k_1, k_27, k_32, k_74, k_75, k_100, k_1000, k_65537])
    refine ⟨h, ?_, fm_rf _ _ _, fun i i0 i1 => ?_⟩
    · unfold F_st_loseOne
      rw [ck_e k]
      simp (disch := first | with_reducible assumption | omega | trivial) only [bn_s1, bd_s1, ei_l1, ei_r1, gI_J, gL_J, gR_J, aI_J, aL_J, sI_J, sL_J, pI_J, pL_J, J_add, J_sub, J_mul, J_neg, J_lt, J_le, J_eq, dv_J, rm_J, if_pos, if_neg, ↓reduceIte, bitJ, shlJ, orJ, j_0, j_1, j_2, j_3, j_4, j_5, j_6, j_7, j_8, j_9, j_10, j_11, j_12, j_13, j_14, j_15, j_16, j_17, j_18, j_19, j_20, j_21, j_22, j_23, j_24, j_25, j_26, j_27, j_28, j_29, j_30, j_31, j_32, j_33, j_34, j_35, j_36, j_37, j_38, j_39, j_40, j_41, j_42, j_43, j_44, j_45, j_46, j_47, j_48, j_49, j_50, j_51, j_52, j_57, j_59, j_63, j_74, j_75, j_93, j_97, j_99, j_100, j_122, j_200, j_255, j_300, j_465, j_496, j_900, j_999, j_1000, j_65536, j_65537, j_99999, j_252645135, j_858993459, j_1431655765, k_0, k_1, k_27, k_32, k_74, k_75, k_100, k_1000, k_65537, e]
    · unfold lse
      rw [q, hS i i0 i1, if_neg (fun x => x.1 rfl)]
