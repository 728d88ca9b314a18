/-! the text of a lake: its tokens. T: the bytes, n: how many are read; p: where a token is looked for -/
def ltr (x : Int) : Bool := decide (97 ≤ x ∧ x ≤ 122)
def dgt (x : Int) : Bool := decide (48 ≤ x ∧ x ≤ 57)
/-- from p on, the first place whose byte isn't so -/
def run1 (g : Int → Bool) (T : Int → Int) (n p : Nat) : Nat := fsi (fun i => !g (T ((p + i : Nat) : Int))) (n - p)
def isp (x : Int) : Bool := decide (x = 32)
def spn (T : Int → Int) (n p : Nat) : Nat := p + run1 isp T n p
def k27 (T : Int → Int) (p : Nat) : Nat → Int
  | 0 => 0
  | k + 1 => k27 T p k * 27 + (T ((p + k : Nat) : Int) - 97 + 1)
def k32 (T : Int → Int) (p : Nat) : Nat → Int
  | 0 => 0
  | k + 1 => 32 * k32 T p k + (T ((p + k : Nat) : Int) - 97 + 1)
def k10 (T : Int → Int) (p : Nat) : Nat → Int
  | 0 => 0
  | k + 1 => k10 T p k * 10 + (T ((p + k : Nat) : Int) - 48)
/-- how long the token is -/
def tln (T : Int → Int) (n p : Nat) : Nat := if n ≤ spn T n p then 0 else if ltr (T (spn T n p : Nat)) = true then run1 ltr T n (spn T n p) else if dgt (T (spn T n p : Nat)) = true then run1 dgt T n (spn T n p) else 1
/-- its sort: 0 a word, 1 a whole number, 2 a semicolon, 3 the end, 4 none -/
def tso (T : Int → Int) (n p : Nat) : Int := if n ≤ spn T n p then 3 else if ltr (T (spn T n p : Nat)) = true then (if run1 ltr T n (spn T n p) ≤ 8 then 0 else 4) else if dgt (T (spn T n p : Nat)) = true then (if run1 dgt T n (spn T n p) ≤ 3 then 1 else 4) else if T (spn T n p : Nat) = 59 then 2 else 4
def tnx (T : Int → Int) (n p : Nat) : Nat := spn T n p + tln T n p
theorem run1_p (g : Int → Bool) (T : Int → Int) (n p : Nat) : run1 g T n p ≤ n - p ∧ (∀ j, j < run1 g T n p → g (T ((p + j : Nat) : Int)) = true) ∧ (run1 g T n p < n - p → g (T ((p + run1 g T n p : Nat) : Int)) = false) := by
  obtain ⟨m1, m2, m3⟩ := fsi_p (fun i => !g (T ((p + i : Nat) : Int))) (n - p)
  refine ⟨m1, fun j hj => ?_, fun c => ?_⟩
  · have z := m2 j hj
    cases e : g (T ((p + j : Nat) : Int)) with
    | true => rfl
    | false => rw [e] at z; cases z
  · have z := m3 c
    unfold run1
    cases e : g (T ((p + fsi (fun i => !g (T ((p + i : Nat) : Int))) (n - p) : Nat) : Int)) with
    | false => rfl
    | true => rw [e] at z; cases z
theorem run1_1 {g : Int → Bool} {T : Int → Int} {n p : Nat} (hp : p < n) (c : g (T (p : Nat)) = true) : 1 ≤ run1 g T n p := by
  obtain ⟨m1, m2, m3⟩ := run1_p g T n p
  by_cases e : run1 g T n p = 0
  · have z := m3 (by omega)
    rw [e] at z
    replace z : g (T (p : Nat)) = false := z
    rw [c] at z
    cases z
  · omega
theorem run1_0 {g : Int → Bool} {T : Int → Int} {n p : Nat} (c : n ≤ p ∨ g (T (p : Nat)) = false) : run1 g T n p = 0 := by
  obtain ⟨m1, m2, m3⟩ := run1_p g T n p
  by_cases e : run1 g T n p = 0
  · exact e
  · have z := m2 0 (by omega)
    replace z : g (T (p : Nat)) = true := z
    cases c with
    | inl c => omega
    | inr c => rw [c] at z; cases z
theorem spn_b (T : Int → Int) (n p : Nat) (hp : p ≤ n) : p ≤ spn T n p ∧ spn T n p ≤ n := by
  have := (run1_p isp T n p).1
  unfold spn
  omega
theorem tln_b (T : Int → Int) (n p : Nat) (hp : p ≤ n) : tnx T n p ≤ n ∧ (¬ n ≤ spn T n p → 1 ≤ tln T n p) := by
  have s := spn_b T n p hp
  have a := (run1_p ltr T n (spn T n p)).1
  have b := (run1_p dgt T n (spn T n p)).1
  unfold tnx tln
  by_cases c : n ≤ spn T n p
  · rw [if_pos c]; omega
  · rw [if_neg c]
    by_cases d : ltr (T (spn T n p : Nat)) = true
    · have := run1_1 (n := n) (p := spn T n p) (by omega) d
      rw [if_pos d]; omega
    · rw [if_neg d]
      by_cases e : dgt (T (spn T n p : Nat)) = true
      · have := run1_1 (n := n) (p := spn T n p) (by omega) e
        rw [if_pos e]; omega
      · rw [if_neg e]; omega
/-! the class's tokens -/
def TK (h : Hp) : Prop := kd h 3 = 9 ∧ fR h 3 0 = some 1 ∧ kd h 1 = 101 ∧ (iA h 1).length = 1000
theorem TK_fm {lo hi : Nat} {h h' : Hp} (x : Fm lo hi h h') (H : TK h) : TK h' := by
  unfold TK
  simp only [fm_kd x, fm_fR x, fm_len x]
  exact H
theorem tk_i {h : Hp} (Q : TK h) (k : Nat) : gI h 3 9 k = some (J (fi h 3 k)) := gI_J Q.1
theorem tk_i_b {h : Hp} (Q : TK h) (k : Nat) {β : Type} {f : Int32 → Option β} : bn (gI h 3 9 k) f = f (J (fi h 3 k)) := bn_e (tk_i Q k)
theorem tk_p {h : Hp} (Q : TK h) (k : Nat) (v : Int) : pI h 3 9 k (J v) = some (wF h 3 k v) := pI_J Q.1
theorem tk_p_b {h : Hp} (Q : TK h) (k : Nat) (v : Int) {β : Type} {f : Hp → Option β} : bn (pI h 3 9 k (J v)) f = f (wF h 3 k v) := bn_e (tk_p Q k v)
theorem tk_r {h : Hp} (Q : TK h) : gR h 3 9 0 = some 1 := gR_e Q.1 Q.2.1
theorem tk_r_b {h : Hp} (Q : TK h) {β : Type} {f : Nat → Option β} : bn (gR h 3 9 0) f = f 1 := bn_e (tk_r Q)
theorem tk_l {h : Hp} (Q : TK h) (k : Nat) : gL h 3 9 k = some (K (fl h 3 k)) := gL_J Q.1
theorem tk_l_b {h : Hp} (Q : TK h) (k : Nat) {β : Type} {f : Int64 → Option β} : bn (gL h 3 9 k) f = f (K (fl h 3 k)) := bn_e (tk_l Q k)
theorem tk_pl {h : Hp} (Q : TK h) (k : Nat) (v : Int) : pL h 3 9 k (K v) = some (wG h 3 k v) := pL_J Q.1
theorem tk_pl_b {h : Hp} (Q : TK h) (k : Nat) (v : Int) {β : Type} {f : Hp → Option β} : bn (pL h 3 9 k (K v)) f = f (wG h 3 k v) := bn_e (tk_pl Q k v)
theorem tk_a {h : Hp} (Q : TK h) {z : Int} (h0 : 0 ≤ z) (h1 : z < 1000) : aI h 101 1 (J z) = some (J (ia h 1 z)) := aI_J Q.2.2.1 h0 (by rw [Q.2.2.2]; omega) (by omega)
theorem tk_a_b {h : Hp} (Q : TK h) {z : Int} (h0 : 0 ≤ z) (h1 : z < 1000) {β : Type} {f : Int32 → Option β} : bn (aI h 101 1 (J z)) f = f (J (ia h 1 z)) := bn_e (tk_a Q h0 h1)
theorem J_wF {h : Hp} {a k : Nat} {v : Int} : J (fi (wF h a k v) a k) = J v := by
  unfold fi wF
  rw [fI_sFI, if_pos ⟨rfl, rfl⟩, J_of]
theorem K_wG {h : Hp} {a k : Nat} {v : Int} : K (fl (wG h a k v) a k) = K v := by
  unfold fl wG
  rw [fL_sFL, if_pos ⟨rfl, rfl⟩, K_of]
theorem fi_wG {h : Hp} {a k : Nat} {v : Int} (b j : Nat) : fi (wG h a k v) b j = fi h b j := rfl
theorem fl_wF {h : Hp} {a k : Nat} {v : Int} (b j : Nat) : fl (wF h a k v) b j = fl h b j := rfl
theorem C_isLetter {x : Int} (h1 : -128 ≤ x) (h2 : x ≤ 127) : F_tk_isLetter (J x) = some (J (if ltr x = true then 1 else 0)) := by
  unfold F_tk_isLetter ltr
  by_cases c : 97 ≤ x ∧ x ≤ 122
  · rw [decide_eq_true c, if_pos (show true = true from rfl)]
    try simp only [j_0, j_1, j_2, j_3, j_4, j_5, j_6, j_7, j_8, j_9, j_10, j_11, j_12, j_13, j_14, j_15, j_16, j_17, j_18, j_19, j_20, j_21, j_22, j_23, j_24, j_25, j_26, j_27, j_28, j_29, j_30, j_31, j_32, j_33, j_34, j_35, j_36, j_37, j_38, j_39, j_40, j_41, j_42, j_43, j_44, j_45, j_46, j_47, j_48, j_49, j_50, j_51, j_52, j_57, j_59, j_63, j_74, j_75, j_93, j_97, j_99, j_100, j_122, j_200, j_255, j_300, j_465, j_496, j_900, j_999, j_1000, j_65536, j_65537, j_99999, j_252645135, j_858993459, j_1431655765, k_0, k_1, k_27, k_32, k_74, k_75, k_100, k_1000, k_65537]
    simp (disch := first | with_reducible assumption | omega | trivial) only [↓bn_s1, ↓bd_s1, ↓ei_l1, ↓ei_r1, ↓bn_if, ↓ilt_1, ↓ilt_0, ↓ieq_1, ↓ieq_0, bn_s1, bd_s1, ei_l1, ei_r1, J_add, J_sub, J_mul, J_neg, J_lt, J_le, J_eq, dv_J, rm_J, if_pos, if_neg, ↓reduceIte, bitJ, shlJ, orJ, j_0, j_1, j_2, j_3, j_4, j_5, j_6, j_7, j_8, j_9, j_10, j_11, j_12, j_13, j_14, j_15, j_16, j_17, j_18, j_19, j_20, j_21, j_22, j_23, j_24, j_25, j_26, j_27, j_28, j_29, j_30, j_31, j_32, j_33, j_34, j_35, j_36, j_37, j_38, j_39, j_40, j_41, j_42, j_43, j_44, j_45, j_46, j_47, j_48, j_49, j_50, j_51, j_52, j_57, j_59, j_63, j_74, j_75, j_93, j_97, j_99, j_100, j_122, j_200, j_255, j_300, j_465, j_496, j_900, j_999, j_1000, j_65536, j_65537, j_99999, j_252645135, j_858993459, j_1431655765, k_0, k_1, k_27, k_32, k_74, k_75, k_100, k_1000, k_65537]
  · rw [decide_eq_false c, if_neg Bool.false_ne_true]
    by_cases d : x < 97
    · try simp only [j_0, j_1, j_2, j_3, j_4, j_5, j_6, j_7, j_8, j_9, j_10, j_11, j_12, j_13, j_14, j_15, j_16, j_17, j_18, j_19, j_20, j_21, j_22, j_23, j_24, j_25, j_26, j_27, j_28, j_29, j_30, j_31, j_32, j_33, j_34, j_35, j_36, j_37, j_38, j_39, j_40, j_41, j_42, j_43, j_44, j_45, j_46, j_47, j_48, j_49, j_50, j_51, j_52, j_57, j_59, j_63, j_74, j_75, j_93, j_97, j_99, j_100, j_122, j_200, j_255, j_300, j_465, j_496, j_900, j_999, j_1000, j_65536, j_65537, j_99999, j_252645135, j_858993459, j_1431655765, k_0, k_1, k_27, k_32, k_74, k_75, k_100, k_1000, k_65537]
      simp (disch := first | with_reducible assumption | omega | trivial) only [↓bn_s1, ↓bd_s1, ↓ei_l1, ↓ei_r1, ↓bn_if, ↓ilt_1, ↓ilt_0, ↓ieq_1, ↓ieq_0, bn_s1, bd_s1, ei_l1, ei_r1, J_add, J_sub, J_mul, J_neg, J_lt, J_le, J_eq, dv_J, rm_J, if_pos, if_neg, ↓reduceIte, bitJ, shlJ, orJ, j_0, j_1, j_2, j_3, j_4, j_5, j_6, j_7, j_8, j_9, j_10, j_11, j_12, j_13, j_14, j_15, j_16, j_17, j_18, j_19, j_20, j_21, j_22, j_23, j_24, j_25, j_26, j_27, j_28, j_29, j_30, j_31, j_32, j_33, j_34, j_35, j_36, j_37, j_38, j_39, j_40, j_41, j_42, j_43, j_44, j_45, j_46, j_47, j_48, j_49, j_50, j_51, j_52, j_57, j_59, j_63, j_74, j_75, j_93, j_97, j_99, j_100, j_122, j_200, j_255, j_300, j_465, j_496, j_900, j_999, j_1000, j_65536, j_65537, j_99999, j_252645135, j_858993459, j_1431655765, k_0, k_1, k_27, k_32, k_74, k_75, k_100, k_1000, k_65537]
    · try simp only [j_0, j_1, j_2, j_3, j_4, j_5, j_6, j_7, j_8, j_9, j_10, j_11, j_12, j_13, j_14, j_15, j_16, j_17, j_18, j_19, j_20, j_21, j_22, j_23, j_24, j_25, j_26, j_27, j_28, j_29, j_30, j_31, j_32, j_33, j_34, j_35, j_36, j_37, j_38, j_39, j_40, j_41, j_42, j_43, j_44, j_45, j_46, j_47, j_48, j_49, j_50, j_51, j_52, j_57, j_59, j_63, j_74, j_75, j_93, j_97, j_99, j_100, j_122, j_200, j_255, j_300, j_465, j_496, j_900, j_999, j_1000, j_65536, j_65537, j_99999, j_252645135, j_858993459, j_1431655765, k_0, k_1, k_27, k_32, k_74, k_75, k_100, k_1000, k_65537]
      simp (disch := first | with_reducible assumption | omega | trivial) only [↓bn_s1, ↓bd_s1, ↓ei_l1, ↓ei_r1, ↓bn_if, ↓ilt_1, ↓ilt_0, ↓ieq_1, ↓ieq_0, bn_s1, bd_s1, ei_l1, ei_r1, J_add, J_sub, J_mul, J_neg, J_lt, J_le, J_eq, dv_J, rm_J, if_pos, if_neg, ↓reduceIte, bitJ, shlJ, orJ, j_0, j_1, j_2, j_3, j_4, j_5, j_6, j_7, j_8, j_9, j_10, j_11, j_12, j_13, j_14, j_15, j_16, j_17, j_18, j_19, j_20, j_21, j_22, j_23, j_24, j_25, j_26, j_27, j_28, j_29, j_30, j_31, j_32, j_33, j_34, j_35, j_36, j_37, j_38, j_39, j_40, j_41, j_42, j_43, j_44, j_45, j_46, j_47, j_48, j_49, j_50, j_51, j_52, j_57, j_59, j_63, j_74, j_75, j_93, j_97, j_99, j_100, j_122, j_200, j_255, j_300, j_465, j_496, j_900, j_999, j_1000, j_65536, j_65537, j_99999, j_252645135, j_858993459, j_1431655765, k_0, k_1, k_27, k_32, k_74, k_75, k_100, k_1000, k_65537]
theorem C_isDigit {x : Int} (h1 : -128 ≤ x) (h2 : x ≤ 127) : F_tk_isDigit (J x) = some (J (if dgt x = true then 1 else 0)) := by
  unfold F_tk_isDigit dgt
  by_cases c : 48 ≤ x ∧ x ≤ 57
  · rw [decide_eq_true c, if_pos (show true = true from rfl)]
    try simp only [j_0, j_1, j_2, j_3, j_4, j_5, j_6, j_7, j_8, j_9, j_10, j_11, j_12, j_13, j_14, j_15, j_16, j_17, j_18, j_19, j_20, j_21, j_22, j_23, j_24, j_25, j_26, j_27, j_28, j_29, j_30, j_31, j_32, j_33, j_34, j_35, j_36, j_37, j_38, j_39, j_40, j_41, j_42, j_43, j_44, j_45, j_46, j_47, j_48, j_49, j_50, j_51, j_52, j_57, j_59, j_63, j_74, j_75, j_93, j_97, j_99, j_100, j_122, j_200, j_255, j_300, j_465, j_496, j_900, j_999, j_1000, j_65536, j_65537, j_99999, j_252645135, j_858993459, j_1431655765, k_0, k_1, k_27, k_32, k_74, k_75, k_100, k_1000, k_65537]
    simp (disch := first | with_reducible assumption | omega | trivial) only [↓bn_s1, ↓bd_s1, ↓ei_l1, ↓ei_r1, ↓bn_if, ↓ilt_1, ↓ilt_0, ↓ieq_1, ↓ieq_0, bn_s1, bd_s1, ei_l1, ei_r1, J_add, J_sub, J_mul, J_neg, J_lt, J_le, J_eq, dv_J, rm_J, if_pos, if_neg, ↓reduceIte, bitJ, shlJ, orJ, j_0, j_1, j_2, j_3, j_4, j_5, j_6, j_7, j_8, j_9, j_10, j_11, j_12, j_13, j_14, j_15, j_16, j_17, j_18, j_19, j_20, j_21, j_22, j_23, j_24, j_25, j_26, j_27, j_28, j_29, j_30, j_31, j_32, j_33, j_34, j_35, j_36, j_37, j_38, j_39, j_40, j_41, j_42, j_43, j_44, j_45, j_46, j_47, j_48, j_49, j_50, j_51, j_52, j_57, j_59, j_63, j_74, j_75, j_93, j_97, j_99, j_100, j_122, j_200, j_255, j_300, j_465, j_496, j_900, j_999, j_1000, j_65536, j_65537, j_99999, j_252645135, j_858993459, j_1431655765, k_0, k_1, k_27, k_32, k_74, k_75, k_100, k_1000, k_65537]
  · rw [decide_eq_false c, if_neg Bool.false_ne_true]
    by_cases d : x < 48
    · try simp only [j_0, j_1, j_2, j_3, j_4, j_5, j_6, j_7, j_8, j_9, j_10, j_11, j_12, j_13, j_14, j_15, j_16, j_17, j_18, j_19, j_20, j_21, j_22, j_23, j_24, j_25, j_26, j_27, j_28, j_29, j_30, j_31, j_32, j_33, j_34, j_35, j_36, j_37, j_38, j_39, j_40, j_41, j_42, j_43, j_44, j_45, j_46, j_47, j_48, j_49, j_50, j_51, j_52, j_57, j_59, j_63, j_74, j_75, j_93, j_97, j_99, j_100, j_122, j_200, j_255, j_300, j_465, j_496, j_900, j_999, j_1000, j_65536, j_65537, j_99999, j_252645135, j_858993459, j_1431655765, k_0, k_1, k_27, k_32, k_74, k_75, k_100, k_1000, k_65537]
      simp (disch := first | with_reducible assumption | omega | trivial) only [↓bn_s1, ↓bd_s1, ↓ei_l1, ↓ei_r1, ↓bn_if, ↓ilt_1, ↓ilt_0, ↓ieq_1, ↓ieq_0, bn_s1, bd_s1, ei_l1, ei_r1, J_add, J_sub, J_mul, J_neg, J_lt, J_le, J_eq, dv_J, rm_J, if_pos, if_neg, ↓reduceIte, bitJ, shlJ, orJ, j_0, j_1, j_2, j_3, j_4, j_5, j_6, j_7, j_8, j_9, j_10, j_11, j_12, j_13, j_14, j_15, j_16, j_17, j_18, j_19, j_20, j_21, j_22, j_23, j_24, j_25, j_26, j_27, j_28, j_29, j_30, j_31, j_32, j_33, j_34, j_35, j_36, j_37, j_38, j_39, j_40, j_41, j_42, j_43, j_44, j_45, j_46, j_47, j_48, j_49, j_50, j_51, j_52, j_57, j_59, j_63, j_74, j_75, j_93, j_97, j_99, j_100, j_122, j_200, j_255, j_300, j_465, j_496, j_900, j_999, j_1000, j_65536, j_65537, j_99999, j_252645135, j_858993459, j_1431655765, k_0, k_1, k_27, k_32, k_74, k_75, k_100, k_1000, k_65537]
    · try simp only [j_0, j_1, j_2, j_3, j_4, j_5, j_6, j_7, j_8, j_9, j_10, j_11, j_12, j_13, j_14, j_15, j_16, j_17, j_18, j_19, j_20, j_21, j_22, j_23, j_24, j_25, j_26, j_27, j_28, j_29, j_30, j_31, j_32, j_33, j_34, j_35, j_36, j_37, j_38, j_39, j_40, j_41, j_42, j_43, j_44, j_45, j_46, j_47, j_48, j_49, j_50, j_51, j_52, j_57, j_59, j_63, j_74, j_75, j_93, j_97, j_99, j_100, j_122, j_200, j_255, j_300, j_465, j_496, j_900, j_999, j_1000, j_65536, j_65537, j_99999, j_252645135, j_858993459, j_1431655765, k_0, k_1, k_27, k_32, k_74, k_75, k_100, k_1000, k_65537]
      simp (disch := first | with_reducible assumption | omega | trivial) only [↓bn_s1, ↓bd_s1, ↓ei_l1, ↓ei_r1, ↓bn_if, ↓ilt_1, ↓ilt_0, ↓ieq_1, ↓ieq_0, bn_s1, bd_s1, ei_l1, ei_r1, J_add, J_sub, J_mul, J_neg, J_lt, J_le, J_eq, dv_J, rm_J, if_pos, if_neg, ↓reduceIte, bitJ, shlJ, orJ, j_0, j_1, j_2, j_3, j_4, j_5, j_6, j_7, j_8, j_9, j_10, j_11, j_12, j_13, j_14, j_15, j_16, j_17, j_18, j_19, j_20, j_21, j_22, j_23, j_24, j_25, j_26, j_27, j_28, j_29, j_30, j_31, j_32, j_33, j_34, j_35, j_36, j_37, j_38, j_39, j_40, j_41, j_42, j_43, j_44, j_45, j_46, j_47, j_48, j_49, j_50, j_51, j_52, j_57, j_59, j_63, j_74, j_75, j_93, j_97, j_99, j_100, j_122, j_200, j_255, j_300, j_465, j_496, j_900, j_999, j_1000, j_65536, j_65537, j_99999, j_252645135, j_858993459, j_1431655765, k_0, k_1, k_27, k_32, k_74, k_75, k_100, k_1000, k_65537]
/-- the text lies on the tape -/
def TX (T : Int → Int) (n : Nat) (h : Hp) : Prop := n ≤ 1000 ∧ (∀ i, -128 ≤ T i ∧ T i ≤ 127) ∧ ∀ i : Int, 0 ≤ i → i < n → ia h 1 i = T i
theorem TX_fm {T : Int → Int} {n lo hi : Nat} {h h' : Hp} (x : Fm lo hi h h') (hd : 2 ≤ lo) (H : TX T n h) : TX T n h' := ⟨H.1, H.2.1, fun i i0 i1 => by rw [fm_ia x (by omega)]; exact H.2.2 i i0 i1⟩
theorem C_adv8 {T : Int → Int} {n p : Nat} {h : Hp} (Q : TK h) (X : TX T n h) (hn : fi h 3 1 = n) (hp : p ≤ n) (ha : fi h 3 3 = p) : ∃ h', lp (B_tk_advance_8 3) FU () h = some ((), h') ∧ Fm 3 4 h h' ∧ fi h' 3 3 = (spn T n p : Nat) ∧ fi h' 3 1 = n := by
  obtain ⟨m1, m2, m3⟩ := run1_p isp T n p
  have n0 := X.1
  obtain ⟨y, h1, e1, q1⟩ := lp_for (b := B_tk_advance_8 3) (f := FU) (s := ()) (h := h) (fun i s h' => Fm 3 4 h h' ∧ fi h' 3 3 = ((p + i : Nat) : Int) ∧ fi h' 3 1 = n) (fun _ h' => Fm 3 4 h h' ∧ fi h' 3 3 = (spn T n p : Nat) ∧ fi h' 3 1 = n) (run1 isp T n p) (by unfold FU; omega) ⟨fm_rf _ _ _, ha, hn⟩ (fun i s h1 hi hI => by
      obtain ⟨f1, a1, n1⟩ := hI
      have Q1 := TK_fm f1 Q
      have v := (TX_fm f1 (by omega) X).2.2 ((p + i : Nat) : Int) (by omega) (by omega)
      have z : T ((p + i : Nat) : Int) = 32 := of_decide_eq_true (m2 i hi)
      rw [z] at v
      have b := X.2.1 ((p + i : Nat) : Int)
      refine ⟨(), wF h1 3 3 (((p + i : Nat) : Int) + 1), ?_, fm_tr f1 (fm_wF (by omega) (by omega)), ?_, by rw [fi_ne (by omega)]; exact n1⟩
      · unfold B_tk_advance_8
        try simp only [j_0, j_1, j_2, j_3, j_4, j_5, j_6, j_7, j_8, j_9, j_10, j_11, j_12, j_13, j_14, j_15, j_16, j_17, j_18, j_19, j_20, j_21, j_22, j_23, j_24, j_25, j_26, j_27, j_28, j_29, j_30, j_31, j_32, j_33, j_34, j_35, j_36, j_37, j_38, j_39, j_40, j_41, j_42, j_43, j_44, j_45, j_46, j_47, j_48, j_49, j_50, j_51, j_52, j_57, j_59, j_63, j_74, j_75, j_93, j_97, j_99, j_100, j_122, j_200, j_255, j_300, j_465, j_496, j_900, j_999, j_1000, j_65536, j_65537, j_99999, j_252645135, j_858993459, j_1431655765, k_0, k_1, k_27, k_32, k_74, k_75, k_100, k_1000, k_65537]
        simp (disch := first | with_reducible assumption | omega | trivial) only [↓bn_s1, ↓bd_s1, ↓ei_l1, ↓ei_r1, ↓bn_if, ↓ilt_1, ↓ilt_0, ↓ieq_1, ↓ieq_0, bn_s1, bd_s1, ei_l1, ei_r1, J_add, J_sub, J_mul, J_neg, J_lt, J_le, J_eq, dv_J, rm_J, if_pos, if_neg, ↓reduceIte, bitJ, shlJ, orJ, j_0, j_1, j_2, j_3, j_4, j_5, j_6, j_7, j_8, j_9, j_10, j_11, j_12, j_13, j_14, j_15, j_16, j_17, j_18, j_19, j_20, j_21, j_22, j_23, j_24, j_25, j_26, j_27, j_28, j_29, j_30, j_31, j_32, j_33, j_34, j_35, j_36, j_37, j_38, j_39, j_40, j_41, j_42, j_43, j_44, j_45, j_46, j_47, j_48, j_49, j_50, j_51, j_52, j_57, j_59, j_63, j_74, j_75, j_93, j_97, j_99, j_100, j_122, j_200, j_255, j_300, j_465, j_496, j_900, j_999, j_1000, j_65536, j_65537, j_99999, j_252645135, j_858993459, j_1431655765, k_0, k_1, k_27, k_32, k_74, k_75, k_100, k_1000, k_65537, tk_i Q1, ↓tk_i_b Q1, tk_p Q1, ↓tk_p_b Q1, tk_r Q1, ↓tk_r_b Q1, tk_l Q1, ↓tk_l_b Q1, tk_pl Q1, ↓tk_pl_b Q1, tk_a Q1, ↓tk_a_b Q1, a1, n1, v]
      · rw [fi_same (by omega) (by omega)]; omega) (fun s h1 hI => by
      obtain ⟨f1, a1, n1⟩ := hI
      have Q1 := TK_fm f1 Q
      refine ⟨(), h1, ?_, f1, a1, n1⟩
      unfold B_tk_advance_8
      by_cases c : run1 isp T n p < n - p
      · have v := (TX_fm f1 (by omega) X).2.2 ((p + run1 isp T n p : Nat) : Int) (by omega) (by omega)
        have z : ¬ T ((p + run1 isp T n p : Nat) : Int) = 32 := of_decide_eq_false (m3 c)
        have b := X.2.1 ((p + run1 isp T n p : Nat) : Int)
        try simp only [j_0, j_1, j_2, j_3, j_4, j_5, j_6, j_7, j_8, j_9, j_10, j_11, j_12, j_13, j_14, j_15, j_16, j_17, j_18, j_19, j_20, j_21, j_22, j_23, j_24, j_25, j_26, j_27, j_28, j_29, j_30, j_31, j_32, j_33, j_34, j_35, j_36, j_37, j_38, j_39, j_40, j_41, j_42, j_43, j_44, j_45, j_46, j_47, j_48, j_49, j_50, j_51, j_52, j_57, j_59, j_63, j_74, j_75, j_93, j_97, j_99, j_100, j_122, j_200, j_255, j_300, j_465, j_496, j_900, j_999, j_1000, j_65536, j_65537, j_99999, j_252645135, j_858993459, j_1431655765, k_0, k_1, k_27, k_32, k_74, k_75, k_100, k_1000, k_65537]
        simp (disch := first | with_reducible assumption | omega | trivial) only [↓bn_s1, ↓bd_s1, ↓ei_l1, ↓ei_r1, ↓bn_if, ↓ilt_1, ↓ilt_0, ↓ieq_1, ↓ieq_0, bn_s1, bd_s1, ei_l1, ei_r1, J_add, J_sub, J_mul, J_neg, J_lt, J_le, J_eq, dv_J, rm_J, if_pos, if_neg, ↓reduceIte, bitJ, shlJ, orJ, j_0, j_1, j_2, j_3, j_4, j_5, j_6, j_7, j_8, j_9, j_10, j_11, j_12, j_13, j_14, j_15, j_16, j_17, j_18, j_19, j_20, j_21, j_22, j_23, j_24, j_25, j_26, j_27, j_28, j_29, j_30, j_31, j_32, j_33, j_34, j_35, j_36, j_37, j_38, j_39, j_40, j_41, j_42, j_43, j_44, j_45, j_46, j_47, j_48, j_49, j_50, j_51, j_52, j_57, j_59, j_63, j_74, j_75, j_93, j_97, j_99, j_100, j_122, j_200, j_255, j_300, j_465, j_496, j_900, j_999, j_1000, j_65536, j_65537, j_99999, j_252645135, j_858993459, j_1431655765, k_0, k_1, k_27, k_32, k_74, k_75, k_100, k_1000, k_65537, tk_i Q1, ↓tk_i_b Q1, tk_p Q1, ↓tk_p_b Q1, tk_r Q1, ↓tk_r_b Q1, tk_l Q1, ↓tk_l_b Q1, tk_pl Q1, ↓tk_pl_b Q1, tk_a Q1, ↓tk_a_b Q1, a1, n1, v]
      · try simp only [j_0, j_1, j_2, j_3, j_4, j_5, j_6, j_7, j_8, j_9, j_10, j_11, j_12, j_13, j_14, j_15, j_16, j_17, j_18, j_19, j_20, j_21, j_22, j_23, j_24, j_25, j_26, j_27, j_28, j_29, j_30, j_31, j_32, j_33, j_34, j_35, j_36, j_37, j_38, j_39, j_40, j_41, j_42, j_43, j_44, j_45, j_46, j_47, j_48, j_49, j_50, j_51, j_52, j_57, j_59, j_63, j_74, j_75, j_93, j_97, j_99, j_100, j_122, j_200, j_255, j_300, j_465, j_496, j_900, j_999, j_1000, j_65536, j_65537, j_99999, j_252645135, j_858993459, j_1431655765, k_0, k_1, k_27, k_32, k_74, k_75, k_100, k_1000, k_65537]
        simp (disch := first | with_reducible assumption | omega | trivial) only [↓bn_s1, ↓bd_s1, ↓ei_l1, ↓ei_r1, ↓bn_if, ↓ilt_1, ↓ilt_0, ↓ieq_1, ↓ieq_0, bn_s1, bd_s1, ei_l1, ei_r1, J_add, J_sub, J_mul, J_neg, J_lt, J_le, J_eq, dv_J, rm_J, if_pos, if_neg, ↓reduceIte, bitJ, shlJ, orJ, j_0, j_1, j_2, j_3, j_4, j_5, j_6, j_7, j_8, j_9, j_10, j_11, j_12, j_13, j_14, j_15, j_16, j_17, j_18, j_19, j_20, j_21, j_22, j_23, j_24, j_25, j_26, j_27, j_28, j_29, j_30, j_31, j_32, j_33, j_34, j_35, j_36, j_37, j_38, j_39, j_40, j_41, j_42, j_43, j_44, j_45, j_46, j_47, j_48, j_49, j_50, j_51, j_52, j_57, j_59, j_63, j_74, j_75, j_93, j_97, j_99, j_100, j_122, j_200, j_255, j_300, j_465, j_496, j_900, j_999, j_1000, j_65536, j_65537, j_99999, j_252645135, j_858993459, j_1431655765, k_0, k_1, k_27, k_32, k_74, k_75, k_100, k_1000, k_65537, tk_i Q1, ↓tk_i_b Q1, tk_p Q1, ↓tk_p_b Q1, tk_r Q1, ↓tk_r_b Q1, tk_l Q1, ↓tk_l_b Q1, tk_pl Q1, ↓tk_pl_b Q1, tk_a Q1, ↓tk_a_b Q1, a1, n1])
  exact ⟨h1, e1, q1⟩
theorem C_adv59 {T : Int → Int} {n p : Nat} {h : Hp} (Q : TK h) (X : TX T n h) (hn : fi h 3 1 = n) (hp : p ≤ n) (ha : fi h 3 2 = p) (hl : K (fl h 3 6) = K 0) : ∃ h', lp (B_tk_advance_59 3) FU () h = some ((), h') ∧ Fm 3 4 h h' ∧ fi h' 3 2 = ((p + run1 ltr T n p : Nat) : Int) ∧ fi h' 3 1 = n ∧ fi h' 3 3 = fi h 3 3 ∧ K (fl h' 3 6) = K (k27 T p (run1 ltr T n p)) := by
  obtain ⟨m1, m2, m3⟩ := run1_p ltr T n p
  have n0 := X.1
  obtain ⟨y, h1, e1, q1⟩ := lp_for (b := B_tk_advance_59 3) (f := FU) (s := ()) (h := h) (fun i s h' => Fm 3 4 h h' ∧ fi h' 3 2 = ((p + i : Nat) : Int) ∧ fi h' 3 1 = n ∧ fi h' 3 3 = fi h 3 3 ∧ K (fl h' 3 6) = K (k27 T p i)) (fun _ h' => Fm 3 4 h h' ∧ fi h' 3 2 = ((p + run1 ltr T n p : Nat) : Int) ∧ fi h' 3 1 = n ∧ fi h' 3 3 = fi h 3 3 ∧ K (fl h' 3 6) = K (k27 T p (run1 ltr T n p))) (run1 ltr T n p) (by unfold FU; omega) ⟨fm_rf _ _ _, ha, hn, rfl, hl⟩ (fun i s h1 hi hI => by
      obtain ⟨f1, a1, n1, t1, l1⟩ := hI
      have Q1 := TK_fm f1 Q
      have v := (TX_fm f1 (by omega) X).2.2 ((p + i : Nat) : Int) (by omega) (by omega)
      have b := X.2.1 ((p + i : Nat) : Int)
      have il := C_isLetter b.1 b.2
      rw [if_pos (m2 i hi)] at il
      obtain ⟨h2, e2⟩ : ∃ h2, h2 = wG h1 3 6 (k27 T p (i + 1)) := ⟨_, rfl⟩
      have f2 : Fm 3 4 h1 h2 := by rw [e2]; exact fm_wG (by omega) (by omega)
      have Q2 := TK_fm f2 Q1
      have a2 : fi h2 3 2 = ((p + i : Nat) : Int) := by rw [e2]; exact a1
      have ek : k27 T p i * 27 + (T ((p + i : Nat) : Int) - 97 + 1) = k27 T p (i + 1) := rfl
      refine ⟨(), wF h2 3 2 (((p + i : Nat) : Int) + 1), ?_, fm_tr f1 (fm_tr f2 (fm_wF (by omega) (by omega))), ?_, ?_, ?_, ?_⟩
      · unfold B_tk_advance_59
        try simp only [j_0, j_1, j_2, j_3, j_4, j_5, j_6, j_7, j_8, j_9, j_10, j_11, j_12, j_13, j_14, j_15, j_16, j_17, j_18, j_19, j_20, j_21, j_22, j_23, j_24, j_25, j_26, j_27, j_28, j_29, j_30, j_31, j_32, j_33, j_34, j_35, j_36, j_37, j_38, j_39, j_40, j_41, j_42, j_43, j_44, j_45, j_46, j_47, j_48, j_49, j_50, j_51, j_52, j_57, j_59, j_63, j_74, j_75, j_93, j_97, j_99, j_100, j_122, j_200, j_255, j_300, j_465, j_496, j_900, j_999, j_1000, j_65536, j_65537, j_99999, j_252645135, j_858993459, j_1431655765, k_0, k_1, k_27, k_32, k_74, k_75, k_100, k_1000, k_65537]
        simp (disch := first | with_reducible assumption | omega | trivial) only [↓bn_s1, ↓bd_s1, ↓ei_l1, ↓ei_r1, ↓bn_if, ↓ilt_1, ↓ilt_0, ↓ieq_1, ↓ieq_0, bn_s1, bd_s1, ei_l1, ei_r1, J_add, J_sub, J_mul, J_neg, J_lt, J_le, J_eq, dv_J, rm_J, if_pos, if_neg, ↓reduceIte, bitJ, shlJ, orJ, j_0, j_1, j_2, j_3, j_4, j_5, j_6, j_7, j_8, j_9, j_10, j_11, j_12, j_13, j_14, j_15, j_16, j_17, j_18, j_19, j_20, j_21, j_22, j_23, j_24, j_25, j_26, j_27, j_28, j_29, j_30, j_31, j_32, j_33, j_34, j_35, j_36, j_37, j_38, j_39, j_40, j_41, j_42, j_43, j_44, j_45, j_46, j_47, j_48, j_49, j_50, j_51, j_52, j_57, j_59, j_63, j_74, j_75, j_93, j_97, j_99, j_100, j_122, j_200, j_255, j_300, j_465, j_496, j_900, j_999, j_1000, j_65536, j_65537, j_99999, j_252645135, j_858993459, j_1431655765, k_0, k_1, k_27, k_32, k_74, k_75, k_100, k_1000, k_65537, tk_i Q1, ↓tk_i_b Q1, tk_p Q1, ↓tk_p_b Q1, tk_r Q1, ↓tk_r_b Q1, tk_l Q1, ↓tk_l_b Q1, tk_pl Q1, ↓tk_pl_b Q1, tk_a Q1, ↓tk_a_b Q1, a1, n1, v, ↓bn_e (il), il, l1, K_mul, J_long, K_add, ek, ← e2, tk_i Q2, ↓tk_i_b Q2, tk_p Q2, ↓tk_p_b Q2, tk_r Q2, ↓tk_r_b Q2, tk_l Q2, ↓tk_l_b Q2, tk_pl Q2, ↓tk_pl_b Q2, tk_a Q2, ↓tk_a_b Q2, a2]
      · rw [fi_same (by omega) (by omega)]; omega
      · rw [fi_ne (by omega), e2]; exact n1
      · rw [fi_ne (by omega), e2]; exact t1
      · rw [fl_wF, e2]; exact K_wG) (fun s h1 hI => by
      obtain ⟨f1, a1, n1, t1, l1⟩ := hI
      have Q1 := TK_fm f1 Q
      refine ⟨(), h1, ?_, f1, a1, n1, t1, l1⟩
      unfold B_tk_advance_59
      by_cases c : run1 ltr T n p < n - p
      · have v := (TX_fm f1 (by omega) X).2.2 ((p + run1 ltr T n p : Nat) : Int) (by omega) (by omega)
        have b := X.2.1 ((p + run1 ltr T n p : Nat) : Int)
        have il := C_isLetter b.1 b.2
        rw [m3 c, if_neg Bool.false_ne_true] at il
        try simp only [j_0, j_1, j_2, j_3, j_4, j_5, j_6, j_7, j_8, j_9, j_10, j_11, j_12, j_13, j_14, j_15, j_16, j_17, j_18, j_19, j_20, j_21, j_22, j_23, j_24, j_25, j_26, j_27, j_28, j_29, j_30, j_31, j_32, j_33, j_34, j_35, j_36, j_37, j_38, j_39, j_40, j_41, j_42, j_43, j_44, j_45, j_46, j_47, j_48, j_49, j_50, j_51, j_52, j_57, j_59, j_63, j_74, j_75, j_93, j_97, j_99, j_100, j_122, j_200, j_255, j_300, j_465, j_496, j_900, j_999, j_1000, j_65536, j_65537, j_99999, j_252645135, j_858993459, j_1431655765, k_0, k_1, k_27, k_32, k_74, k_75, k_100, k_1000, k_65537]
        simp (disch := first | with_reducible assumption | omega | trivial) only [↓bn_s1, ↓bd_s1, ↓ei_l1, ↓ei_r1, ↓bn_if, ↓ilt_1, ↓ilt_0, ↓ieq_1, ↓ieq_0, bn_s1, bd_s1, ei_l1, ei_r1, J_add, J_sub, J_mul, J_neg, J_lt, J_le, J_eq, dv_J, rm_J, if_pos, if_neg, ↓reduceIte, bitJ, shlJ, orJ, j_0, j_1, j_2, j_3, j_4, j_5, j_6, j_7, j_8, j_9, j_10, j_11, j_12, j_13, j_14, j_15, j_16, j_17, j_18, j_19, j_20, j_21, j_22, j_23, j_24, j_25, j_26, j_27, j_28, j_29, j_30, j_31, j_32, j_33, j_34, j_35, j_36, j_37, j_38, j_39, j_40, j_41, j_42, j_43, j_44, j_45, j_46, j_47, j_48, j_49, j_50, j_51, j_52, j_57, j_59, j_63, j_74, j_75, j_93, j_97, j_99, j_100, j_122, j_200, j_255, j_300, j_465, j_496, j_900, j_999, j_1000, j_65536, j_65537, j_99999, j_252645135, j_858993459, j_1431655765, k_0, k_1, k_27, k_32, k_74, k_75, k_100, k_1000, k_65537, tk_i Q1, ↓tk_i_b Q1, tk_p Q1, ↓tk_p_b Q1, tk_r Q1, ↓tk_r_b Q1, tk_l Q1, ↓tk_l_b Q1, tk_pl Q1, ↓tk_pl_b Q1, tk_a Q1, ↓tk_a_b Q1, a1, n1, v, ↓bn_e (il), il]
      · try simp only [j_0, j_1, j_2, j_3, j_4, j_5, j_6, j_7, j_8, j_9, j_10, j_11, j_12, j_13, j_14, j_15, j_16, j_17, j_18, j_19, j_20, j_21, j_22, j_23, j_24, j_25, j_26, j_27, j_28, j_29, j_30, j_31, j_32, j_33, j_34, j_35, j_36, j_37, j_38, j_39, j_40, j_41, j_42, j_43, j_44, j_45, j_46, j_47, j_48, j_49, j_50, j_51, j_52, j_57, j_59, j_63, j_74, j_75, j_93, j_97, j_99, j_100, j_122, j_200, j_255, j_300, j_465, j_496, j_900, j_999, j_1000, j_65536, j_65537, j_99999, j_252645135, j_858993459, j_1431655765, k_0, k_1, k_27, k_32, k_74, k_75, k_100, k_1000, k_65537]
        simp (disch := first | with_reducible assumption | omega | trivial) only [↓bn_s1, ↓bd_s1, ↓ei_l1, ↓ei_r1, ↓bn_if, ↓ilt_1, ↓ilt_0, ↓ieq_1, ↓ieq_0, bn_s1, bd_s1, ei_l1, ei_r1, J_add, J_sub, J_mul, J_neg, J_lt, J_le, J_eq, dv_J, rm_J, if_pos, if_neg, ↓reduceIte, bitJ, shlJ, orJ, j_0, j_1, j_2, j_3, j_4, j_5, j_6, j_7, j_8, j_9, j_10, j_11, j_12, j_13, j_14, j_15, j_16, j_17, j_18, j_19, j_20, j_21, j_22, j_23, j_24, j_25, j_26, j_27, j_28, j_29, j_30, j_31, j_32, j_33, j_34, j_35, j_36, j_37, j_38, j_39, j_40, j_41, j_42, j_43, j_44, j_45, j_46, j_47, j_48, j_49, j_50, j_51, j_52, j_57, j_59, j_63, j_74, j_75, j_93, j_97, j_99, j_100, j_122, j_200, j_255, j_300, j_465, j_496, j_900, j_999, j_1000, j_65536, j_65537, j_99999, j_252645135, j_858993459, j_1431655765, k_0, k_1, k_27, k_32, k_74, k_75, k_100, k_1000, k_65537, tk_i Q1, ↓tk_i_b Q1, tk_p Q1, ↓tk_p_b Q1, tk_r Q1, ↓tk_r_b Q1, tk_l Q1, ↓tk_l_b Q1, tk_pl Q1, ↓tk_pl_b Q1, tk_a Q1, ↓tk_a_b Q1, a1, n1])
  exact ⟨h1, e1, q1⟩
theorem C_adv166 {T : Int → Int} {n p : Nat} {h : Hp} (Q : TK h) (X : TX T n h) (hn : fi h 3 1 = n) (hp : p ≤ n) (ha : fi h 3 2 = p) (hl : J (fi h 3 5) = J 0) : ∃ h', lp (B_tk_advance_166 3) FU () h = some ((), h') ∧ Fm 3 4 h h' ∧ fi h' 3 2 = ((p + run1 dgt T n p : Nat) : Int) ∧ fi h' 3 1 = n ∧ fi h' 3 3 = fi h 3 3 ∧ J (fi h' 3 5) = J (k10 T p (run1 dgt T n p)) := by
  obtain ⟨m1, m2, m3⟩ := run1_p dgt T n p
  have n0 := X.1
  obtain ⟨y, h1, e1, q1⟩ := lp_for (b := B_tk_advance_166 3) (f := FU) (s := ()) (h := h) (fun i s h' => Fm 3 4 h h' ∧ fi h' 3 2 = ((p + i : Nat) : Int) ∧ fi h' 3 1 = n ∧ fi h' 3 3 = fi h 3 3 ∧ J (fi h' 3 5) = J (k10 T p i)) (fun _ h' => Fm 3 4 h h' ∧ fi h' 3 2 = ((p + run1 dgt T n p : Nat) : Int) ∧ fi h' 3 1 = n ∧ fi h' 3 3 = fi h 3 3 ∧ J (fi h' 3 5) = J (k10 T p (run1 dgt T n p))) (run1 dgt T n p) (by unfold FU; omega) ⟨fm_rf _ _ _, ha, hn, rfl, hl⟩ (fun i s h1 hi hI => by
      obtain ⟨f1, a1, n1, t1, l1⟩ := hI
      have Q1 := TK_fm f1 Q
      have v := (TX_fm f1 (by omega) X).2.2 ((p + i : Nat) : Int) (by omega) (by omega)
      have b := X.2.1 ((p + i : Nat) : Int)
      have il := C_isDigit b.1 b.2
      rw [if_pos (m2 i hi)] at il
      obtain ⟨h2, e2⟩ : ∃ h2, h2 = wF h1 3 5 (k10 T p (i + 1)) := ⟨_, rfl⟩
      have f2 : Fm 3 4 h1 h2 := by rw [e2]; exact fm_wF (by omega) (by omega)
      have Q2 := TK_fm f2 Q1
      have a2 : fi h2 3 2 = ((p + i : Nat) : Int) := by rw [e2, fi_ne (by omega)]; exact a1
      have ek : k10 T p i * 10 + (T ((p + i : Nat) : Int) - 48) = k10 T p (i + 1) := rfl
      refine ⟨(), wF h2 3 2 (((p + i : Nat) : Int) + 1), ?_, fm_tr f1 (fm_tr f2 (fm_wF (by omega) (by omega))), ?_, ?_, ?_, ?_⟩
      · unfold B_tk_advance_166
        try simp only [j_0, j_1, j_2, j_3, j_4, j_5, j_6, j_7, j_8, j_9, j_10, j_11, j_12, j_13, j_14, j_15, j_16, j_17, j_18, j_19, j_20, j_21, j_22, j_23, j_24, j_25, j_26, j_27, j_28, j_29, j_30, j_31, j_32, j_33, j_34, j_35, j_36, j_37, j_38, j_39, j_40, j_41, j_42, j_43, j_44, j_45, j_46, j_47, j_48, j_49, j_50, j_51, j_52, j_57, j_59, j_63, j_74, j_75, j_93, j_97, j_99, j_100, j_122, j_200, j_255, j_300, j_465, j_496, j_900, j_999, j_1000, j_65536, j_65537, j_99999, j_252645135, j_858993459, j_1431655765, k_0, k_1, k_27, k_32, k_74, k_75, k_100, k_1000, k_65537]
        simp (disch := first | with_reducible assumption | omega | trivial) only [↓bn_s1, ↓bd_s1, ↓ei_l1, ↓ei_r1, ↓bn_if, ↓ilt_1, ↓ilt_0, ↓ieq_1, ↓ieq_0, bn_s1, bd_s1, ei_l1, ei_r1, J_add, J_sub, J_mul, J_neg, J_lt, J_le, J_eq, dv_J, rm_J, if_pos, if_neg, ↓reduceIte, bitJ, shlJ, orJ, j_0, j_1, j_2, j_3, j_4, j_5, j_6, j_7, j_8, j_9, j_10, j_11, j_12, j_13, j_14, j_15, j_16, j_17, j_18, j_19, j_20, j_21, j_22, j_23, j_24, j_25, j_26, j_27, j_28, j_29, j_30, j_31, j_32, j_33, j_34, j_35, j_36, j_37, j_38, j_39, j_40, j_41, j_42, j_43, j_44, j_45, j_46, j_47, j_48, j_49, j_50, j_51, j_52, j_57, j_59, j_63, j_74, j_75, j_93, j_97, j_99, j_100, j_122, j_200, j_255, j_300, j_465, j_496, j_900, j_999, j_1000, j_65536, j_65537, j_99999, j_252645135, j_858993459, j_1431655765, k_0, k_1, k_27, k_32, k_74, k_75, k_100, k_1000, k_65537, tk_i Q1, ↓tk_i_b Q1, tk_p Q1, ↓tk_p_b Q1, tk_r Q1, ↓tk_r_b Q1, tk_l Q1, ↓tk_l_b Q1, tk_pl Q1, ↓tk_pl_b Q1, tk_a Q1, ↓tk_a_b Q1, a1, n1, v, ↓bn_e (il), il, l1, ek, ← e2, tk_i Q2, ↓tk_i_b Q2, tk_p Q2, ↓tk_p_b Q2, tk_r Q2, ↓tk_r_b Q2, tk_l Q2, ↓tk_l_b Q2, tk_pl Q2, ↓tk_pl_b Q2, tk_a Q2, ↓tk_a_b Q2, a2]
      · rw [fi_same (by omega) (by omega)]; omega
      · rw [fi_ne (by omega), e2, fi_ne (by omega)]; exact n1
      · rw [fi_ne (by omega), e2, fi_ne (by omega)]; exact t1
      · rw [fi_ne (by omega), e2]; exact J_wF) (fun s h1 hI => by
      obtain ⟨f1, a1, n1, t1, l1⟩ := hI
      have Q1 := TK_fm f1 Q
      refine ⟨(), h1, ?_, f1, a1, n1, t1, l1⟩
      unfold B_tk_advance_166
      by_cases c : run1 dgt T n p < n - p
      · have v := (TX_fm f1 (by omega) X).2.2 ((p + run1 dgt T n p : Nat) : Int) (by omega) (by omega)
        have b := X.2.1 ((p + run1 dgt T n p : Nat) : Int)
        have il := C_isDigit b.1 b.2
        rw [m3 c, if_neg Bool.false_ne_true] at il
        try simp only [j_0, j_1, j_2, j_3, j_4, j_5, j_6, j_7, j_8, j_9, j_10, j_11, j_12, j_13, j_14, j_15, j_16, j_17, j_18, j_19, j_20, j_21, j_22, j_23, j_24, j_25, j_26, j_27, j_28, j_29, j_30, j_31, j_32, j_33, j_34, j_35, j_36, j_37, j_38, j_39, j_40, j_41, j_42, j_43, j_44, j_45, j_46, j_47, j_48, j_49, j_50, j_51, j_52, j_57, j_59, j_63, j_74, j_75, j_93, j_97, j_99, j_100, j_122, j_200, j_255, j_300, j_465, j_496, j_900, j_999, j_1000, j_65536, j_65537, j_99999, j_252645135, j_858993459, j_1431655765, k_0, k_1, k_27, k_32, k_74, k_75, k_100, k_1000, k_65537]
        simp (disch := first | with_reducible assumption | omega | trivial) only [↓bn_s1, ↓bd_s1, ↓ei_l1, ↓ei_r1, ↓bn_if, ↓ilt_1, ↓ilt_0, ↓ieq_1, ↓ieq_0, bn_s1, bd_s1, ei_l1, ei_r1, J_add, J_sub, J_mul, J_neg, J_lt, J_le, J_eq, dv_J, rm_J, if_pos, if_neg, ↓reduceIte, bitJ, shlJ, orJ, j_0, j_1, j_2, j_3, j_4, j_5, j_6, j_7, j_8, j_9, j_10, j_11, j_12, j_13, j_14, j_15, j_16, j_17, j_18, j_19, j_20, j_21, j_22, j_23, j_24, j_25, j_26, j_27, j_28, j_29, j_30, j_31, j_32, j_33, j_34, j_35, j_36, j_37, j_38, j_39, j_40, j_41, j_42, j_43, j_44, j_45, j_46, j_47, j_48, j_49, j_50, j_51, j_52, j_57, j_59, j_63, j_74, j_75, j_93, j_97, j_99, j_100, j_122, j_200, j_255, j_300, j_465, j_496, j_900, j_999, j_1000, j_65536, j_65537, j_99999, j_252645135, j_858993459, j_1431655765, k_0, k_1, k_27, k_32, k_74, k_75, k_100, k_1000, k_65537, tk_i Q1, ↓tk_i_b Q1, tk_p Q1, ↓tk_p_b Q1, tk_r Q1, ↓tk_r_b Q1, tk_l Q1, ↓tk_l_b Q1, tk_pl Q1, ↓tk_pl_b Q1, tk_a Q1, ↓tk_a_b Q1, a1, n1, v, ↓bn_e (il), il]
      · try simp only [j_0, j_1, j_2, j_3, j_4, j_5, j_6, j_7, j_8, j_9, j_10, j_11, j_12, j_13, j_14, j_15, j_16, j_17, j_18, j_19, j_20, j_21, j_22, j_23, j_24, j_25, j_26, j_27, j_28, j_29, j_30, j_31, j_32, j_33, j_34, j_35, j_36, j_37, j_38, j_39, j_40, j_41, j_42, j_43, j_44, j_45, j_46, j_47, j_48, j_49, j_50, j_51, j_52, j_57, j_59, j_63, j_74, j_75, j_93, j_97, j_99, j_100, j_122, j_200, j_255, j_300, j_465, j_496, j_900, j_999, j_1000, j_65536, j_65537, j_99999, j_252645135, j_858993459, j_1431655765, k_0, k_1, k_27, k_32, k_74, k_75, k_100, k_1000, k_65537]
        simp (disch := first | with_reducible assumption | omega | trivial) only [↓bn_s1, ↓bd_s1, ↓ei_l1, ↓ei_r1, ↓bn_if, ↓ilt_1, ↓ilt_0, ↓ieq_1, ↓ieq_0, bn_s1, bd_s1, ei_l1, ei_r1, J_add, J_sub, J_mul, J_neg, J_lt, J_le, J_eq, dv_J, rm_J, if_pos, if_neg, ↓reduceIte, bitJ, shlJ, orJ, j_0, j_1, j_2, j_3, j_4, j_5, j_6, j_7, j_8, j_9, j_10, j_11, j_12, j_13, j_14, j_15, j_16, j_17, j_18, j_19, j_20, j_21, j_22, j_23, j_24, j_25, j_26, j_27, j_28, j_29, j_30, j_31, j_32, j_33, j_34, j_35, j_36, j_37, j_38, j_39, j_40, j_41, j_42, j_43, j_44, j_45, j_46, j_47, j_48, j_49, j_50, j_51, j_52, j_57, j_59, j_63, j_74, j_75, j_93, j_97, j_99, j_100, j_122, j_200, j_255, j_300, j_465, j_496, j_900, j_999, j_1000, j_65536, j_65537, j_99999, j_252645135, j_858993459, j_1431655765, k_0, k_1, k_27, k_32, k_74, k_75, k_100, k_1000, k_65537, tk_i Q1, ↓tk_i_b Q1, tk_p Q1, ↓tk_p_b Q1, tk_r Q1, ↓tk_r_b Q1, tk_l Q1, ↓tk_l_b Q1, tk_pl Q1, ↓tk_pl_b Q1, tk_a Q1, ↓tk_a_b Q1, a1, n1])
  exact ⟨h1, e1, q1⟩
