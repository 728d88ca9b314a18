/-! words: as letters, as numbers -/
def cdx (B : Int) (f : Nat → Int) : Nat → Int
  | 0 => 0
  | k + 1 => B * cdx B f k + f k
theorem cdx_s (B : Int) (f : Nat → Int) (k : Nat) : cdx B f (k + 1) = B * cdx B f k + f k := rfl
theorem cdx_n {B : Int} (hB : B = 27 ∨ B = 32) {f : Nat → Int} : ∀ m : Nat, (∀ i, i < m → 1 ≤ f i ∧ f i ≤ 26) → 0 ≤ cdx B f m := by
  intro m
  induction m with
  | zero => intro _; show (0 : Int) ≤ 0; omega
  | succ m ih =>
    intro H
    have i := ih (fun j hj => H j (by omega))
    have d := H m (by omega)
    rw [cdx_s]
    rcases hB with rfl | rfl <;> omega
theorem cdx_i {B : Int} (hB : B = 27 ∨ B = 32) {f g : Nat → Int} : ∀ m l : Nat, (∀ i, i < m → 1 ≤ f i ∧ f i ≤ 26) → (∀ i, i < l → 1 ≤ g i ∧ g i ≤ 26) → cdx B f m = cdx B g l → m = l ∧ ∀ i, i < m → f i = g i := by
  intro m
  induction m with
  | zero =>
    intro l H G e
    cases l with
    | zero => exact ⟨rfl, fun i hi => by omega⟩
    | succ l =>
      have d := G l (by omega)
      have z := cdx_n hB l (fun i hi => G i (by omega))
      rw [cdx_s] at e
      replace e : (0 : Int) = B * cdx B g l + g l := e
      rcases hB with rfl | rfl <;> omega
  | succ m ih =>
    intro l H G e
    have d := H m (by omega)
    have z := cdx_n hB m (fun i hi => H i (by omega))
    cases l with
    | zero =>
      rw [cdx_s] at e
      replace e : B * cdx B f m + f m = (0 : Int) := e
      rcases hB with rfl | rfl <;> omega
    | succ l =>
      have d' := G l (by omega)
      rw [cdx_s, cdx_s] at e
      have q : cdx B f m = cdx B g l ∧ f m = g l := by rcases hB with rfl | rfl <;> omega
      obtain ⟨w1, w2⟩ := ih l (fun i hi => H i (by omega)) (fun i hi => G i (by omega)) q.1
      subst w1
      refine ⟨rfl, fun i hi => ?_⟩
      by_cases c : i = m
      · rw [c]; exact q.2
      · exact w2 i (by omega)
theorem cdx_c {B : Int} {f g : Nat → Int} : ∀ m : Nat, (∀ i, i < m → f i = g i) → cdx B f m = cdx B g m := by
  intro m
  induction m with
  | zero => intro _; rfl
  | succ m ih => intro H; rw [cdx_s, cdx_s, ih (fun i hi => H i (by omega)), H m (by omega)]
/-- the letters from p on, a is 1 -/
def lwt (T : Int → Int) (p i : Nat) : Int := T ((p + i : Nat) : Int) - 97 + 1
theorem k27_e (T : Int → Int) (p : Nat) : ∀ k, k27 T p k = cdx 27 (lwt T p) k := by
  intro k
  induction k with
  | zero => rfl
  | succ k ih =>
    have e : k27 T p (k + 1) = k27 T p k * 27 + lwt T p k := rfl
    rw [e, cdx_s, ih]
    omega
theorem k32_e (T : Int → Int) (p : Nat) : ∀ k, k32 T p k = cdx 32 (lwt T p) k := by
  intro k
  induction k with
  | zero => rfl
  | succ k ih =>
    have e : k32 T p (k + 1) = 32 * k32 T p k + lwt T p k := rfl
    rw [e, cdx_s, ih]
/-! the words of the code -/
def wds (k : Nat) : List Int32 := match txs[k]? with
  | some q => q.2.2.1
  | none => []
def wch (k i : Nat) : Int := ((wds k).getD i 0).toInt
def wln (k : Nat) : Nat := (wds k).length
theorem wds_b : ∀ k, k < 24 → (wln k ≤ 8 ∧ 1 ≤ wln k) ∧ ∀ i, i < wln k → 97 ≤ wch k i ∧ wch k i ≤ 122 := by decide +kernel
theorem chr_e : ∀ x : Nat, x < 26 → ((J ((x : Int) + 97) &&& (255 : Int32)).toUInt32 % 65536).toInt32 = J ((x : Int) + 97) ∧ retV .char (J ((x : Int) + 97)) = true := by decide +kernel
theorem chr_f {y : Int} (h1 : 97 ≤ y) (h2 : y ≤ 122) : ((J y &&& (255 : Int32)).toUInt32 % 65536).toInt32 = J y ∧ retV .char (J y) = true := by
  have z := chr_e (y - 97).toNat (by omega)
  rw [show (((y - 97).toNat : Nat) : Int) + 97 = y by omega] at z
  exact z
/-- the words lie where they lie -/
def WR (h : Hp) : Prop := ∀ k, k < 24 → kd h (1000003 + k) = 50 ∧ fR h (1000003 + k) 0 = some (1000103 + k) ∧ fi h (1000003 + k) 1 = 0 ∧ kd h (1000103 + k) = 101 ∧ iA h (1000103 + k) = wds k
theorem WR_fm {lo hi : Nat} {h h' : Hp} (x : Fm lo hi h h') (hh : hi ≤ 1000000) (H : WR h) : WR h' := by
  intro k hk
  obtain ⟨a1, a2, a3, a4, a5⟩ := H k hk
  refine ⟨?_, ?_, ?_, ?_, ?_⟩
  · rw [fm_kd x]; exact a1
  · rw [fm_fR x]; exact a2
  · rw [fm_fi x (by omega)]; exact a3
  · rw [fm_kd x]; exact a4
  · rw [(x.2.2.2.2.2.2 (1000103 + k) (by omega)).2.2.1]; exact a5
theorem W_len {h : Hp} {k : Nat} (W : WR h) (hk : k < 24) : F_sg_length (1000003 + k) h = some (J (wln k : Nat)) := by
  obtain ⟨a1, a2, a3, a4, a5⟩ := W k hk
  have b := (wds_b k hk).1
  have gr : gR h (1000003 + k) 50 0 = some (1000103 + k) := gR_e a1 a2
  have gi : gI h (1000003 + k) 50 1 = some (J 0) := by rw [gI_J a1, a3]
  have ean : aN h (1000103 + k) = some (J (wln k : Nat)) := by
    unfold aN
    rw [a4, a5]
    rfl
  have ec : F_sg_coder (1000003 + k) h = some (J 0) := by
    unfold F_sg_coder
    rw [ck_e a1, if_neg (by decide), bn_e gi]
    exact if_pos (by decide)
  have es : ∀ m : Nat, m < 9 → J (m : Nat) >>> (J 0 &&& 31) = J (m : Nat) := by decide +kernel
  unfold F_sg_length
  rw [ck_e a1, bn_e gr, bn_e ean, bn_e ec, es _ (by omega)]
theorem W_chr {h : Hp} {k i : Nat} (W : WR h) (hk : k < 24) (hi : i < wln k) : F_sg_charAt (1000003 + k) (J i) h = some (J (wch k i)) := by
  obtain ⟨a1, a2, a3, a4, a5⟩ := W k hk
  have b := wds_b k hk
  have c := b.2 i hi
  have gr : gR h (1000003 + k) 50 0 = some (1000103 + k) := gR_e a1 a2
  have gi : gI h (1000003 + k) 50 1 = some (J 0) := by rw [gI_J a1, a3]
  have ean : aN h (1000103 + k) = some (J (wln k : Nat)) := by
    unfold aN
    rw [a4, a5]
    rfl
  have el : F_sg_isLatin1 (1000003 + k) h = some (J 1) := by
    unfold F_sg_isLatin1
    rw [ck_e a1, if_neg (by decide), bn_e gi]
    exact if_pos (by decide)
  have ea : aI h 101 (1000103 + k) (J i) = some (J (wch k i)) := by
    have hl : (iA h (1000103 + k)).length = wln k := by rw [a5]; rfl
    rw [aI_J a4 (by omega) (by omega) (by omega)]
    have e : ia h (1000103 + k) (i : Nat) = wch k i := by
      unfold ia wch
      rw [a5]
      rfl
    rw [e]
  have ei' : F_sg_checkIndex (J i) (J (wln k : Nat)) = some () := by
    unfold F_sg_checkIndex F_pq_checkIndex
    try simp only [j_0, j_1, j_2, j_3, j_4, j_5, j_6, j_7, j_8, j_9, j_10, j_11, j_12, j_13, j_14, j_15, j_16, j_17, j_18, j_19, j_20, j_21, j_22, j_23, j_24, j_25, j_26, j_27, j_28, j_29, j_30, j_31, j_32, j_33, j_34, j_35, j_36, j_37, j_38, j_39, j_40, j_41, j_42, j_43, j_44, j_45, j_46, j_47, j_48, j_49, j_50, j_51, j_52, j_57, j_59, j_63, j_74, j_75, j_93, j_97, j_99, j_100, j_122, j_200, j_255, j_300, j_465, j_496, j_900, j_999, j_1000, j_65536, j_65537, j_99999, j_252645135, j_858993459, j_1431655765, k_0, k_1, k_27, k_32, k_74, k_75, k_100, k_1000, k_65537]
    simp (disch := first | with_reducible assumption | omega | trivial) only [↓bn_s1, ↓bd_s1, ↓ei_l1, ↓ei_r1, ↓bn_if, ↓ilt_1, ↓ilt_0, ↓ieq_1, ↓ieq_0, bn_s1, bd_s1, ei_l1, ei_r1, J_add, J_sub, J_mul, J_neg, J_lt, J_le, J_eq, dv_J, rm_J, if_pos, if_neg, ↓reduceIte, bitJ, shlJ, orJ, j_0, j_1, j_2, j_3, j_4, j_5, j_6, j_7, j_8, j_9, j_10, j_11, j_12, j_13, j_14, j_15, j_16, j_17, j_18, j_19, j_20, j_21, j_22, j_23, j_24, j_25, j_26, j_27, j_28, j_29, j_30, j_31, j_32, j_33, j_34, j_35, j_36, j_37, j_38, j_39, j_40, j_41, j_42, j_43, j_44, j_45, j_46, j_47, j_48, j_49, j_50, j_51, j_52, j_57, j_59, j_63, j_74, j_75, j_93, j_97, j_99, j_100, j_122, j_200, j_255, j_300, j_465, j_496, j_900, j_999, j_1000, j_65536, j_65537, j_99999, j_252645135, j_858993459, j_1431655765, k_0, k_1, k_27, k_32, k_74, k_75, k_100, k_1000, k_65537]
  have ex := chr_f c.1 c.2
  have es : F_sl_charAt (1000103 + k) (J i) h = some (J (wch k i)) := by
    unfold F_sl_charAt
    rw [bn_e ean, bn_e ei', bn_e ea, ex.1]
    exact if_pos ex.2
  unfold F_sg_charAt
  rw [ck_e a1, bn_e el, if_neg (by decide), bn_e gr, bn_e es]
  exact if_pos ex.2
