/-! the reference's mice -/
def mcr (L : Lk) (S : Sk) (z : Int) (code : Nat) : Nat → Sk × Int
  | 0 => (S, 0)
  | k + 1 => if code.testBit k = true then (lse (sft (mcr L S z code k).1 (hn L)) z, (mcr L S z code k).2 + (if bk (sft (mcr L S z code k).1 (hn L)) z = -1 then 0 else 1)) else (sft (mcr L S z code k).1 (hn L), (mcr L S z code k).2)
def E5 (z : Int) (S T : Sk) : Prop := ∀ i, 5 * z ≤ i → i < 5 * z + 5 → S i = T i
theorem sft_e5 {S : Sk} {z : Int} : ∀ n : Nat, (z < n → 0 ≤ z → E5 z (sft S n) (sfu S z)) ∧ (n ≤ z → E5 z (sft S n) S) := by
  intro n
  induction n with
  | zero => exact ⟨fun h h' => by omega, fun _ _ _ _ => rfl⟩
  | succ n ih =>
    refine ⟨fun h h0 i i0 i1 => ?_, fun h i i0 i1 => ?_⟩
    · show sfu (sft S n) n i = sfu S z i
      by_cases e : z = n
      · have x := ih.2 (by omega)
        unfold sfu
        rw [← e, x (5 * z + 1) (by omega) (by omega), x (5 * z) (by omega) (by omega), x i i0 i1]
      · have x := ih.1 (by omega) h0 i i0 i1
        rw [← x]
        unfold sfu
        rw [if_neg (by omega), if_neg (by omega), if_neg (by omega)]
    · show sfu (sft S n) n i = S i
      rw [← ih.2 (by omega) i i0 i1]
      unfold sfu
      rw [if_neg (by omega), if_neg (by omega), if_neg (by omega)]
theorem e5_sfu {S T : Sk} {z : Int} (h : E5 z S T) : E5 z (sfu S z) (sfu T z) := by
  intro i i0 i1
  unfold sfu
  rw [h (5 * z + 1) (by omega) (by omega), h (5 * z) (by omega) (by omega), h i i0 i1]
theorem e5_bk {S T : Sk} {z : Int} (h : E5 z S T) : bk S z = bk T z := by
  unfold bk
  rw [h (5 * z + 2) (by omega) (by omega), h (5 * z + 1) (by omega) (by omega), h (5 * z + 3) (by omega) (by omega), h (5 * z) (by omega) (by omega), h (5 * z + 4) (by omega) (by omega)]
theorem e5_lse {S T : Sk} {z : Int} (h : E5 z S T) : E5 z (lse S z) (lse T z) := by
  intro i i0 i1
  unfold lse
  rw [e5_bk h, h i i0 i1]
theorem e5_lft {S T : Sk} {z : Int} (h : E5 z S T) : lft S z = lft T z := by
  unfold lft
  rw [h (5 * z + 2) (by omega) (by omega), h (5 * z + 1) (by omega) (by omega), h (5 * z + 3) (by omega) (by omega), h (5 * z) (by omega) (by omega), h (5 * z + 4) (by omega) (by omega)]
theorem e5_tr {S T U : Sk} {z : Int} (h : E5 z S T) (h' : E5 z T U) : E5 z S U := fun i i0 i1 => (h i i0 i1).trans (h' i i0 i1)
theorem mcr_e {L : Lk} (HL : LW L) {S : Sk} {z : Int} (h0 : 0 ≤ z) (h1 : z < L 1 0) (code : Nat) : ∀ k, E5 z (mcr L S z code k).1 (mcc S z code k).1 ∧ (mcr L S z code k).2 = (mcc S z code k).2 := by
  have hne := hn_e HL
  intro k
  induction k with
  | zero => exact ⟨fun _ _ _ => rfl, rfl⟩
  | succ k ih =>
    have e : E5 z (sft (mcr L S z code k).1 (hn L)) (sfu (mcc S z code k).1 z) := e5_tr ((sft_e5 (hn L)).1 (by omega) h0) (e5_sfu ih.1)
    unfold mcr mcc
    by_cases c : code.testBit k = true
    · rw [if_pos c, if_pos c]
      refine ⟨e5_lse e, ?_⟩
      show (mcr L S z code k).2 + _ = (mcc S z code k).2 + _
      rw [ih.2, e5_bk e]
    · rw [if_neg c, if_neg c]
      exact ⟨e, ih.2⟩
theorem sw_lse {m : Int} {L : Lk} {S : Sk} (HL : LW L) {z : Int} (h0 : 0 ≤ z) (h1 : z < L 1 0) (H : SW m L S) : SW m L (lse S z) := by
  have b1 := LW_h HL
  refine ⟨lse_cw h0 (by omega) H.1, lse_zc h1 H.2.1, fun g g0 g1 => ?_, ?_, ?_, ?_⟩
  · rw [lse_hi (by omega) (by omega)]; exact H.2.2.1 g g0 g1
  · rw [lse_hi (by omega) (by omega)]; exact H.2.2.2.1
  · rw [lse_hi (by omega) (by omega)]; exact H.2.2.2.2.1
  · rw [lse_hi (by omega) (by omega)]; exact H.2.2.2.2.2
theorem mcr_p {L : Lk} (HL : LW L) {S : Sk} {z : Int} (h0 : 0 ≤ z) (h1 : z < L 1 0) (H : SW 999 L S) (code : Nat) : ∀ k, SW 999 L (mcr L S z code k).1 ∧ (∀ i, 25 ≤ i → (mcr L S z code k).1 i = S i) := by
  have b1 := LW_h HL
  have hne := hn_e HL
  intro k
  induction k with
  | zero => exact ⟨H, fun _ _ => rfl⟩
  | succ k ih =>
    have w := sft_sw HL (by omega) ih.1
    have hi : ∀ i, 25 ≤ i → sft (mcr L S z code k).1 (hn L) i = S i := fun i hi => by rw [sft_hi hi (hn L) (by omega)]; exact ih.2 i hi
    unfold mcr
    by_cases c : code.testBit k = true
    · rw [if_pos c]
      exact ⟨sw_lse HL h0 h1 w, fun i hi' => by show lse _ z i = _; rw [lse_hi (by omega) hi']; exact hi i hi'⟩
    · rw [if_neg c]; exact ⟨w, hi⟩
theorem net_mcr {L : Lk} (HL : LW L) {S : Sk} {z : Int} (h0 : 0 ≤ z) (h1 : z < L 1 0) (H : SW 999 L S) (code n : Nat) : net L (mcr L S z code n).1 z = mhg L S z n code := by
  have p := mcr_p HL h0 h1 H code n
  have e := mcr_e HL (S := S) h0 h1 code n
  unfold net mhg
  rw [e5_lft e.1]
  unfold wgt gsm
  congr 2
  refine sm_e (fun g _ => ?_)
  rw [p.2 (25 + g) (by omega)]
theorem qr_gl {h h' : Hp} (x : Qr h h') : True := trivial
/-- as RI, for what only asks -/
def RQ (a : Ab) (h : Hp) : Prop := MS h ∧ RLk (qL a) h ∧ ∀ i, 0 ≤ i → i < 31 → ia h 90 i = qS a i
theorem RQ_ri {a : Ab} {h : Hp} (H : RI a h) : RQ a h := ⟨H.1, H.2.1, H.2.2.1⟩
theorem RQ_qr {a : Ab} {h h' : Hp} (x : Qr h h') (H : RQ a h) : RQ a h' := ⟨MS_fm x.1 H.1, RLk_fm x.1 (by omega) H.2.1, fun i i0 i1 => by unfold ia; rw [x.2.1 90 (by omega)]; exact H.2.2 i i0 i1⟩
theorem lkq_1 {a : Ab} {h : Hp} (H : RQ a h) (c : ¬ qL a 1 0 = 0) : ∃ b, RC (qL a) b h := by
  cases H.2.1 with
  | inl q => exact absurd q.1 c
  | inr q => exact q.2
theorem D_miceAll {a : Ab} {h : Hp} {z n : Int} (HA : AW a) (H : RQ a h) (hz : inr z (qL a 1 0)) (hn' : 0 ≤ n ∧ n ≤ 4) : ∃ h', F_md_miceAll 88 (J z) (J n) h = some h' ∧ Qr h h' ∧ gL h' 88 13 32 = some (K (100 ^ n.toNat)) ∧ gL h' 88 13 33 = some (K (mds a z n)) ∧ gL h' 88 13 34 = some (K (mhs a z n)) ∧ gL h' 88 13 35 = some (K (mls a z n)) := by
  have b1 := LW_h HA.1
  have b0 := LW_mice HA.1
  have W := HA.2.1.1
  obtain ⟨b, C0⟩ := lkq_1 H (by omega)
  obtain ⟨N, rfl⟩ := Int.eq_ofNat_of_zero_le hn'.1
  unfold mds mhs mls
  rw [Int.toNat_natCast]
  have gl := fun {h' : Hp} (M' : MS h') (k : Nat) => gL_e (h := h') (a := 88) (ci := 13) (k := k) (MS_k M')
  obtain ⟨h1, hh1⟩ : ∃ h1, h1 = wG (wG (wG (wG h 88 32 1) 88 33 0) 88 34 0) 88 35 0 := ⟨_, rfl⟩
  have Ma := MS_fm (qr_g (h := h) (k := 32) 1).1 C0.1
  have Mb := MS_fm (qr_g (h := wG h 88 32 1) (k := 33) 0).1 Ma
  have Mc := MS_fm (qr_g (h := wG (wG h 88 32 1) 88 33 0) (k := 34) 0).1 Mb
  have q1 : Qr h h1 := by rw [hh1]; exact qr_tr (qr_g _) (qr_tr (qr_g _) (qr_tr (qr_g _) (qr_g _)))
  have w32 : fL h1 88 32 = K 1 := by rw [hh1, fLn (by omega), fLn (by omega), fLn (by omega)]; exact fLs _ _ _ _
  have w33 : fL h1 88 33 = K 0 := by rw [hh1, fLn (by omega), fLn (by omega)]; exact fLs _ _ _ _
  have w34 : fL h1 88 34 = K 0 := by rw [hh1, fLn (by omega)]; exact fLs _ _ _ _
  have w35 : fL h1 88 35 = K 0 := by rw [hh1]; exact fLs _ _ _ _
  obtain ⟨y2, h2, e2, q2, u32, u33, u34, u35⟩ := lp_for (b := B_md_miceAll_22 88 (J z) (J N)) (f := FU) (s := J 0) (h := h1) (fun k s h' => s = J k ∧ Qr h h' ∧ fL h' 88 32 = K (100 ^ k) ∧ fL h' 88 33 = K 0 ∧ fL h' 88 34 = K 0 ∧ fL h' 88 35 = K 0) (fun _ h' => Qr h h' ∧ fL h' 88 32 = K (100 ^ N) ∧ fL h' 88 33 = K 0 ∧ fL h' 88 34 = K 0 ∧ fL h' 88 35 = K 0) N (by unfold FU; omega) ⟨rfl, q1, w32, w33, w34, w35⟩ (fun k s h2 hk hI => by
      obtain ⟨rfl, q2, u32, u33, u34, u35⟩ := hI
      have C2 := RC_qr q2 C0
      have g2 := gl C2.1 32
      rw [u32] at g2
      have ep : (100 : Int) ^ (k + 1) = 100 ^ k * 100 := Int.pow_succ _ _
      refine ⟨J (k + 1 : Nat), wG h2 88 32 (100 ^ (k + 1)), ?_, rfl, qr_tr q2 (qr_g _), fLs _ _ _ _, by rw [fLn (by omega)]; exact u33, by rw [fLn (by omega)]; exact u34, by rw [fLn (by omega)]; exact u35⟩
      rw [ep]
      unfold B_md_miceAll_22
      try simp only [j_0, j_1, j_2, j_3, j_4, j_5, j_6, j_7, j_8, j_9, j_10, j_11, j_12, j_13, j_14, j_15, j_16, j_17, j_18, j_19, j_20, j_21, j_22, j_23, j_24, j_25, j_26, j_27, j_28, j_29, j_30, j_31, j_32, j_33, j_34, j_35, j_36, j_37, j_38, j_39, j_40, j_41, j_42, j_43, j_44, j_45, j_46, j_47, j_48, j_49, j_50, j_51, j_52, j_57, j_59, j_63, j_74, j_75, j_93, j_97, j_99, j_100, j_122, j_200, j_255, j_300, j_465, j_496, j_900, j_999, j_1000, j_65536, j_65537, j_99999, j_252645135, j_858993459, j_1431655765, k_0, k_1, k_27, k_32, k_74, k_75, k_100, k_1000, k_65537]
      simp (disch := first | with_reducible assumption | omega | trivial) only [↓bn_s1, ↓bd_s1, ↓ei_l1, ↓ei_r1, ↓bn_if, ↓ilt_1, ↓ilt_0, ↓ieq_1, ↓ieq_0, bn_s1, bd_s1, ei_l1, ei_r1, J_add, J_sub, J_mul, J_neg, J_lt, J_le, J_eq, dv_J, rm_J, if_pos, if_neg, ↓reduceIte, bitJ, shlJ, orJ, j_0, j_1, j_2, j_3, j_4, j_5, j_6, j_7, j_8, j_9, j_10, j_11, j_12, j_13, j_14, j_15, j_16, j_17, j_18, j_19, j_20, j_21, j_22, j_23, j_24, j_25, j_26, j_27, j_28, j_29, j_30, j_31, j_32, j_33, j_34, j_35, j_36, j_37, j_38, j_39, j_40, j_41, j_42, j_43, j_44, j_45, j_46, j_47, j_48, j_49, j_50, j_51, j_52, j_57, j_59, j_63, j_74, j_75, j_93, j_97, j_99, j_100, j_122, j_200, j_255, j_300, j_465, j_496, j_900, j_999, j_1000, j_65536, j_65537, j_99999, j_252645135, j_858993459, j_1431655765, k_0, k_1, k_27, k_32, k_74, k_75, k_100, k_1000, k_65537, ↓bn_e (g2), g2, K_mul, ↓m_pl_b C2.1]
      rfl) (fun s h2 hI => by
      obtain ⟨rfl, q2, u32, u33, u34, u35⟩ := hI
      refine ⟨(), h2, ?_, q2, u32, u33, u34, u35⟩
      unfold B_md_miceAll_22
      try simp only [j_0, j_1, j_2, j_3, j_4, j_5, j_6, j_7, j_8, j_9, j_10, j_11, j_12, j_13, j_14, j_15, j_16, j_17, j_18, j_19, j_20, j_21, j_22, j_23, j_24, j_25, j_26, j_27, j_28, j_29, j_30, j_31, j_32, j_33, j_34, j_35, j_36, j_37, j_38, j_39, j_40, j_41, j_42, j_43, j_44, j_45, j_46, j_47, j_48, j_49, j_50, j_51, j_52, j_57, j_59, j_63, j_74, j_75, j_93, j_97, j_99, j_100, j_122, j_200, j_255, j_300, j_465, j_496, j_900, j_999, j_1000, j_65536, j_65537, j_99999, j_252645135, j_858993459, j_1431655765, k_0, k_1, k_27, k_32, k_74, k_75, k_100, k_1000, k_65537]
      simp (disch := first | with_reducible assumption | omega | trivial) only [↓bn_s1, ↓bd_s1, ↓ei_l1, ↓ei_r1, ↓bn_if, ↓ilt_1, ↓ilt_0, ↓ieq_1, ↓ieq_0, bn_s1, bd_s1, ei_l1, ei_r1, J_add, J_sub, J_mul, J_neg, J_lt, J_le, J_eq, dv_J, rm_J, if_pos, if_neg, ↓reduceIte, bitJ, shlJ, orJ, j_0, j_1, j_2, j_3, j_4, j_5, j_6, j_7, j_8, j_9, j_10, j_11, j_12, j_13, j_14, j_15, j_16, j_17, j_18, j_19, j_20, j_21, j_22, j_23, j_24, j_25, j_26, j_27, j_28, j_29, j_30, j_31, j_32, j_33, j_34, j_35, j_36, j_37, j_38, j_39, j_40, j_41, j_42, j_43, j_44, j_45, j_46, j_47, j_48, j_49, j_50, j_51, j_52, j_57, j_59, j_63, j_74, j_75, j_93, j_97, j_99, j_100, j_122, j_200, j_255, j_300, j_465, j_496, j_900, j_999, j_1000, j_65536, j_65537, j_99999, j_252645135, j_858993459, j_1431655765, k_0, k_1, k_27, k_32, k_74, k_75, k_100, k_1000, k_65537])
  have sh := shlJ (k := N) (by omega)
  have p := p16 (n := N) (by omega)
  generalize 2 ^ N = P at sh p ⊢
  -- one way
  have way : ∀ (i : Nat) (h3 : Hp), i < 16 → Qr h h3 → ∃ h4 h5, F_md_works 88 h3 = some h4 ∧ lp (B_md_miceAll_67 88 (J z) (J N) (J i)) FU (K 1, J 0, J 0) h4 = some ((K (shr (qL a 0 0) i N), J (mcc (qS a) z i N).2), h5) ∧ Qr h3 h5 ∧ F_md_netOf 88 (J z) h5 = some (J (mhg (qL a) (qS a) z N i)) ∧ XR (mcr (qL a) (qS a) z i N).1 h5 ∧ (∀ k, fL h5 88 k = fL h3 88 k) := by
    intro i h3 hi q3
    have C3 := RC_qr q3 C0
    obtain ⟨h4, e4, f4, x4⟩ := D_works C3.1 (S := qS a) (fun j j0 j1 => by unfold ia; rw [q3.2.1 90 (by omega)]; exact H.2.2 j j0 j1)
    obtain ⟨y, h5, e5, y5, f5, x5⟩ := lp_for (b := B_md_miceAll_67 88 (J z) (J N) (J i)) (f := FU) (s := (K 1, J 0, J 0)) (h := h4) (fun k s h' => s = (K (shr (qL a 0 0) i k), J (mcr (qL a) (qS a) z i k).2, J k) ∧ Fm 91 92 h3 h' ∧ XR (mcr (qL a) (qS a) z i k).1 h') (fun y h' => y = (K (shr (qL a 0 0) i N), J (mcr (qL a) (qS a) z i N).2) ∧ Fm 91 92 h3 h' ∧ XR (mcr (qL a) (qS a) z i N).1 h') N (by unfold FU; omega) ⟨rfl, f4, x4⟩ (fun k s h5 hk hI => by
        obtain ⟨rfl, f5, x5⟩ := hI
        have C5 := RC_fm f5 (by omega) C3
        have mp := mcr_p HA.1 hz.1 hz.2 W i k
        obtain ⟨h6, e6, f6, x6⟩ := D_softens HA.1 C5 x5
        have C6 := RC_fm f6 (by omega) C5
        have eb := bit_e (n := i) (z := k) (by omega) (by omega) (by omega)
        rw [Int.toNat_natCast] at eb
        have l1 := J_long (a := 100 - qL a 0 0) (by omega) (by omega)
        have l2 := J_long (a := qL a 0 0) (by omega) (by omega)
        have es : shr (qL a 0 0) i (k + 1) = shr (qL a 0 0) i k * (if i.testBit k = true then qL a 0 0 else 100 - qL a 0 0) := rfl
        have em : mcr (qL a) (qS a) z i (k + 1) = if i.testBit k = true then (lse (sft (mcr (qL a) (qS a) z i k).1 (hn (qL a))) z, (mcr (qL a) (qS a) z i k).2 + (if bk (sft (mcr (qL a) (qS a) z i k).1 (hn (qL a))) z = -1 then 0 else 1)) else (sft (mcr (qL a) (qS a) z i k).1 (hn (qL a)), (mcr (qL a) (qS a) z i k).2) := rfl
        by_cases c : i.testBit k = true
        · rw [if_pos c] at eb es em
          have w6 := sft_sw HA.1 (by omega) mp.1
          obtain ⟨h7, e7, f7, x7⟩ := D_loses C6 x6 (fun j j0 j1 => by have := w6.1 j j0 j1; omega) hz.1 (show z < 5 by omega)
          refine ⟨(K (shr (qL a 0 0) i (k + 1)), J (mcr (qL a) (qS a) z i (k + 1)).2, J (k + 1 : Nat)), h7, ?_, rfl, fm_tr f5 (fm_tr f6 f7), by rw [em]; exact x7⟩
          rw [es, em]
          unfold B_md_miceAll_67
          by_cases d : bk (sft (mcr (qL a) (qS a) z i k).1 (hn (qL a))) z = -1
          · rw [if_pos d] at e7
            rw [if_pos d, Int.add_zero]
            try simp only [j_0, j_1, j_2, j_3, j_4, j_5, j_6, j_7, j_8, j_9, j_10, j_11, j_12, j_13, j_14, j_15, j_16, j_17, j_18, j_19, j_20, j_21, j_22, j_23, j_24, j_25, j_26, j_27, j_28, j_29, j_30, j_31, j_32, j_33, j_34, j_35, j_36, j_37, j_38, j_39, j_40, j_41, j_42, j_43, j_44, j_45, j_46, j_47, j_48, j_49, j_50, j_51, j_52, j_57, j_59, j_63, j_74, j_75, j_93, j_97, j_99, j_100, j_122, j_200, j_255, j_300, j_465, j_496, j_900, j_999, j_1000, j_65536, j_65537, j_99999, j_252645135, j_858993459, j_1431655765, k_0, k_1, k_27, k_32, k_74, k_75, k_100, k_1000, k_65537]
            simp (disch := first | with_reducible assumption | omega | trivial) only [↓bn_s1, ↓bd_s1, ↓ei_l1, ↓ei_r1, ↓bn_if, ↓ilt_1, ↓ilt_0, ↓ieq_1, ↓ieq_0, bn_s1, bd_s1, ei_l1, ei_r1, J_add, J_sub, J_mul, J_neg, J_lt, J_le, J_eq, dv_J, rm_J, if_pos, if_neg, ↓reduceIte, bitJ, shlJ, orJ, j_0, j_1, j_2, j_3, j_4, j_5, j_6, j_7, j_8, j_9, j_10, j_11, j_12, j_13, j_14, j_15, j_16, j_17, j_18, j_19, j_20, j_21, j_22, j_23, j_24, j_25, j_26, j_27, j_28, j_29, j_30, j_31, j_32, j_33, j_34, j_35, j_36, j_37, j_38, j_39, j_40, j_41, j_42, j_43, j_44, j_45, j_46, j_47, j_48, j_49, j_50, j_51, j_52, j_57, j_59, j_63, j_74, j_75, j_93, j_97, j_99, j_100, j_122, j_200, j_255, j_300, j_465, j_496, j_900, j_999, j_1000, j_65536, j_65537, j_99999, j_252645135, j_858993459, j_1431655765, k_0, k_1, k_27, k_32, k_74, k_75, k_100, k_1000, k_65537, ↓bn_e (e6), e6, ↓bn_e (eb), eb, cl_r C6, ↓cl_r_b C6, cl_q C6, ↓cl_q_b C6, ci_0 C6, ↓ci_0_b C6, ci_1 C6, ↓ci_1_b C6, ci_2 C6, ↓ci_2_b C6, ci_3 C6, ↓ci_3_b C6, ci_4 C6, ↓ci_4_b C6, ci_5 C6, ↓ci_5_b C6, ci_6 C6, ↓ci_6_b C6, ci_7 C6, ↓ci_7_b C6, cr_9 C6, ↓cr_9_b C6, cr_10 C6, ↓cr_10_b C6, cr_11 C6, ↓cr_11_b C6, cr_13 C6, ↓cr_13_b C6, cr_14 C6, ↓cr_14_b C6, cr_15 C6, ↓cr_15_b C6, cr_16 C6, ↓cr_16_b C6, cr_17 C6, ↓cr_17_b C6, cr_18 C6, ↓cr_18_b C6, cr_19 C6, ↓cr_19_b C6, cr_20 C6, ↓cr_20_b C6, cr_21 C6, ↓cr_21_b C6, cr_22 C6, ↓cr_22_b C6, cr_23 C6, ↓cr_23_b C6, cr_24 C6, ↓cr_24_b C6, cr_25 C6, ↓cr_25_b C6, cr_26 C6, ↓cr_26_b C6, ca_9 HA.1 C6, ↓ca_9_b HA.1 C6, ca_10 HA.1 C6, ↓ca_10_b HA.1 C6, ca_11 HA.1 C6, ↓ca_11_b HA.1 C6, ca_13 HA.1 C6, ↓ca_13_b HA.1 C6, ca_14 HA.1 C6, ↓ca_14_b HA.1 C6, ca_15 HA.1 C6, ↓ca_15_b HA.1 C6, ca_16 HA.1 C6, ↓ca_16_b HA.1 C6, ca_17 HA.1 C6, ↓ca_17_b HA.1 C6, ca_18 HA.1 C6, ↓ca_18_b HA.1 C6, ca_19 HA.1 C6, ↓ca_19_b HA.1 C6, ca_20 HA.1 C6, ↓ca_20_b HA.1 C6, ca_21 HA.1 C6, ↓ca_21_b HA.1 C6, ca_22 HA.1 C6, ↓ca_22_b HA.1 C6, ca_23 HA.1 C6, ↓ca_23_b HA.1 C6, ca_24 HA.1 C6, ↓ca_24_b HA.1 C6, ca_25 HA.1 C6, ↓ca_25_b HA.1 C6, ca_26 HA.1 C6, ↓ca_26_b HA.1 C6, m_i C6.1, ↓m_i_b C6.1, m_p C6.1, ↓m_p_b C6.1, m_l C6.1, ↓m_l_b C6.1, m_pl C6.1, ↓m_pl_b C6.1, mr_15 C6.1, ↓mr_15_b C6.1, mr_16 C6.1, ↓mr_16_b C6.1, mr_17 C6.1, ↓mr_17_b C6.1, mr_18 C6.1, ↓mr_18_b C6.1, mr_21 C6.1, ↓mr_21_b C6.1, mr_22 C6.1, ↓mr_22_b C6.1, mr_23 C6.1, ↓mr_23_b C6.1, mr_24 C6.1, ↓mr_24_b C6.1, mr_25 C6.1, ↓mr_25_b C6.1, mr_30 C6.1, ↓mr_30_b C6.1, mr_31 C6.1, ↓mr_31_b C6.1, l2, K_mul, ↓bd_e (e7), e7]
            rfl
          · rw [if_neg d] at e7
            rw [if_neg d]
            try simp only [j_0, j_1, j_2, j_3, j_4, j_5, j_6, j_7, j_8, j_9, j_10, j_11, j_12, j_13, j_14, j_15, j_16, j_17, j_18, j_19, j_20, j_21, j_22, j_23, j_24, j_25, j_26, j_27, j_28, j_29, j_30, j_31, j_32, j_33, j_34, j_35, j_36, j_37, j_38, j_39, j_40, j_41, j_42, j_43, j_44, j_45, j_46, j_47, j_48, j_49, j_50, j_51, j_52, j_57, j_59, j_63, j_74, j_75, j_93, j_97, j_99, j_100, j_122, j_200, j_255, j_300, j_465, j_496, j_900, j_999, j_1000, j_65536, j_65537, j_99999, j_252645135, j_858993459, j_1431655765, k_0, k_1, k_27, k_32, k_74, k_75, k_100, k_1000, k_65537]
            simp (disch := first | with_reducible assumption | omega | trivial) only [↓bn_s1, ↓bd_s1, ↓ei_l1, ↓ei_r1, ↓bn_if, ↓ilt_1, ↓ilt_0, ↓ieq_1, ↓ieq_0, bn_s1, bd_s1, ei_l1, ei_r1, J_add, J_sub, J_mul, J_neg, J_lt, J_le, J_eq, dv_J, rm_J, if_pos, if_neg, ↓reduceIte, bitJ, shlJ, orJ, j_0, j_1, j_2, j_3, j_4, j_5, j_6, j_7, j_8, j_9, j_10, j_11, j_12, j_13, j_14, j_15, j_16, j_17, j_18, j_19, j_20, j_21, j_22, j_23, j_24, j_25, j_26, j_27, j_28, j_29, j_30, j_31, j_32, j_33, j_34, j_35, j_36, j_37, j_38, j_39, j_40, j_41, j_42, j_43, j_44, j_45, j_46, j_47, j_48, j_49, j_50, j_51, j_52, j_57, j_59, j_63, j_74, j_75, j_93, j_97, j_99, j_100, j_122, j_200, j_255, j_300, j_465, j_496, j_900, j_999, j_1000, j_65536, j_65537, j_99999, j_252645135, j_858993459, j_1431655765, k_0, k_1, k_27, k_32, k_74, k_75, k_100, k_1000, k_65537, ↓bn_e (e6), e6, ↓bn_e (eb), eb, cl_r C6, ↓cl_r_b C6, cl_q C6, ↓cl_q_b C6, ci_0 C6, ↓ci_0_b C6, ci_1 C6, ↓ci_1_b C6, ci_2 C6, ↓ci_2_b C6, ci_3 C6, ↓ci_3_b C6, ci_4 C6, ↓ci_4_b C6, ci_5 C6, ↓ci_5_b C6, ci_6 C6, ↓ci_6_b C6, ci_7 C6, ↓ci_7_b C6, cr_9 C6, ↓cr_9_b C6, cr_10 C6, ↓cr_10_b C6, cr_11 C6, ↓cr_11_b C6, cr_13 C6, ↓cr_13_b C6, cr_14 C6, ↓cr_14_b C6, cr_15 C6, ↓cr_15_b C6, cr_16 C6, ↓cr_16_b C6, cr_17 C6, ↓cr_17_b C6, cr_18 C6, ↓cr_18_b C6, cr_19 C6, ↓cr_19_b C6, cr_20 C6, ↓cr_20_b C6, cr_21 C6, ↓cr_21_b C6, cr_22 C6, ↓cr_22_b C6, cr_23 C6, ↓cr_23_b C6, cr_24 C6, ↓cr_24_b C6, cr_25 C6, ↓cr_25_b C6, cr_26 C6, ↓cr_26_b C6, ca_9 HA.1 C6, ↓ca_9_b HA.1 C6, ca_10 HA.1 C6, ↓ca_10_b HA.1 C6, ca_11 HA.1 C6, ↓ca_11_b HA.1 C6, ca_13 HA.1 C6, ↓ca_13_b HA.1 C6, ca_14 HA.1 C6, ↓ca_14_b HA.1 C6, ca_15 HA.1 C6, ↓ca_15_b HA.1 C6, ca_16 HA.1 C6, ↓ca_16_b HA.1 C6, ca_17 HA.1 C6, ↓ca_17_b HA.1 C6, ca_18 HA.1 C6, ↓ca_18_b HA.1 C6, ca_19 HA.1 C6, ↓ca_19_b HA.1 C6, ca_20 HA.1 C6, ↓ca_20_b HA.1 C6, ca_21 HA.1 C6, ↓ca_21_b HA.1 C6, ca_22 HA.1 C6, ↓ca_22_b HA.1 C6, ca_23 HA.1 C6, ↓ca_23_b HA.1 C6, ca_24 HA.1 C6, ↓ca_24_b HA.1 C6, ca_25 HA.1 C6, ↓ca_25_b HA.1 C6, ca_26 HA.1 C6, ↓ca_26_b HA.1 C6, m_i C6.1, ↓m_i_b C6.1, m_p C6.1, ↓m_p_b C6.1, m_l C6.1, ↓m_l_b C6.1, m_pl C6.1, ↓m_pl_b C6.1, mr_15 C6.1, ↓mr_15_b C6.1, mr_16 C6.1, ↓mr_16_b C6.1, mr_17 C6.1, ↓mr_17_b C6.1, mr_18 C6.1, ↓mr_18_b C6.1, mr_21 C6.1, ↓mr_21_b C6.1, mr_22 C6.1, ↓mr_22_b C6.1, mr_23 C6.1, ↓mr_23_b C6.1, mr_24 C6.1, ↓mr_24_b C6.1, mr_25 C6.1, ↓mr_25_b C6.1, mr_30 C6.1, ↓mr_30_b C6.1, mr_31 C6.1, ↓mr_31_b C6.1, l2, K_mul, ↓bd_e (e7), e7]
            rfl
        · rw [if_neg c] at eb es em
          refine ⟨(K (shr (qL a 0 0) i (k + 1)), J (mcr (qL a) (qS a) z i (k + 1)).2, J (k + 1 : Nat)), h6, ?_, rfl, fm_tr f5 f6, by rw [em]; exact x6⟩
          rw [es, em]
          unfold B_md_miceAll_67
          try simp only [j_0, j_1, j_2, j_3, j_4, j_5, j_6, j_7, j_8, j_9, j_10, j_11, j_12, j_13, j_14, j_15, j_16, j_17, j_18, j_19, j_20, j_21, j_22, j_23, j_24, j_25, j_26, j_27, j_28, j_29, j_30, j_31, j_32, j_33, j_34, j_35, j_36, j_37, j_38, j_39, j_40, j_41, j_42, j_43, j_44, j_45, j_46, j_47, j_48, j_49, j_50, j_51, j_52, j_57, j_59, j_63, j_74, j_75, j_93, j_97, j_99, j_100, j_122, j_200, j_255, j_300, j_465, j_496, j_900, j_999, j_1000, j_65536, j_65537, j_99999, j_252645135, j_858993459, j_1431655765, k_0, k_1, k_27, k_32, k_74, k_75, k_100, k_1000, k_65537]
          simp (disch := first | with_reducible assumption | omega | trivial) only [↓bn_s1, ↓bd_s1, ↓ei_l1, ↓ei_r1, ↓bn_if, ↓ilt_1, ↓ilt_0, ↓ieq_1, ↓ieq_0, bn_s1, bd_s1, ei_l1, ei_r1, J_add, J_sub, J_mul, J_neg, J_lt, J_le, J_eq, dv_J, rm_J, if_pos, if_neg, ↓reduceIte, bitJ, shlJ, orJ, j_0, j_1, j_2, j_3, j_4, j_5, j_6, j_7, j_8, j_9, j_10, j_11, j_12, j_13, j_14, j_15, j_16, j_17, j_18, j_19, j_20, j_21, j_22, j_23, j_24, j_25, j_26, j_27, j_28, j_29, j_30, j_31, j_32, j_33, j_34, j_35, j_36, j_37, j_38, j_39, j_40, j_41, j_42, j_43, j_44, j_45, j_46, j_47, j_48, j_49, j_50, j_51, j_52, j_57, j_59, j_63, j_74, j_75, j_93, j_97, j_99, j_100, j_122, j_200, j_255, j_300, j_465, j_496, j_900, j_999, j_1000, j_65536, j_65537, j_99999, j_252645135, j_858993459, j_1431655765, k_0, k_1, k_27, k_32, k_74, k_75, k_100, k_1000, k_65537, ↓bn_e (e6), e6, ↓bn_e (eb), eb, cl_r C6, ↓cl_r_b C6, cl_q C6, ↓cl_q_b C6, ci_0 C6, ↓ci_0_b C6, ci_1 C6, ↓ci_1_b C6, ci_2 C6, ↓ci_2_b C6, ci_3 C6, ↓ci_3_b C6, ci_4 C6, ↓ci_4_b C6, ci_5 C6, ↓ci_5_b C6, ci_6 C6, ↓ci_6_b C6, ci_7 C6, ↓ci_7_b C6, cr_9 C6, ↓cr_9_b C6, cr_10 C6, ↓cr_10_b C6, cr_11 C6, ↓cr_11_b C6, cr_13 C6, ↓cr_13_b C6, cr_14 C6, ↓cr_14_b C6, cr_15 C6, ↓cr_15_b C6, cr_16 C6, ↓cr_16_b C6, cr_17 C6, ↓cr_17_b C6, cr_18 C6, ↓cr_18_b C6, cr_19 C6, ↓cr_19_b C6, cr_20 C6, ↓cr_20_b C6, cr_21 C6, ↓cr_21_b C6, cr_22 C6, ↓cr_22_b C6, cr_23 C6, ↓cr_23_b C6, cr_24 C6, ↓cr_24_b C6, cr_25 C6, ↓cr_25_b C6, cr_26 C6, ↓cr_26_b C6, ca_9 HA.1 C6, ↓ca_9_b HA.1 C6, ca_10 HA.1 C6, ↓ca_10_b HA.1 C6, ca_11 HA.1 C6, ↓ca_11_b HA.1 C6, ca_13 HA.1 C6, ↓ca_13_b HA.1 C6, ca_14 HA.1 C6, ↓ca_14_b HA.1 C6, ca_15 HA.1 C6, ↓ca_15_b HA.1 C6, ca_16 HA.1 C6, ↓ca_16_b HA.1 C6, ca_17 HA.1 C6, ↓ca_17_b HA.1 C6, ca_18 HA.1 C6, ↓ca_18_b HA.1 C6, ca_19 HA.1 C6, ↓ca_19_b HA.1 C6, ca_20 HA.1 C6, ↓ca_20_b HA.1 C6, ca_21 HA.1 C6, ↓ca_21_b HA.1 C6, ca_22 HA.1 C6, ↓ca_22_b HA.1 C6, ca_23 HA.1 C6, ↓ca_23_b HA.1 C6, ca_24 HA.1 C6, ↓ca_24_b HA.1 C6, ca_25 HA.1 C6, ↓ca_25_b HA.1 C6, ca_26 HA.1 C6, ↓ca_26_b HA.1 C6, m_i C6.1, ↓m_i_b C6.1, m_p C6.1, ↓m_p_b C6.1, m_l C6.1, ↓m_l_b C6.1, m_pl C6.1, ↓m_pl_b C6.1, mr_15 C6.1, ↓mr_15_b C6.1, mr_16 C6.1, ↓mr_16_b C6.1, mr_17 C6.1, ↓mr_17_b C6.1, mr_18 C6.1, ↓mr_18_b C6.1, mr_21 C6.1, ↓mr_21_b C6.1, mr_22 C6.1, ↓mr_22_b C6.1, mr_23 C6.1, ↓mr_23_b C6.1, mr_24 C6.1, ↓mr_24_b C6.1, mr_25 C6.1, ↓mr_25_b C6.1, mr_30 C6.1, ↓mr_30_b C6.1, mr_31 C6.1, ↓mr_31_b C6.1, l1, K_mul]
          rfl) (fun s h5 hI => by
        obtain ⟨rfl, f5, x5⟩ := hI
        refine ⟨_, h5, ?_, rfl, f5, x5⟩
        unfold B_md_miceAll_67
        try simp only [j_0, j_1, j_2, j_3, j_4, j_5, j_6, j_7, j_8, j_9, j_10, j_11, j_12, j_13, j_14, j_15, j_16, j_17, j_18, j_19, j_20, j_21, j_22, j_23, j_24, j_25, j_26, j_27, j_28, j_29, j_30, j_31, j_32, j_33, j_34, j_35, j_36, j_37, j_38, j_39, j_40, j_41, j_42, j_43, j_44, j_45, j_46, j_47, j_48, j_49, j_50, j_51, j_52, j_57, j_59, j_63, j_74, j_75, j_93, j_97, j_99, j_100, j_122, j_200, j_255, j_300, j_465, j_496, j_900, j_999, j_1000, j_65536, j_65537, j_99999, j_252645135, j_858993459, j_1431655765, k_0, k_1, k_27, k_32, k_74, k_75, k_100, k_1000, k_65537]
        simp (disch := first | with_reducible assumption | omega | trivial) only [↓bn_s1, ↓bd_s1, ↓ei_l1, ↓ei_r1, ↓bn_if, ↓ilt_1, ↓ilt_0, ↓ieq_1, ↓ieq_0, bn_s1, bd_s1, ei_l1, ei_r1, J_add, J_sub, J_mul, J_neg, J_lt, J_le, J_eq, dv_J, rm_J, if_pos, if_neg, ↓reduceIte, bitJ, shlJ, orJ, j_0, j_1, j_2, j_3, j_4, j_5, j_6, j_7, j_8, j_9, j_10, j_11, j_12, j_13, j_14, j_15, j_16, j_17, j_18, j_19, j_20, j_21, j_22, j_23, j_24, j_25, j_26, j_27, j_28, j_29, j_30, j_31, j_32, j_33, j_34, j_35, j_36, j_37, j_38, j_39, j_40, j_41, j_42, j_43, j_44, j_45, j_46, j_47, j_48, j_49, j_50, j_51, j_52, j_57, j_59, j_63, j_74, j_75, j_93, j_97, j_99, j_100, j_122, j_200, j_255, j_300, j_465, j_496, j_900, j_999, j_1000, j_65536, j_65537, j_99999, j_252645135, j_858993459, j_1431655765, k_0, k_1, k_27, k_32, k_74, k_75, k_100, k_1000, k_65537])
    have me := mcr_e HA.1 (S := qS a) hz.1 hz.2 i N
    rw [me.2] at y5
    have C5 := RC_fm f5 (by omega) C3
    have mp := mcr_p HA.1 hz.1 hz.2 W i N
    have en := D_netOf HA.1 C5 x5 mp.1.2.2.1 hz.1 hz.2
    rw [net_mcr HA.1 hz.1 hz.2 W] at en
    exact ⟨h4, h5, e4, by rw [e5, y5], qr_91 f5, en, x5, fun k => fm_fL f5 (by omega) k⟩
  obtain ⟨y3, h3, e3, q3, v32, v33, v34, v35⟩ := lp_for (b := B_md_miceAll_47 88 (J z) (J N)) (f := FU) (s := J 0) (h := h2) (fun i s h' => s = J i ∧ Qr h h' ∧ fL h' 88 32 = K (100 ^ N) ∧ fL h' 88 33 = K (sm i (fun c => mdr (qL a) (qS a) z N c)) ∧ fL h' 88 34 = K (sm i (fun c => mhr (qL a) (qS a) z N c)) ∧ fL h' 88 35 = K (sm i (fun c => mlo (qL a) (qS a) z N c))) (fun _ h' => Qr h h' ∧ fL h' 88 32 = K (100 ^ N) ∧ fL h' 88 33 = K (sm P (fun c => mdr (qL a) (qS a) z N c)) ∧ fL h' 88 34 = K (sm P (fun c => mhr (qL a) (qS a) z N c)) ∧ fL h' 88 35 = K (sm P (fun c => mlo (qL a) (qS a) z N c))) P (by unfold FU; omega) ⟨rfl, q2, u32, u33, u34, u35⟩ (fun i s h3 hi hI => by
      obtain ⟨rfl, q3, v32, v33, v34, v35⟩ := hI
      obtain ⟨h4, h5, e4, e5, q5, en, x5, l5⟩ := way i h3 (by omega) q3
      have q05 := qr_tr q3 q5
      have C5 := RC_qr q05 C0
      have hb := mhg_b HA.1 W.1 hz.1 hz.2 N i
      have mp := mcc_p hz.1 (show z < 5 by omega) W.1 i N
      have ll := J_long (a := (mcc (qS a) z i N).2) (by omega) (by omega)
      have lh := J_long (a := 1000 + mhg (qL a) (qS a) z N i) (by omega) (by omega)
      have g33 : gL h5 88 13 33 = some (K (sm i (fun c => mdr (qL a) (qS a) z N c))) := by rw [gl C5.1, l5, v33]
      obtain ⟨h6, hh6⟩ : ∃ h6, h6 = wG h5 88 33 (sm i (fun c => mdr (qL a) (qS a) z N c) + mdr (qL a) (qS a) z N i) := ⟨_, rfl⟩
      have q6 : Qr h h6 := by rw [hh6]; exact qr_tr q05 (qr_g _)
      have C6 := RC_qr q6 C0
      have x6 : XR (mcr (qL a) (qS a) z i N).1 h6 := by rw [hh6]; exact x5
      have en6 := D_netOf HA.1 C6 x6 (mcr_p HA.1 hz.1 hz.2 W i N).1.2.2.1 hz.1 hz.2
      rw [net_mcr HA.1 hz.1 hz.2 W] at en6
      have g34 : gL h6 88 13 34 = some (K (sm i (fun c => mhr (qL a) (qS a) z N c))) := by rw [gl C6.1, hh6, fLn (by omega), l5, v34]
      obtain ⟨h7, hh7⟩ : ∃ h7, h7 = wG h6 88 34 (sm i (fun c => mhr (qL a) (qS a) z N c) + mhr (qL a) (qS a) z N i) := ⟨_, rfl⟩
      have q7 : Qr h h7 := by rw [hh7]; exact qr_tr q6 (qr_g _)
      have C7 := RC_qr q7 C0
      have g35 : gL h7 88 13 35 = some (K (sm i (fun c => mlo (qL a) (qS a) z N c))) := by rw [gl C7.1, hh7, fLn (by omega), hh6, fLn (by omega), l5, v35]
      have el : shr (qL a 0 0) i N * (mcc (qS a) z i N).2 = mlo (qL a) (qS a) z N i := rfl
      have eh : shr (qL a 0 0) i N * (1000 + mhg (qL a) (qS a) z N i) = mhr (qL a) (qS a) z N i := rfl
      refine ⟨J (i + 1 : Nat), wG h7 88 35 (sm i (fun c => mlo (qL a) (qS a) z N c) + mlo (qL a) (qS a) z N i), ?_, rfl, qr_tr q7 (qr_g _), ?_, ?_, ?_, fLs _ _ _ _⟩
      · unfold B_md_miceAll_47
        by_cases d : mhg (qL a) (qS a) z N i < 0
        · have md : mdr (qL a) (qS a) z N i = 0 := if_pos d
          rw [md] at hh6
          try simp only [j_0, j_1, j_2, j_3, j_4, j_5, j_6, j_7, j_8, j_9, j_10, j_11, j_12, j_13, j_14, j_15, j_16, j_17, j_18, j_19, j_20, j_21, j_22, j_23, j_24, j_25, j_26, j_27, j_28, j_29, j_30, j_31, j_32, j_33, j_34, j_35, j_36, j_37, j_38, j_39, j_40, j_41, j_42, j_43, j_44, j_45, j_46, j_47, j_48, j_49, j_50, j_51, j_52, j_57, j_59, j_63, j_74, j_75, j_93, j_97, j_99, j_100, j_122, j_200, j_255, j_300, j_465, j_496, j_900, j_999, j_1000, j_65536, j_65537, j_99999, j_252645135, j_858993459, j_1431655765, k_0, k_1, k_27, k_32, k_74, k_75, k_100, k_1000, k_65537]
          simp (disch := first | with_reducible assumption | omega | trivial) only [↓bn_s1, ↓bd_s1, ↓ei_l1, ↓ei_r1, ↓bn_if, ↓ilt_1, ↓ilt_0, ↓ieq_1, ↓ieq_0, bn_s1, bd_s1, ei_l1, ei_r1, J_add, J_sub, J_mul, J_neg, J_lt, J_le, J_eq, dv_J, rm_J, if_pos, if_neg, ↓reduceIte, bitJ, shlJ, orJ, j_0, j_1, j_2, j_3, j_4, j_5, j_6, j_7, j_8, j_9, j_10, j_11, j_12, j_13, j_14, j_15, j_16, j_17, j_18, j_19, j_20, j_21, j_22, j_23, j_24, j_25, j_26, j_27, j_28, j_29, j_30, j_31, j_32, j_33, j_34, j_35, j_36, j_37, j_38, j_39, j_40, j_41, j_42, j_43, j_44, j_45, j_46, j_47, j_48, j_49, j_50, j_51, j_52, j_57, j_59, j_63, j_74, j_75, j_93, j_97, j_99, j_100, j_122, j_200, j_255, j_300, j_465, j_496, j_900, j_999, j_1000, j_65536, j_65537, j_99999, j_252645135, j_858993459, j_1431655765, k_0, k_1, k_27, k_32, k_74, k_75, k_100, k_1000, k_65537, sh, ↓bn_e (e4), e4, ↓bd_e (e5), e5, ↓bn_e (g33), g33, ↓bn_e (en), en, K_add, K_mul, ↓m_pl_b C5.1, ← hh6, ↓bn_e (g34), g34, ↓bn_e (en6), en6, lh, eh, ↓m_pl_b C6.1, ← hh7, ↓bn_e (g35), g35, ll, el, ↓m_pl_b C7.1]
          rfl
        · have md : mdr (qL a) (qS a) z N i = shr (qL a 0 0) i N := if_neg d
          rw [md] at hh6
          try simp only [j_0, j_1, j_2, j_3, j_4, j_5, j_6, j_7, j_8, j_9, j_10, j_11, j_12, j_13, j_14, j_15, j_16, j_17, j_18, j_19, j_20, j_21, j_22, j_23, j_24, j_25, j_26, j_27, j_28, j_29, j_30, j_31, j_32, j_33, j_34, j_35, j_36, j_37, j_38, j_39, j_40, j_41, j_42, j_43, j_44, j_45, j_46, j_47, j_48, j_49, j_50, j_51, j_52, j_57, j_59, j_63, j_74, j_75, j_93, j_97, j_99, j_100, j_122, j_200, j_255, j_300, j_465, j_496, j_900, j_999, j_1000, j_65536, j_65537, j_99999, j_252645135, j_858993459, j_1431655765, k_0, k_1, k_27, k_32, k_74, k_75, k_100, k_1000, k_65537]
          simp (disch := first | with_reducible assumption | omega | trivial) only [↓bn_s1, ↓bd_s1, ↓ei_l1, ↓ei_r1, ↓bn_if, ↓ilt_1, ↓ilt_0, ↓ieq_1, ↓ieq_0, bn_s1, bd_s1, ei_l1, ei_r1, J_add, J_sub, J_mul, J_neg, J_lt, J_le, J_eq, dv_J, rm_J, if_pos, if_neg, ↓reduceIte, bitJ, shlJ, orJ, j_0, j_1, j_2, j_3, j_4, j_5, j_6, j_7, j_8, j_9, j_10, j_11, j_12, j_13, j_14, j_15, j_16, j_17, j_18, j_19, j_20, j_21, j_22, j_23, j_24, j_25, j_26, j_27, j_28, j_29, j_30, j_31, j_32, j_33, j_34, j_35, j_36, j_37, j_38, j_39, j_40, j_41, j_42, j_43, j_44, j_45, j_46, j_47, j_48, j_49, j_50, j_51, j_52, j_57, j_59, j_63, j_74, j_75, j_93, j_97, j_99, j_100, j_122, j_200, j_255, j_300, j_465, j_496, j_900, j_999, j_1000, j_65536, j_65537, j_99999, j_252645135, j_858993459, j_1431655765, k_0, k_1, k_27, k_32, k_74, k_75, k_100, k_1000, k_65537, sh, ↓bn_e (e4), e4, ↓bd_e (e5), e5, ↓bn_e (g33), g33, ↓bn_e (en), en, K_add, K_mul, ↓m_pl_b C5.1, ← hh6, ↓bn_e (g34), g34, ↓bn_e (en6), en6, lh, eh, ↓m_pl_b C6.1, ← hh7, ↓bn_e (g35), g35, ll, el, ↓m_pl_b C7.1]
          rfl
      · rw [fLn (by omega), hh7, fLn (by omega), hh6, fLn (by omega), l5]; exact v32
      · rw [fLn (by omega), hh7, fLn (by omega), hh6, fLs]; rfl
      · rw [fLn (by omega), hh7, fLs]; rfl) (fun s h3 hI => by
      obtain ⟨rfl, q3, v32, v33, v34, v35⟩ := hI
      refine ⟨(), h3, ?_, q3, v32, v33, v34, v35⟩
      unfold B_md_miceAll_47
      try simp only [j_0, j_1, j_2, j_3, j_4, j_5, j_6, j_7, j_8, j_9, j_10, j_11, j_12, j_13, j_14, j_15, j_16, j_17, j_18, j_19, j_20, j_21, j_22, j_23, j_24, j_25, j_26, j_27, j_28, j_29, j_30, j_31, j_32, j_33, j_34, j_35, j_36, j_37, j_38, j_39, j_40, j_41, j_42, j_43, j_44, j_45, j_46, j_47, j_48, j_49, j_50, j_51, j_52, j_57, j_59, j_63, j_74, j_75, j_93, j_97, j_99, j_100, j_122, j_200, j_255, j_300, j_465, j_496, j_900, j_999, j_1000, j_65536, j_65537, j_99999, j_252645135, j_858993459, j_1431655765, k_0, k_1, k_27, k_32, k_74, k_75, k_100, k_1000, k_65537]
      simp (disch := first | with_reducible assumption | omega | trivial) only [↓bn_s1, ↓bd_s1, ↓ei_l1, ↓ei_r1, ↓bn_if, ↓ilt_1, ↓ilt_0, ↓ieq_1, ↓ieq_0, bn_s1, bd_s1, ei_l1, ei_r1, J_add, J_sub, J_mul, J_neg, J_lt, J_le, J_eq, dv_J, rm_J, if_pos, if_neg, ↓reduceIte, bitJ, shlJ, orJ, j_0, j_1, j_2, j_3, j_4, j_5, j_6, j_7, j_8, j_9, j_10, j_11, j_12, j_13, j_14, j_15, j_16, j_17, j_18, j_19, j_20, j_21, j_22, j_23, j_24, j_25, j_26, j_27, j_28, j_29, j_30, j_31, j_32, j_33, j_34, j_35, j_36, j_37, j_38, j_39, j_40, j_41, j_42, j_43, j_44, j_45, j_46, j_47, j_48, j_49, j_50, j_51, j_52, j_57, j_59, j_63, j_74, j_75, j_93, j_97, j_99, j_100, j_122, j_200, j_255, j_300, j_465, j_496, j_900, j_999, j_1000, j_65536, j_65537, j_99999, j_252645135, j_858993459, j_1431655765, k_0, k_1, k_27, k_32, k_74, k_75, k_100, k_1000, k_65537, sh])
  have M3 := MS_fm q3.1 C0.1
  refine ⟨h3, ?_, q3, by rw [gl M3, v32], by rw [gl M3, v33], by rw [gl M3, v34], by rw [gl M3, v35]⟩
  unfold F_md_miceAll
  rw [ck_e (MS_k C0.1)]
  try simp only [j_0, j_1, j_2, j_3, j_4, j_5, j_6, j_7, j_8, j_9, j_10, j_11, j_12, j_13, j_14, j_15, j_16, j_17, j_18, j_19, j_20, j_21, j_22, j_23, j_24, j_25, j_26, j_27, j_28, j_29, j_30, j_31, j_32, j_33, j_34, j_35, j_36, j_37, j_38, j_39, j_40, j_41, j_42, j_43, j_44, j_45, j_46, j_47, j_48, j_49, j_50, j_51, j_52, j_57, j_59, j_63, j_74, j_75, j_93, j_97, j_99, j_100, j_122, j_200, j_255, j_300, j_465, j_496, j_900, j_999, j_1000, j_65536, j_65537, j_99999, j_252645135, j_858993459, j_1431655765, k_0, k_1, k_27, k_32, k_74, k_75, k_100, k_1000, k_65537]
  simp (disch := first | with_reducible assumption | omega | trivial) only [↓bn_s1, ↓bd_s1, ↓ei_l1, ↓ei_r1, ↓bn_if, ↓ilt_1, ↓ilt_0, ↓ieq_1, ↓ieq_0, bn_s1, bd_s1, ei_l1, ei_r1, J_add, J_sub, J_mul, J_neg, J_lt, J_le, J_eq, dv_J, rm_J, if_pos, if_neg, ↓reduceIte, bitJ, shlJ, orJ, j_0, j_1, j_2, j_3, j_4, j_5, j_6, j_7, j_8, j_9, j_10, j_11, j_12, j_13, j_14, j_15, j_16, j_17, j_18, j_19, j_20, j_21, j_22, j_23, j_24, j_25, j_26, j_27, j_28, j_29, j_30, j_31, j_32, j_33, j_34, j_35, j_36, j_37, j_38, j_39, j_40, j_41, j_42, j_43, j_44, j_45, j_46, j_47, j_48, j_49, j_50, j_51, j_52, j_57, j_59, j_63, j_74, j_75, j_93, j_97, j_99, j_100, j_122, j_200, j_255, j_300, j_465, j_496, j_900, j_999, j_1000, j_65536, j_65537, j_99999, j_252645135, j_858993459, j_1431655765, k_0, k_1, k_27, k_32, k_74, k_75, k_100, k_1000, k_65537, ↓m_pl_b C0.1, ↓m_pl_b Ma, ↓m_pl_b Mb, ↓m_pl_b Mc, ← hh1, ↓bd_e (e2), e2, ↓bd_e (e3), e3]
