/-! gates: how calls are refused, once for all -/
def Cg (o : Option (Int32 × Hp)) (h : Hp) (v : Int) : Prop := ∃ h', o = some (J v, h') ∧ Sc h h' ∧ fi h' 0 12 = fi h 0 12
theorem cg_q {o : Option (Int32 × Hp)} {h : Hp} {v : Int} (H : Cg o (wF h 0 12 0) v) : Cq o h v 0 := by
  obtain ⟨h', e, s, g⟩ := H
  exact ⟨h', e, sc_tr (sc_w h 0) s, g.trans (fi12 h (by omega))⟩
theorem pr_L {a : Ab} {t : Nat} {h : Hp} (HA : AW a) (H : CI a t h) : F_cs_noLake 0 h = some (J (if ¬ qL a 1 0 = 0 then 0 else 1)) := by
  by_cases c : qL a 1 0 = 0
  · rw [if_neg (by omega), nl_1 HA H c]
  · rw [if_pos c, nl_0 HA H c]
theorem pr_H {a : Ab} {t : Nat} {h : Hp} {z : Int} (HA : AW a) (H : CI a t h) (hz : rng z) : F_cs_noHouse 0 (J z) h = some (J (if inr z (qL a 1 0) then 0 else 1)) := by
  by_cases c : inr z (qL a 1 0)
  · rw [if_pos c, n1_0 HA H hz c]
  · rw [if_neg c, n1_1 HA H hz c]
theorem pr_R {a : Ab} {t : Nat} {h : Hp} {z : Int} (HA : AW a) (H : CI a t h) (hz : rng z) : F_cs_noRope 0 (J z) h = some (J (if inr z (qL a 2 0) then 0 else 1)) := by
  by_cases c : inr z (qL a 2 0)
  · rw [if_pos c, n2_0 HA H hz c]
  · rw [if_neg c, n2_1 HA H hz c]
theorem pr_G {a : Ab} {t : Nat} {h : Hp} {z : Int} (HA : AW a) (H : CI a t h) (hz : rng z) : F_cs_noGuest 0 (J z) h = some (J (if inr z (qL a 3 0) then 0 else 1)) := by
  by_cases c : inr z (qL a 3 0)
  · rw [if_pos c, n3_0 HA H hz c]
  · rw [if_neg c, n3_1 HA H hz c]
theorem pr_D {a : Ab} {t : Nat} {h : Hp} {z : Int} (HA : AW a) (H : CI a t h) (hz : rng z) : F_cs_noDrinker 0 (J z) h = some (J (if inr z (qL a 4 0) then 0 else 1)) := by
  by_cases c : inr z (qL a 4 0)
  · rw [if_pos c, n4_0 HA H hz c]
  · rw [if_neg c, n4_1 HA H hz c]
theorem pr_o {n lo hi : Int} {lo' hi' : Int32} (e1 : lo' = J lo) (e2 : hi' = J hi) (hz : rng n) (b : -1000000 ≤ lo ∧ lo < 1000000 ∧ -1000000 ≤ hi ∧ hi < 1000000) : F_cs_outside (J n) lo' hi' = some (J (if lo ≤ n ∧ n ≤ hi then 0 else 1)) := by
  rw [e1, e2]
  by_cases c : lo ≤ n ∧ n ≤ hi
  · rw [if_pos c, out_0 hz b.1 b.2.1 b.2.2.1 b.2.2.2 c]
  · rw [if_neg c, out_1 hz b.1 b.2.1 b.2.2.1 b.2.2.2 c]
theorem pr_w {s n : Int} (hs : rng s) (hn' : rng n) : F_cs_wrongDraws (J s) (J n) = some (J (if (0 ≤ s ∧ s ≤ 65536) ∧ (0 ≤ n ∧ n ≤ 20) then 0 else 1)) := by
  have e1 := pr_o (n := s) j_0 j_65536 hs (by omega)
  have e2 := pr_o (n := n) j_0 j_20 hn' (by omega)
  unfold F_cs_wrongDraws
  by_cases c : 0 ≤ s ∧ s ≤ 65536
  · by_cases d : 0 ≤ n ∧ n ≤ 20
    · rw [if_pos c] at e1; rw [if_pos d] at e2; rw [if_pos ⟨c, d⟩, e1, bn_s1, if_pos (by rw [j_0]), e2, bn_s1, if_pos (by rw [j_0]), j_0]
    · rw [if_pos c] at e1; rw [if_neg d] at e2; rw [if_neg (fun x => d x.2), e1, bn_s1, if_pos (by rw [j_0]), e2, bn_s1, if_neg (by decide +kernel), j_1]
  · rw [if_neg c] at e1; rw [if_neg (fun x => c x.1), e1, bn_s1, if_neg (by decide +kernel), j_1]
theorem J10 : ¬ J 1 = J 0 := by decide +kernel
/-- one reason -/
theorem cq_1 {a : Ab} {t : Nat} {h : Hp} {K : Hp → Option (Int32 × Hp)} {P : Option Int32} {p : Prop} [Decidable p] {w : Int32} (V : Ab → Int) (hV : V (sTr a 0) = V a) (hw : w = J (-1)) (HA : AW a) (H : CI a t h) (hP : P = some (J (if p then 0 else 1))) (hk : p → ∀ b h1, qL b = qL a → AW b → CI b t h1 → Cg (K h1) h1 (V b)) : Cq (ck h 0 11 (bn P fun x2 => bd (F_cs_refused 0 x2 (0 : Int32) h) fun x4 h5 => if x4 = (0 : Int32) then K h5 else some (w, h5))) h (if p then V a else -1) (t_p p) := by
  have k := XS_k (XV_x H.1)
  rw [ck_e k, hP, bn_s1, j_0, hw]
  unfold t_p
  by_cases c : p
  · rw [if_pos c, if_pos c, ref_0 k, bd_s1, if_pos rfl, ← hV]
    exact cg_q (hk c _ _ rfl (AW_w (by omega) HA) (CI_w (by omega) H))
  · rw [if_neg c, if_neg c, ref_1 k, bd_s1, if_neg J10]
    exact ⟨_, rfl, sc_w h 1, fi12 h (by omega)⟩
/-- one reason, told by two -/
theorem cq_3 {a : Ab} {t : Nat} {h : Hp} {K : Hp → Option (Int32 × Hp)} {P : Option Int32} {E : Int32 → Option Int32} {p : Prop} [Decidable p] {w : Int32} (V : Ab → Int) (hV : V (sTr a 0) = V a) (hw : w = J (-1)) (HA : AW a) (H : CI a t h) (hP : bn P E = some (J (if p then 0 else 1))) (hk : p → ∀ b h1, qL b = qL a → AW b → CI b t h1 → Cg (K h1) h1 (V b)) : Cq (ck h 0 11 (bn P fun x2 => bn (E x2) fun q5 => bd (F_cs_refused 0 q5 (0 : Int32) h) fun x4 h5 => if x4 = (0 : Int32) then K h5 else some (w, h5))) h (if p then V a else -1) (t_p p) := by
  have e : (bn P fun x2 => bn (E x2) fun q5 => bd (F_cs_refused 0 q5 (0 : Int32) h) fun x4 h5 => if x4 = (0 : Int32) then K h5 else some (w, h5)) = bn (bn P E) fun q5 => bd (F_cs_refused 0 q5 (0 : Int32) h) fun x4 h5 => if x4 = (0 : Int32) then K h5 else some (w, h5) := by
    cases P with
    | none => rfl
    | some x => rw [bn_s1, bn_s1]
  rw [e]
  exact cq_1 V hV hw HA H hP hk
/-- two reasons: not there, a wrong number -/
theorem cq_2 {a : Ab} {t : Nat} {h : Hp} {K : Hp → Option (Int32 × Hp)} {P Q : Option Int32} {p q : Prop} [Decidable p] [Decidable q] {w : Int32} (V : Ab → Int) (hV : V (sTr a 0) = V a) (hw : w = J (-1)) (HA : AW a) (H : CI a t h) (hP : P = some (J (if p then 0 else 1))) (hQ : Q = some (J (if q then 0 else 1))) (hk : p → q → ∀ b h1, qL b = qL a → AW b → CI b t h1 → Cg (K h1) h1 (V b)) : Cq (ck h 0 11 (bn P fun x2 => bn Q fun x4 => bd (F_cs_refused 0 x2 x4 h) fun x6 h7 => if x6 = (0 : Int32) then K h7 else some (w, h7))) h (if p ∧ q then V a else -1) (t_2 p q) := by
  have k := XS_k (XV_x H.1)
  rw [ck_e k, hP, bn_s1, hQ, bn_s1, hw, j_0]
  unfold t_2
  by_cases c : p
  · by_cases d : q
    · rw [if_pos c, if_pos d, if_pos (⟨c, d⟩ : p ∧ q), if_pos c, if_pos d, ref_0 k, bd_s1, if_pos rfl, ← hV]
      exact cg_q (hk c d _ _ rfl (AW_w (by omega) HA) (CI_w (by omega) H))
    · rw [if_pos c, if_neg d, if_neg (fun x => d x.2 : ¬ (p ∧ q)), if_pos c, if_neg d, ref_2 k, bd_s1, if_neg J10]
      exact ⟨_, rfl, sc_w h 2, fi12 h (by omega)⟩
  · rw [if_neg c, if_neg (fun x => c x.1 : ¬ (p ∧ q)), if_neg c, ref_1 k, bd_s1, if_neg J10]
    exact ⟨_, rfl, sc_w h 1, fi12 h (by omega)⟩
/-! the reference's gates -/
theorem ref_x {h : Hp} {y : Int} {y' : Int32} (ey : y' = J y) (H : MS h) (hy : 0 ≤ y ∧ y ≤ 6) : Dq (bd (F_md_refused 88 y' h) fun x h' => some (x, h')) h (-1) y := by
  obtain ⟨h2, e2, q2, f2⟩ := ref_e (y := y) H hy
  rw [ey, e2, bd_s1]
  exact ⟨h2, rfl, q2, f2⟩
theorem dq_0 {o : Option (Int32 × Hp)} {h : Hp} {v tr : Int} (H : Dq o (wF h 88 0 0) v tr) : Dq o h v tr := by
  obtain ⟨h', e, q, f⟩ := H
  exact ⟨h', e, qr_tr (q00 h) q, f⟩
theorem dq_L {a : Ab} {h : Hp} {K : Hp → Option (Int32 × Hp)} {v : Int} (H : RI a h) (hk : ¬ qL a 1 0 = 0 → ∀ h1, RI a h1 → Dq (K h1) h1 v 0) : Dq (ck h 88 13 (bn (pI h 88 13 0 (0 : Int32)) fun h1 => bn (gQ h1 88 13 3) fun x3 => if x3 = none then (bd (F_md_refused 88 (1 : Int32) h1) fun x6 h7 => some (x6, h7)) else K h1)) h (if ¬ qL a 1 0 = 0 then v else -1) (t_p (¬ qL a 1 0 = 0)) := by
  have k := MS_k H.1
  have H1 := RI_0 H
  rw [ck_e k, j_0, pI_J k, bn_s1, gQ_J (MS_k H1.1), bn_s1]
  unfold t_p
  apply dq_0
  by_cases c : qL a 1 0 = 0
  · rw [lk_0 H1 c, if_pos rfl, if_neg (fun x => x c), if_neg (fun x => x c)]
    exact ref_x j_1 H1.1 (by omega)
  · obtain ⟨b, C1⟩ := lk_1 H1 c
    rw [C1.2.1, if_neg (by intro x; cases x), if_pos c, if_pos c]
    exact hk c _ H1
theorem in_x {n lo hi : Int} {lo' hi' : Int32} (e1 : lo' = J lo) (e2 : hi' = J hi) (hz : rng n) (b : -1000000 ≤ lo ∧ lo < 1000000 ∧ -1000000 ≤ hi ∧ hi < 1000000) : F_md_in (J n) lo' hi' = some (J (if lo ≤ n ∧ n ≤ hi then 1 else 0)) := by
  rw [e1, e2]
  by_cases c : lo ≤ n ∧ n ≤ hi
  · rw [if_pos c, in_1 hz b.1 b.2.1 b.2.2.1 b.2.2.2 c]
  · rw [if_neg c, in_0 hz b.1 b.2.1 b.2.2.1 b.2.2.2 c]
theorem dq_N {a : Ab} {h : Hp} {K : Hp → Option (Int32 × Hp)} {v n lo hi : Int} {lo' hi' : Int32} (e1 : lo' = J lo) (e2 : hi' = J hi) (hz : rng n) (bb : -1000000 ≤ lo ∧ lo < 1000000 ∧ -1000000 ≤ hi ∧ hi < 1000000) (H : RI a h) (hk : ¬ qL a 1 0 = 0 → lo ≤ n ∧ n ≤ hi → ∀ h1, RI a h1 → Dq (K h1) h1 v 0) : Dq (ck h 88 13 (bn (pI h 88 13 0 (0 : Int32)) fun h1 => bn (gQ h1 88 13 3) fun x3 => if x3 = none then (bd (F_md_refused 88 (1 : Int32) h1) fun x6 h7 => some (x6, h7)) else (bn (F_md_in (J n) lo' hi') fun x9 => if x9 = (0 : Int32) then (bd (F_md_refused 88 (2 : Int32) h1) fun x11 h12 => some (x11, h12)) else K h1))) h (if ¬ qL a 1 0 = 0 ∧ (lo ≤ n ∧ n ≤ hi) then v else -1) (t_2 (¬ qL a 1 0 = 0) (lo ≤ n ∧ n ≤ hi)) := by
  have k := MS_k H.1
  have H1 := RI_0 H
  rw [ck_e k, j_0, pI_J k, bn_s1, gQ_J (MS_k H1.1), bn_s1, in_x e1 e2 hz bb, bn_s1]
  unfold t_2
  apply dq_0
  by_cases c : qL a 1 0 = 0
  · rw [lk_0 H1 c, if_pos rfl, if_neg (fun x => x.1 c), if_neg (fun x => x c)]
    exact ref_x j_1 H1.1 (by omega)
  · obtain ⟨b, C1⟩ := lk_1 H1 c
    rw [C1.2.1, if_neg (by intro x; cases x)]
    by_cases d : lo ≤ n ∧ n ≤ hi
    · rw [if_pos d, if_neg J10, if_pos ⟨c, d⟩, if_pos c, if_pos d]
      exact hk c d _ H1
    · rw [if_neg d, if_pos rfl, if_neg (fun x => d x.2), if_pos c, if_neg d]
      exact ref_x j_2 H1.1 (by omega)
/-- a number says why: two steps, three steps -/
theorem dq_w {a : Ab} {h : Hp} {K : Hp → Option (Int32 × Hp)} {α : Type} {X : Hp → Option α} {R : α → Hp → Option Int32} {v : Int} {p q : Prop} [Decidable p] [Decidable q] (H : RI a h) (hw : bn (X (wF h 88 0 0)) (fun x => R x (wF h 88 0 0)) = some (J (t_2 p q))) (hk : p → q → ∀ h1, RI a h1 → Dq (K h1) h1 v 0) : Dq (ck h 88 13 (bn (pI h 88 13 0 (0 : Int32)) fun h1 => bn (X h1) fun x4 => bn (R x4 h1) fun x6 => if (0 : Int32) < x6 then (bd (F_md_refused 88 x6 h1) fun x8 h9 => some (x8, h9)) else K h1)) h (if p ∧ q then v else -1) (t_2 p q) := by
  have k := MS_k H.1
  have H1 := RI_0 H
  have e : (bn (X (wF h 88 0 0)) fun x4 => bn (R x4 (wF h 88 0 0)) fun x6 => if (0 : Int32) < x6 then (bd (F_md_refused 88 x6 (wF h 88 0 0)) fun x8 h9 => some (x8, h9)) else K (wF h 88 0 0)) = bn (bn (X (wF h 88 0 0)) (fun x => R x (wF h 88 0 0))) fun x6 => if (0 : Int32) < x6 then (bd (F_md_refused 88 x6 (wF h 88 0 0)) fun x8 h9 => some (x8, h9)) else K (wF h 88 0 0) := by
    cases X (wF h 88 0 0) with
    | none => rfl
    | some x => rw [bn_s1, bn_s1]
  rw [ck_e k, j_0, pI_J k, bn_s1, ← j_0, e, hw, bn_s1]
  apply dq_0
  unfold t_2
  by_cases c : p
  · by_cases d : q
    · rw [if_pos c, if_pos d, if_pos (⟨c, d⟩ : p ∧ q), if_neg (by decide +kernel)]
      exact hk c d _ H1
    · rw [if_pos c, if_neg d, if_neg (fun x => d x.2 : ¬ (p ∧ q)), if_pos (by decide +kernel)]
      exact ref_x rfl H1.1 (by omega)
  · rw [if_neg c, if_neg (fun x => c x.1 : ¬ (p ∧ q)), if_pos (by decide +kernel)]
    exact ref_x rfl H1.1 (by omega)
theorem dq_w3 {a : Ab} {h : Hp} {K : Hp → Option (Int32 × Hp)} {α : Type} {X : Hp → Option α} {E : α → Option Int32} {R : Int32 → Hp → Option Int32} {v : Int} {p q : Prop} [Decidable p] [Decidable q] (H : RI a h) (hw : bn (X (wF h 88 0 0)) (fun x => bn (E x) (fun y => R y (wF h 88 0 0))) = some (J (t_2 p q))) (hk : p → q → ∀ h1, RI a h1 → Dq (K h1) h1 v 0) : Dq (ck h 88 13 (bn (pI h 88 13 0 (0 : Int32)) fun h1 => bn (X h1) fun x4 => bn (E x4) fun y => bn (R y h1) fun x6 => if (0 : Int32) < x6 then (bd (F_md_refused 88 x6 h1) fun x8 h9 => some (x8, h9)) else K h1)) h (if p ∧ q then v else -1) (t_2 p q) := by
  have e : ∀ (P : Option α) (h1 : Hp), (bn P fun x4 => bn (E x4) fun y => bn (R y h1) fun x6 => if (0 : Int32) < x6 then (bd (F_md_refused 88 x6 h1) fun x8 h9 => some (x8, h9)) else K h1) = bn P fun x4 => bn ((fun x h1 => bn (E x) (fun y => R y h1)) x4 h1) fun x6 => if (0 : Int32) < x6 then (bd (F_md_refused 88 x6 h1) fun x8 h9 => some (x8, h9)) else K h1 := by
    intro P h1
    cases P with
    | none => rfl
    | some x =>
      rw [bn_s1, bn_s1]
      show (bn (E x) fun y => bn (R y h1) fun x6 => _) = bn (bn (E x) fun y => R y h1) _
      cases E x with
      | none => rfl
      | some y => rw [bn_s1, bn_s1]
  have e' := fun h1 => e (X h1) h1
  simp only [e']
  exact dq_w (X := X) (R := fun x h1 => bn (E x) (fun y => R y h1)) H hw hk
/-- the end of the reference's questions -/
theorem dg_e {h h1 : Hp} {v : Int} {o : Option (Int32 × Hp)} (M : MS h) (q : Qr h h1) (e : o = bd (F_md_good 88 (J v) h1) fun x h' => some (x, h')) : Dq o h v 0 := by
  obtain ⟨h2, e2, q2, f2⟩ := good_e (h := h1) (v := v) (MS_fm q.1 M)
  rw [e, e2, bd_s1]
  exact ⟨h2, rfl, qr_tr q q2, f2⟩
theorem pr_i1 {a : Ab} {h : Hp} {z : Int} (HA : AW a) (H : RI a h) (hz : rng z) : F_md_isHouse 88 (J z) h = some (J (if inr z (qL a 1 0) then 1 else 0)) := by
  by_cases c : inr z (qL a 1 0)
  · rw [if_pos c, im1_1 HA H hz c]
  · rw [if_neg c, im1_0 HA H hz c]
theorem pr_i4 {a : Ab} {h : Hp} {z : Int} (HA : AW a) (H : RI a h) (hz : rng z) : F_md_isDrinker 88 (J z) h = some (J (if inr z (qL a 4 0) then 1 else 0)) := by
  by_cases c : inr z (qL a 4 0)
  · rw [if_pos c, im4_1 HA H hz c]
  · rw [if_neg c, im4_0 HA H hz c]
theorem pr_qL {a : Ab} {h : Hp} (H : RI a h) : ∃ o, gQ h 88 13 3 = some o ∧ (if o = none then some (0 : Int32) else some (1 : Int32)) = some (J (if ¬ qL a 1 0 = 0 then 1 else 0)) := by
  refine ⟨fR h 88 3, gQ_J (MS_k H.1), ?_⟩
  by_cases c : qL a 1 0 = 0
  · rw [lk_0 H c, if_pos rfl, if_neg (fun x => x c), j_0]
  · obtain ⟨b, C1⟩ := lk_1 H c
    rw [C1.2.1, if_neg (by intro x; cases x), if_pos c, j_1]
theorem pr_rs {h : Hp} {s n : Int} (k : kd h 88 = 13) (hs : rng s) (hn' : rng n) (p : Prop) [Decidable p] : F_md_refusesSeed 88 (J (if p then 1 else 0)) (J s) (J n) h = some (J (t_2 p ((0 ≤ s ∧ s ≤ 65536) ∧ (0 ≤ n ∧ n ≤ 20)))) := by
  have e1 := in_x (n := s) j_0 j_65536 hs (by omega)
  have e2 := in_x (n := n) j_0 j_20 hn' (by omega)
  unfold F_md_refusesSeed t_2
  rw [ck_e k]
  by_cases c : p
  · rw [if_pos c, if_pos c, if_neg (by decide +kernel), e1, bn_s1]
    by_cases d : 0 ≤ s ∧ s ≤ 65536
    · rw [if_pos d, if_neg (by decide +kernel), e2, bn_s1]
      by_cases e : 0 ≤ n ∧ n ≤ 20
      · rw [if_pos e, if_neg (by decide +kernel), if_pos ⟨d, e⟩, j_0]
      · rw [if_neg e, if_pos (by decide +kernel), if_neg (fun x => e x.2), j_2]
    · rw [if_neg d, if_pos (by decide +kernel), if_neg (fun x => d x.1), j_2]
  · rw [if_neg c, if_neg c, if_pos (by decide +kernel), j_1]
theorem pr_rd {h : Hp} {n : Int} (k : kd h 88 = 13) (hn' : rng n) (p : Prop) [Decidable p] : F_md_refusesDays 88 (J (if p then 1 else 0)) (J n) h = some (J (t_2 p (1 ≤ n ∧ n ≤ 4))) := by
  have e2 := in_x (n := n) j_1 j_4 hn' (by omega)
  unfold F_md_refusesDays t_2
  rw [ck_e k]
  by_cases c : p
  · rw [if_pos c, if_pos c, if_neg (by decide +kernel), e2, bn_s1]
    by_cases e : 1 ≤ n ∧ n ≤ 4
    · rw [if_pos e, if_neg (by decide +kernel), if_pos e, j_0]
    · rw [if_neg e, if_pos (by decide +kernel), if_neg e, j_2]
  · rw [if_neg c, if_neg c, if_pos (by decide +kernel), j_1]
theorem jm1 : (-1 : Int32) = J (-1) := by decide +kernel
theorem jm2 : (-2 : Int32) = J (-2) := by decide +kernel
theorem pr_or {P Q : Option Int32} {p q : Prop} [Decidable p] [Decidable q] (hP : P = some (J (if p then 0 else 1))) (hQ : p → Q = some (J (if q then 0 else 1))) : bn P (fun x2 => if x2 = (0 : Int32) then (bn Q fun x4 => if x4 = (0 : Int32) then some (0 : Int32) else some (1 : Int32)) else some (1 : Int32)) = some (J (if p ∧ q then 0 else 1)) := by
  rw [hP, bn_s1]
  by_cases c : p
  · rw [if_pos c, if_pos (by decide +kernel), hQ c, bn_s1]
    by_cases d : q
    · rw [if_pos d, if_pos (by decide +kernel), if_pos ⟨c, d⟩, j_0]
    · rw [if_neg d, if_neg (by decide +kernel), if_neg (fun x => d x.2), j_1]
  · rw [if_neg c, if_neg (by decide +kernel), if_neg (fun x => c x.1), j_1]
theorem C_isNorthZ {L : Lk} {t : Nat} {h : Hp} {z : Int} (HL : LW L) (HT : TS t h) (HR : TR L t h) (h0 : 0 ≤ z) (h1 : z < L 1 0) : F_to_isNorth t (J z) h = some (J (if L 9 z = 0 then 1 else 0)) := by
  obtain ⟨n, rfl⟩ := Int.eq_ofNat_of_zero_le h0
  exact C_isNorth HL HT HR h1
theorem C_isTiedZ {L : Lk} {b : Nat} {h : Hp} {S : Sk} {k : Int} (HL : LW L) (H : SS b h) (HS : SR L b S h) (hc0 : 0 ≤ S 28) (hc : (S 28).toNat < 2 ^ rn L) (h0 : 0 ≤ k) (hk : k < L 2 0) : F_st_isTied b (J k) h = some (J (if (S 28).toNat.testBit k.toNat = true then 0 else 1)) := by
  obtain ⟨n, rfl⟩ := Int.eq_ofNat_of_zero_le h0
  exact C_isTied HL H HS hc0 hc hk
theorem D_raftOfZ {L : Lk} {b : Nat} {h : Hp} {S : Sk} {z : Int} (HL : LW L) (HC : RC L b h) (HX : XR S h) (hs : stk L S) (h0 : 0 ≤ z) (h1 : z < L 1 0) : F_md_raftOf 88 (J z) h = some (J (raft L (S 28).toNat z : Nat)) := by
  obtain ⟨n, rfl⟩ := Int.eq_ofNat_of_zero_le h0
  exact D_raftOf HL HC HX hs.2.1 hs.2.2.1 h1
theorem D_heightOfZ {L : Lk} {b : Nat} {h : Hp} {S : Sk} {z : Int} (HL : LW L) (HC : RC L b h) (HX : XR S h) (hs : stk L S) (h0 : 0 ≤ z) (h1 : z < L 1 0) : F_md_heightOf 88 (J z) h = some (J (hgt L S z)) := by
  obtain ⟨n, rfl⟩ := Int.eq_ofNat_of_zero_le h0
  exact D_heightOf HL HC HX hs h1
