/-! frames over a change of references and over new cells -/
def Wc (h h' : Hp) : Prop := (∀ a, a < 88 ∨ 1000001 ≤ a → kd h' a = kd h a ∧ (iA h' a).length = (iA h a).length ∧ (lA h' a).length = (lA h a).length) ∧ (∀ a k, a < 88 ∨ 1000001 ≤ a → ¬ (a = 3 ∧ k = 0) → ¬ (a = 2 ∧ k = 3) → ¬ (a = 0 ∧ k = 3) → fR h' a k = fR h a k) ∧ (∀ a, 1000001 ≤ a → fI h' a = fI h a ∧ iA h' a = iA h a)
theorem wc_kd {h h' : Hp} (x : Wc h h') {a : Nat} (ha : a < 88 ∨ 1000001 ≤ a) : kd h' a = kd h a := (x.1 a ha).1
theorem wc_len {h h' : Hp} (x : Wc h h') {a : Nat} (ha : a < 88 ∨ 1000001 ≤ a) : (iA h' a).length = (iA h a).length := (x.1 a ha).2.1
theorem wc_lln {h h' : Hp} (x : Wc h h') {a : Nat} (ha : a < 88 ∨ 1000001 ≤ a) : (lA h' a).length = (lA h a).length := (x.1 a ha).2.2
theorem wc_fR {h h' : Hp} (x : Wc h h') {a k : Nat} (ha : a < 88 ∨ 1000001 ≤ a) (c : ¬ (a = 3 ∧ k = 0) ∧ ¬ (a = 2 ∧ k = 3) ∧ ¬ (a = 0 ∧ k = 3)) : fR h' a k = fR h a k := x.2.1 a k ha c.1 c.2.1 c.2.2
theorem wc_rf (h : Hp) : Wc h h := ⟨fun _ _ => ⟨rfl, rfl, rfl⟩, fun _ _ _ _ _ _ => rfl, fun _ _ => ⟨rfl, rfl⟩⟩
theorem wc_tr {h h1 h2 : Hp} (x : Wc h h1) (y : Wc h1 h2) : Wc h h2 := by
  refine ⟨fun a ha => ⟨(wc_kd y ha).trans (wc_kd x ha), (wc_len y ha).trans (wc_len x ha), (wc_lln y ha).trans (wc_lln x ha)⟩, fun a k ha c1 c2 c3 => (y.2.1 a k ha c1 c2 c3).trans (x.2.1 a k ha c1 c2 c3), fun a ha => ⟨(y.2.2 a ha).1.trans (x.2.2 a ha).1, (y.2.2 a ha).2.trans (x.2.2 a ha).2⟩⟩
theorem wc_fm {lo hi : Nat} {h h' : Hp} (x : Fm lo hi h h') (hh : hi ≤ 1000000) : Wc h h' := by
  refine ⟨fun a _ => ⟨by rw [fm_kd x], fm_len x a, fm_lln x a⟩, fun a k _ _ _ _ => by rw [fm_fR x], fun a ha => ?_⟩
  have := x.2.2.2.2.2.2 a (by omega)
  exact ⟨this.1, this.2.2.1⟩
theorem wc_sR {h : Hp} {a k : Nat} {v : Option Nat} (c : (a = 3 ∧ k = 0) ∨ (a = 2 ∧ k = 3) ∨ (a = 0 ∧ k = 3)) : Wc h (sFR h a k v) := by
  refine ⟨fun _ _ => ⟨rfl, rfl, rfl⟩, fun a' k' _ c1 c2 c3 => ?_, fun _ _ => ⟨rfl, rfl⟩⟩
  show (if a' = a ∧ k' = k then v else fR h a' k') = _
  rw [if_neg (by omega)]
theorem XS_wc {h h' : Hp} (x : Wc h h') (H : XS h) : XS h' := by
  unfold XS at H ⊢
  simp (disch := omega) only [wc_kd x, wc_fR x, wc_len x, wc_lln x]
  exact H
theorem ES_wc {h h' : Hp} (x : Wc h h') (H : ES h) : ES h' := by
  unfold ES at H ⊢
  simp (disch := omega) only [wc_kd x, wc_fR x, wc_len x, wc_lln x]
  exact H
theorem PS_wc {h h' : Hp} (x : Wc h h') (H : PS h) : PS h' := by
  unfold PS at H ⊢
  simp (disch := omega) only [wc_kd x, wc_fR x, wc_len x, wc_lln x]
  exact H
theorem HS_wc {h h' : Hp} (x : Wc h h') (H : HS h) : HS h' := by
  unfold HS at H ⊢
  simp (disch := omega) only [wc_kd x, wc_fR x, wc_len x, wc_lln x]
  exact H
theorem GS_wc {h h' : Hp} (x : Wc h h') (H : GS h) : GS h' := by
  unfold GS at H ⊢
  simp (disch := omega) only [wc_kd x, wc_fR x, wc_len x, wc_lln x]
  exact H
theorem OS_wc {h h' : Hp} (x : Wc h h') (H : OS h) : OS h' := by
  unfold OS at H ⊢
  simp (disch := omega) only [wc_kd x, wc_fR x, wc_len x, wc_lln x]
  exact H
theorem DS_wc {h h' : Hp} (x : Wc h h') (H : DS h) : DS h' := by
  unfold DS at H ⊢
  simp (disch := omega) only [wc_kd x, wc_fR x, wc_len x, wc_lln x]
  exact H
theorem SS_wc {b : Nat} {h h' : Hp} (x : Wc h h') (hb : 5 ≤ b ∧ b + 3 ≤ 88) (H : SS b h) : SS b h' := by
  unfold SS at H ⊢
  simp (disch := omega) only [wc_kd x, wc_fR x, wc_len x, wc_lln x]
  exact H
theorem RS_wc {b : Nat} {h h' : Hp} (x : Wc h h') (hb : 5 ≤ b ∧ b + 4 ≤ 88) (H : RS b h) : RS b h' := by
  unfold RS at H ⊢
  simp (disch := omega) only [wc_kd x, wc_fR x, wc_len x, wc_lln x]
  exact H
theorem TS_wc {b : Nat} {h h' : Hp} (x : Wc h h') (hb : 5 ≤ b ∧ b + 18 ≤ 88) (H : TS b h) : TS b h' := by
  unfold TS at H ⊢
  simp (disch := omega) only [wc_kd x, wc_fR x, wc_len x, wc_lln x]
  exact H
theorem CR_wc {h h' : Hp} (x : Wc h h') (H : CR h) : CR h' := by
  unfold CR at H ⊢
  rw [wc_kd x (by omega), wc_kd x (by omega), (x.2.2 1000001 (by omega)).2, (x.2.2 1000002 (by omega)).2]
  exact H
theorem WR_wc {h h' : Hp} (x : Wc h h') (H : WR h) : WR h' := by
  intro k hk
  have q := H k hk
  refine ⟨by rw [wc_kd x (by omega)]; exact q.1, by rw [wc_fR x (by omega) (by omega)]; exact q.2.1, ?_, by rw [wc_kd x (by omega)]; exact q.2.2.2.1, by rw [(x.2.2 _ (by omega)).2]; exact q.2.2.2.2⟩
  unfold fi
  rw [(x.2.2 _ (by omega)).1]
  exact q.2.2.1
theorem XV_wc {t t' : Nat} {h h' : Hp} (x : Wc h h') (r0 : fR h' 0 3 = some t') (r2 : fR h' 2 3 = some (31 - t')) (ho : t' = 5 ∨ t' = 26) (H : XV t h) : XV t' h' := ⟨XS_wc x (XV_x H), r0, r2, ho, SS_wc x (by omega) (XV_s44 H), SS_wc x (by omega) (XV_s47 H), RS_wc x (by omega) (XV_r50 H), ES_wc x (XV_e H), PS_wc x (XV_p H), RS_wc x (by omega) (XV_r58 H), SS_wc x (by omega) (XV_s62 H), HS_wc x (XV_h H), RS_wc x (by omega) (XV_r72 H), SS_wc x (by omega) (XV_s76 H), GS_wc x (XV_g H), RS_wc x (by omega) (XV_r80 H), OS_wc x (XV_m H), SS_wc x (by omega) (XV_s85 H), DS_wc x (XV_d H), TS_wc x (by omega) (XV_t5 H), TS_wc x (by omega) (XV_t26 H), CR_wc x (XV_c H)⟩
/-- the same on a set of ids -/
def Se (P : Nat → Prop) (h h' : Hp) : Prop := ∀ a, P a → kd h' a = kd h a ∧ fI h' a = fI h a ∧ fL h' a = fL h a ∧ fR h' a = fR h a ∧ iA h' a = iA h a ∧ lA h' a = lA h a
theorem se_rf (P : Nat → Prop) (h : Hp) : Se P h h := fun _ _ => ⟨rfl, rfl, rfl, rfl, rfl, rfl⟩
theorem se_tr {P : Nat → Prop} {h h1 h2 : Hp} (x : Se P h h1) (y : Se P h1 h2) : Se P h h2 := fun a ha => by
  obtain ⟨a1, a2, a3, a4, a5, a6⟩ := x a ha
  obtain ⟨b1, b2, b3, b4, b5, b6⟩ := y a ha
  exact ⟨b1.trans a1, b2.trans a2, b3.trans a3, b4.trans a4, b5.trans a5, b6.trans a6⟩
theorem se_mo {P Q : Nat → Prop} {h h' : Hp} (x : Se P h h') (c : ∀ a, Q a → P a) : Se Q h h' := fun a ha => x a (c a ha)
theorem se_fm {P : Nat → Prop} {lo hi : Nat} {h h' : Hp} (x : Fm lo hi h h') (c : ∀ a, P a → a < lo ∨ hi ≤ a) : Se P h h' := fun a ha => by
  obtain ⟨q1, q2, q3, q4⟩ := x.2.2.2.2.2.2 a (c a ha)
  exact ⟨by rw [fm_kd x], q1, q2, by rw [x.2.1], q3, q4⟩
theorem se_fi {P : Nat → Prop} {h h' : Hp} (x : Se P h h') {a : Nat} (ha : P a) (k : Nat) : fi h' a k = fi h a k := by unfold fi; rw [(x a ha).2.1]
theorem se_ia {P : Nat → Prop} {h h' : Hp} (x : Se P h h') {a : Nat} (ha : P a) (z : Int) : ia h' a z = ia h a z := by unfold ia; rw [(x a ha).2.2.2.2.1]
theorem se_wc {h h' : Hp} (x : Se (fun a => a < 88 ∨ 1000001 ≤ a) h h') : Wc h h' := ⟨fun a ha => ⟨(x a ha).1, by rw [(x a ha).2.2.2.2.1], by rw [(x a ha).2.2.2.2.2]⟩, fun a k ha _ _ _ => by rw [(x a ha).2.2.2.1], fun a ha => ⟨(x a (Or.inr ha)).2.1, (x a (Or.inr ha)).2.2.2.2.1⟩⟩
theorem se_mkX {P : Nat → Prop} {h : Hp} {n : Nat} (c : ∀ a, P a → ¬ a = cn h) : Se P h (mkX h n) := fun a ha => ⟨if_neg (c a ha), rfl, rfl, rfl, rfl, rfl⟩
theorem CI_se {a : Ab} {t : Nat} {h h' : Hp} (x : Se (fun a => a < 88 ∨ 1000001 ≤ a) h h') (H : CI a t h) : CI a t h' := by
  obtain ⟨a1, a2, a3, a4, a5, a6, a7, a8, a9⟩ := H
  have o := XV_o a1
  have f : ∀ a, a < 88 → ∀ k, fi h' a k = fi h a k := fun a ha k => se_fi x (Or.inl ha) k
  have g : ∀ a, a < 88 → ∀ z, ia h' a z = ia h a z := fun a ha z => se_ia x (Or.inl ha) z
  refine ⟨XV_wc (se_wc x) ?_ ?_ o a1, ?_, ?_, ?_, ?_, ?_, ?_, ?_, fun i i0 i1 => ?_⟩
  · rw [(x 0 (by omega)).2.2.2.1]; exact XV_t a1
  · rw [(x 2 (by omega)).2.2.2.1]; exact XV_u a1
  · unfold TR; simp (disch := omega) only [f, g]; exact a2
  · unfold SR; simp (disch := omega) only [f, g]; exact a3
  · unfold MR SE; simp (disch := omega) only [f, g]; exact a4
  · rw [f _ (by omega)]; exact a5
  · rw [f _ (by omega)]; exact a6
  · rw [f _ (by omega)]; exact a7
  · rw [f _ (by omega)]; exact a8
  · rw [g _ (by omega)]; exact a9 i i0 i1
theorem MS_se {P : Nat → Prop} {h h' : Hp} (x : Se P h h') (c : ∀ a, 88 ≤ a → a < 102 → P a) (H : MS h) : MS h' := by
  have q1 : ∀ a, 88 ≤ a ∧ a < 102 → kd h' a = kd h a := fun a ha => (x a (c a ha.1 ha.2)).1
  have q2 : ∀ a, 88 ≤ a ∧ a < 102 → ∀ k, fR h' a k = fR h a k := fun a ha k => by rw [(x a (c a ha.1 ha.2)).2.2.2.1]
  have q3 : ∀ a, 88 ≤ a ∧ a < 102 → (iA h' a).length = (iA h a).length := fun a ha => by rw [(x a (c a ha.1 ha.2)).2.2.2.2.1]
  unfold MS at H ⊢
  simp (disch := omega) only [q1, q2, q3]
  exact H
theorem YS_se {P : Nat → Prop} {b : Nat} {h h' : Hp} (x : Se P h h') (c : ∀ a, b ≤ a → a < b + 22 → P a) (H : YS b h) : YS b h' := by
  have q1 : ∀ a, b ≤ a ∧ a < b + 22 → kd h' a = kd h a := fun a ha => (x a (c a ha.1 ha.2)).1
  have q2 : ∀ a, b ≤ a ∧ a < b + 22 → ∀ k, fR h' a k = fR h a k := fun a ha k => by rw [(x a (c a ha.1 ha.2)).2.2.2.1]
  have q3 : ∀ a, b ≤ a ∧ a < b + 22 → (iA h' a).length = (iA h a).length := fun a ha => by rw [(x a (c a ha.1 ha.2)).2.2.2.2.1]
  have q4 : ∀ a, b ≤ a ∧ a < b + 22 → (lA h' a).length = (lA h a).length := fun a ha => by rw [(x a (c a ha.1 ha.2)).2.2.2.2.2]
  unfold YS at H ⊢
  simp (disch := omega) only [q1, q2, q3, q4]
  exact H
theorem LR_se {P : Nat → Prop} {L : Lk} {b : Nat} {h h' : Hp} (x : Se P h h') (c : ∀ a, b ≤ a → a < b + 22 → P a) (H : LR L b h) : LR L b h' := by
  have f : ∀ a, b ≤ a ∧ a < b + 22 → ∀ k, fi h' a k = fi h a k := fun a ha k => se_fi x (c a ha.1 ha.2) k
  have g : ∀ a, b ≤ a ∧ a < b + 22 → ∀ z, ia h' a z = ia h a z := fun a ha z => se_ia x (c a ha.1 ha.2) z
  unfold LR at H ⊢
  simp (disch := omega) only [f, g]
  exact H
/-- the lake in use lies below the ids that are made next -/
def HB (m : Nat) (h : Hp) : Prop := ∀ b, fR h 88 3 = some b → b + 22 ≤ m
theorem RI_se {a : Ab} {m : Nat} {h h' : Hp} (x : Se (fun a => 88 ≤ a ∧ a < m) h h') (hm : 102 ≤ m) (B : HB m h) (H : RI a h) : RI a h' := by
  obtain ⟨a1, a2, a3, ⟨a4, a4'⟩, ⟨a5, a5'⟩, ⟨a6, a6'⟩, a7, a8, a9, a10, a11⟩ := H
  have f : ∀ a, 88 ≤ a ∧ a < 102 → ∀ k, fi h' a k = fi h a k := fun a ha k => se_fi x (by omega) k
  have g : ∀ a, 88 ≤ a ∧ a < 102 → ∀ z, ia h' a z = ia h a z := fun a ha z => se_ia x (by omega) z
  refine ⟨MS_se x (fun a h1 h2 => by omega) a1, ?_, fun i i0 i1 => ?_, ⟨?_, fun j hj i i0 i1 => ?_⟩, ⟨?_, fun j hj i i0 i1 => ?_⟩, ⟨?_, fun i i0 i1 => ?_⟩, ?_, ?_, ?_, a10, a11⟩
  · have r : fR h' 88 3 = fR h 88 3 := by rw [(x 88 (by omega)).2.2.2.1]
    rcases a2 with ⟨b1, b2, b3⟩ | ⟨b1, b, c1, c2, c3, c4, c5, c6⟩
    · exact Or.inl ⟨b1, by rw [r]; exact b2, b3⟩
    · have bm := B b c2
      exact Or.inr ⟨b1, b, MS_se x (fun a h1 h2 => by omega) c1, by rw [r]; exact c2, YS_se x (fun a h1 h2 => by omega) c3, LR_se x (fun a h1 h2 => by omega) c4, c5, c6⟩
  · rw [g _ (by omega)]; exact a3 i i0 i1
  · rw [f _ (by omega)]; exact a4
  · rw [g _ (by omega)]; exact a4' j hj i i0 i1
  · rw [f _ (by omega)]; exact a5
  · rw [g _ (by omega)]; exact a5' j hj i i0 i1
  · rw [f _ (by omega)]; exact a6
  · rw [g _ (by omega)]; exact a6' i i0 i1
  · rw [f _ (by omega)]; exact a7
  · rw [f _ (by omega)]; exact a8
  · rw [f _ (by omega)]; exact a9
