def XV (t : Nat) (h : Hp) : Prop := XS h ∧ fR h 0 3 = some t ∧ fR h 2 3 = some (31 - t) ∧ (t = 5 ∨ t = 26) ∧ SS 44 h ∧ SS 47 h ∧ RS 50 h ∧ ES h ∧ PS h ∧ RS 58 h ∧ SS 62 h ∧ HS h ∧ RS 72 h ∧ SS 76 h ∧ GS h ∧ RS 80 h ∧ OS h ∧ SS 85 h ∧ DS h ∧ TS 5 h ∧ TS 26 h ∧ CR h
theorem XV_x {t : Nat} {h : Hp} (H : XV t h) : XS h := H.1
theorem XV_t {t : Nat} {h : Hp} (H : XV t h) : fR h 0 3 = some t := H.2.1
theorem XV_u {t : Nat} {h : Hp} (H : XV t h) : fR h 2 3 = some (31 - t) := H.2.2.1
theorem XV_o {t : Nat} {h : Hp} (H : XV t h) : (t = 5 ∨ t = 26) := H.2.2.2.1
theorem XV_s44 {t : Nat} {h : Hp} (H : XV t h) : SS 44 h := H.2.2.2.2.1
theorem XV_s47 {t : Nat} {h : Hp} (H : XV t h) : SS 47 h := H.2.2.2.2.2.1
theorem XV_r50 {t : Nat} {h : Hp} (H : XV t h) : RS 50 h := H.2.2.2.2.2.2.1
theorem XV_e {t : Nat} {h : Hp} (H : XV t h) : ES h := H.2.2.2.2.2.2.2.1
theorem XV_p {t : Nat} {h : Hp} (H : XV t h) : PS h := H.2.2.2.2.2.2.2.2.1
theorem XV_r58 {t : Nat} {h : Hp} (H : XV t h) : RS 58 h := H.2.2.2.2.2.2.2.2.2.1
theorem XV_s62 {t : Nat} {h : Hp} (H : XV t h) : SS 62 h := H.2.2.2.2.2.2.2.2.2.2.1
theorem XV_h {t : Nat} {h : Hp} (H : XV t h) : HS h := H.2.2.2.2.2.2.2.2.2.2.2.1
theorem XV_r72 {t : Nat} {h : Hp} (H : XV t h) : RS 72 h := H.2.2.2.2.2.2.2.2.2.2.2.2.1
theorem XV_s76 {t : Nat} {h : Hp} (H : XV t h) : SS 76 h := H.2.2.2.2.2.2.2.2.2.2.2.2.2.1
theorem XV_g {t : Nat} {h : Hp} (H : XV t h) : GS h := H.2.2.2.2.2.2.2.2.2.2.2.2.2.2.1
theorem XV_r80 {t : Nat} {h : Hp} (H : XV t h) : RS 80 h := H.2.2.2.2.2.2.2.2.2.2.2.2.2.2.2.1
theorem XV_m {t : Nat} {h : Hp} (H : XV t h) : OS h := H.2.2.2.2.2.2.2.2.2.2.2.2.2.2.2.2.1
theorem XV_s85 {t : Nat} {h : Hp} (H : XV t h) : SS 85 h := H.2.2.2.2.2.2.2.2.2.2.2.2.2.2.2.2.2.1
theorem XV_d {t : Nat} {h : Hp} (H : XV t h) : DS h := H.2.2.2.2.2.2.2.2.2.2.2.2.2.2.2.2.2.2.1
theorem XV_t5 {t : Nat} {h : Hp} (H : XV t h) : TS 5 h := H.2.2.2.2.2.2.2.2.2.2.2.2.2.2.2.2.2.2.2.1
theorem XV_t26 {t : Nat} {h : Hp} (H : XV t h) : TS 26 h := H.2.2.2.2.2.2.2.2.2.2.2.2.2.2.2.2.2.2.2.2.1
theorem XV_c {t : Nat} {h : Hp} (H : XV t h) : CR h := H.2.2.2.2.2.2.2.2.2.2.2.2.2.2.2.2.2.2.2.2.2
theorem XV_fm {lo hi t : Nat} {h h' : Hp} (x : Fm lo hi h h') (hh : hi ≤ 1000000) (H : XV t h) : XV t h' := ⟨XS_fm x (XV_x H), (fm_fR x 0 3).trans (XV_t H), (fm_fR x 2 3).trans (XV_u H), XV_o H, SS_fm x (XV_s44 H), SS_fm x (XV_s47 H), RS_fm x (XV_r50 H), ES_fm x (XV_e H), PS_fm x (XV_p H), RS_fm x (XV_r58 H), SS_fm x (XV_s62 H), HS_fm x (XV_h H), RS_fm x (XV_r72 H), SS_fm x (XV_s76 H), GS_fm x (XV_g H), RS_fm x (XV_r80 H), OS_fm x (XV_m H), SS_fm x (XV_s85 H), DS_fm x (XV_d H), TS_fm x (XV_t5 H), TS_fm x (XV_t26 H), CR_fm x hh (XV_c H)⟩
theorem XV_ts {t : Nat} {h : Hp} (H : XV t h) : TS t h := by
  cases XV_o H with
  | inl e => rw [e]; exact XV_t5 H
  | inr e => rw [e]; exact XV_t26 H
/-- the abstract state: lake, state, what can be undone, images, tape, how much of it, trouble, fault, place -/
abbrev Ab : Type := Lk × Sk × (Nat → Sk) × Nat × (Nat → Sk) × Nat × (Int → Int) × Int × Int × Int × Int
def qL (a : Ab) : Lk := a.1
def qS (a : Ab) : Sk := a.2.1
def qP (a : Ab) : Nat → Sk := a.2.2.1
def qn (a : Ab) : Nat := a.2.2.2.1
def qG (a : Ab) : Nat → Sk := a.2.2.2.2.1
def qm (a : Ab) : Nat := a.2.2.2.2.2.1
def qT (a : Ab) : Int → Int := a.2.2.2.2.2.2.1
def qtp (a : Ab) : Int := a.2.2.2.2.2.2.2.1
def qtr (a : Ab) : Int := a.2.2.2.2.2.2.2.2.1
def qfa (a : Ab) : Int := a.2.2.2.2.2.2.2.2.2.1
def qpl (a : Ab) : Int := a.2.2.2.2.2.2.2.2.2.2
def sTr (a : Ab) (v : Int) : Ab := (qL a, qS a, qP a, qn a, qG a, qm a, qT a, qtp a, v, qfa a, qpl a)
def SG (L : Lk) (S : Sk) : Prop := SW 999 L S ∧ (0 ≤ S 29 ∧ S 29 ≤ 999) ∧ (∀ g, 0 ≤ g → g < L 3 0 → 0 ≤ S (25 + g) ∧ S (25 + g) < L 1 0)
def AW (a : Ab) : Prop := LW (qL a) ∧ SG (qL a) (qS a) ∧ (∀ j, j < qn a → SG (qL a) (qP a j)) ∧ (∀ j, j < qm a → SG (qL a) (qG a j)) ∧ (0 ≤ qtp a ∧ qtp a ≤ 1000) ∧ (0 ≤ qtr a ∧ qtr a ≤ 6) ∧ (0 ≤ qfa a ∧ qfa a ≤ 6) ∧ (0 ≤ qpl a ∧ qpl a ≤ 1000) ∧ (∀ i, -128 ≤ qT a i ∧ qT a i ≤ 127)
def CI (a : Ab) (t : Nat) (h : Hp) : Prop := XV t h ∧ TR (qL a) t h ∧ SR (qL a) 44 (qS a) h ∧ MR (qL a) (qP a) (qn a) (qG a) (qm a) h ∧ fi h 0 1 = qtp a ∧ fi h 0 12 = qtr a ∧ fi h 2 0 = qfa a ∧ fi h 2 1 = qpl a ∧ (∀ i, 0 ≤ i → i < qtp a → ia h 1 i = qT a i)
def RLk (L : Lk) (h : Hp) : Prop := (L 1 0 = 0 ∧ fR h 88 3 = none ∧ (∀ k, k < 8 → L k 0 = 0)) ∨ (1 ≤ L 1 0 ∧ ∃ b, RC L b h)
def RI (a : Ab) (h : Hp) : Prop := MS h ∧ RLk (qL a) h ∧ (∀ i, 0 ≤ i → i < 31 → ia h 90 i = qS a i) ∧ (fi h 88 19 = qn a ∧ ∀ j : Nat, j < qn a → ∀ i, 0 ≤ i → i < 31 → ia h 92 (31 * j + i) = qP a j i) ∧ (fi h 88 20 = qm a ∧ ∀ j : Nat, j < qm a → ∀ i, 0 ≤ i → i < 31 → ia h 93 (31 * j + i) = qG a j i) ∧ (fi h 88 6 = qtp a ∧ ∀ i, 0 ≤ i → i < qtp a → ia h 89 i = qT a i) ∧ fi h 88 1 = qtr a ∧ fi h 88 12 = qfa a ∧ fi h 88 2 = (if qtr a = 4 then qpl a else -1) ∧ qn a ≤ 16 ∧ qm a ≤ 3
/-- frames of a question: the class's scratch; the reference's -/
def Sc (h h' : Hp) : Prop := Fm 0 88 h h' ∧ (∀ x, x < 47 ∨ 54 ≤ x ∧ x < 57 → iA h' x = iA h x) ∧ (∀ x k, x < 47 ∨ 54 ≤ x ∧ x < 57 → (x ≠ 0 ∨ k ≠ 12) → fI h' x k = fI h x k)
def Qr (h h' : Hp) : Prop := Fm 88 102 h h' ∧ (∀ x, x = 89 ∨ x = 90 ∨ x = 92 ∨ x = 93 → iA h' x = iA h x) ∧ (∀ k, k = 6 ∨ k = 12 ∨ k = 19 ∨ k = 20 → fI h' 88 k = fI h 88 k)
theorem sc_rf (h : Hp) : Sc h h := ⟨fm_rf _ _ _, fun _ _ => rfl, fun _ _ _ _ => rfl⟩
theorem sc_tr {h h1 h2 : Hp} (x : Sc h h1) (y : Sc h1 h2) : Sc h h2 := ⟨fm_tr x.1 y.1, fun a ha => (y.2.1 a ha).trans (x.2.1 a ha), fun a k ha hk => (y.2.2 a k ha hk).trans (x.2.2 a k ha hk)⟩
theorem sc_fm {lo hi : Nat} {h h' : Hp} (x : Fm lo hi h h') (hd : (47 ≤ lo ∧ hi ≤ 54) ∨ (57 ≤ lo ∧ hi ≤ 88)) : Sc h h' := by
  refine ⟨fm_wd x (by omega) (by omega), fun a ha => (x.2.2.2.2.2.2 a (by omega)).2.2.1, fun a k ha _ => ?_⟩
  rw [(x.2.2.2.2.2.2 a (by omega)).1]
theorem sc_w (h : Hp) (v : Int) : Sc h (wF h 0 12 v) := by
  refine ⟨fm_wF (by omega) (by omega), fun _ _ => rfl, fun a k ha hk => ?_⟩
  unfold wF
  rw [fI_sFI, if_neg (by omega)]
theorem qr_rf (h : Hp) : Qr h h := ⟨fm_rf _ _ _, fun _ _ => rfl, fun _ _ => rfl⟩
theorem qr_tr {h h1 h2 : Hp} (x : Qr h h1) (y : Qr h1 h2) : Qr h h2 := ⟨fm_tr x.1 y.1, fun a ha => (y.2.1 a ha).trans (x.2.1 a ha), fun k hk => (y.2.2 k hk).trans (x.2.2 k hk)⟩
theorem qr_91 {h h' : Hp} (x : Fm 91 92 h h') : Qr h h' := ⟨fm_wd x (by omega) (by omega), fun a ha => (x.2.2.2.2.2.2 a (by omega)).2.2.1, fun k _ => by rw [(x.2.2.2.2.2.2 88 (by omega)).1]⟩
theorem qr_94 {lo hi : Nat} {h h' : Hp} (x : Fm lo hi h h') (h1 : 94 ≤ lo) (h2 : hi ≤ 102) : Qr h h' := ⟨fm_wd x (by omega) (by omega), fun a ha => (x.2.2.2.2.2.2 a (by omega)).2.2.1, fun k _ => by rw [(x.2.2.2.2.2.2 88 (by omega)).1]⟩
theorem qr_w {h : Hp} {k : Nat} (v : Int) (hk : k ≠ 6 ∧ k ≠ 12 ∧ k ≠ 19 ∧ k ≠ 20) : Qr h (wF h 88 k v) := by
  refine ⟨fm_wF (by omega) (by omega), fun _ _ => rfl, fun j hj => ?_⟩
  unfold wF
  rw [fI_sFI, if_neg (by omega)]
theorem qr_g {h : Hp} {k : Nat} (v : Int) : Qr h (wG h 88 k v) := ⟨fm_wG (by omega) (by omega), fun _ _ => rfl, fun _ _ => rfl⟩
theorem qr_fw {h h' : Hp} (x : Fw h h') : Qr h h' := by
  refine ⟨fm_wd x.1 (by omega) (by omega), fun a ha => ?_, fun k hk => Int32.toInt.inj (x.2.1 k (by omega))⟩
  by_cases c : a < 91
  · exact x.2.2 a c (by omega)
  · exact (x.1.2.2.2.2.2.2 a (by omega)).2.2.1
theorem sc_fi {h h' : Hp} (x : Sc h h') {a k : Nat} (ha : a < 47 ∨ 54 ≤ a ∧ a < 57) (hk : a ≠ 0 ∨ k ≠ 12) : fi h' a k = fi h a k := by unfold fi; rw [x.2.2 a k ha hk]
theorem sc_ia {h h' : Hp} (x : Sc h h') {a : Nat} (ha : a < 47 ∨ 54 ≤ a ∧ a < 57) (z : Int) : ia h' a z = ia h a z := by unfold ia; rw [x.2.1 a ha]
theorem sc_TR {L : Lk} {t : Nat} {h h' : Hp} (x : Sc h h') (ht : t = 5 ∨ t = 26) (H : TR L t h) : TR L t h' := by
  unfold TR
  simp (disch := omega) only [sc_fi x, sc_ia x]
  exact H
theorem sc_SR {L : Lk} {S : Sk} {h h' : Hp} (x : Sc h h') (H : SR L 44 S h) : SR L 44 S h' := by
  unfold SR
  simp (disch := omega) only [sc_fi x, sc_ia x]
  exact H
theorem sc_MR {L : Lk} {P : Nat → Sk} {n : Nat} {I : Nat → Sk} {m : Nat} {h h' : Hp} (x : Sc h h') (H : MR L P n I m h) : MR L P n I m h' := by
  unfold MR SE
  simp (disch := omega) only [sc_fi x, sc_ia x]
  exact H
/-- a question leaves the class's part, but for trouble -/
theorem CI_q {a : Ab} {t : Nat} {h h' : Hp} {v : Int} (x : Sc h h') (hv : fi h' 0 12 = v) (H : CI a t h) : CI (sTr a v) t h' := by
  obtain ⟨a1, a2, a3, a4, a5, a6, a7, a8, a9⟩ := H
  refine ⟨XV_fm x.1 (by omega) a1, sc_TR x (XV_o a1) a2, sc_SR x a3, sc_MR x a4, ?_, hv, ?_, ?_, fun i i0 i1 => ?_⟩
  · rw [sc_fi x (by omega) (by omega)]; exact a5
  · rw [sc_fi x (by omega) (by omega)]; exact a7
  · rw [sc_fi x (by omega) (by omega)]; exact a8
  · rw [sc_ia x (by omega)]; exact a9 i i0 i1
theorem RLk_fm {L : Lk} {lo hi : Nat} {h h' : Hp} (x : Fm lo hi h h') (hd : hi ≤ 102) (H : RLk L h) : RLk L h' := by
  cases H with
  | inl H => exact Or.inl ⟨H.1, (fm_fR x 88 3).trans H.2.1, H.2.2⟩
  | inr H => obtain ⟨h1, b, hb⟩ := H; exact Or.inr ⟨h1, b, RC_fm x hd hb⟩
theorem RI_q {a : Ab} {h h' : Hp} {v : Int} (x : Qr h h') (hv : fi h' 88 1 = v) (hw : fi h' 88 2 = -1) (v4 : v ≠ 4) (H : RI a h) : RI (sTr a v) h' := by
  obtain ⟨a1, a2, a3, ⟨a4, a4'⟩, ⟨a5, a5'⟩, ⟨a6, a6'⟩, a7, a8, a9, a10, a11⟩ := H
  have qi : ∀ y, y = 89 ∨ y = 90 ∨ y = 92 ∨ y = 93 → ∀ z, ia h' y z = ia h y z := fun y hy z => by unfold ia; rw [x.2.1 y hy]
  have qf : ∀ k, k = 6 ∨ k = 12 ∨ k = 19 ∨ k = 20 → fi h' 88 k = fi h 88 k := fun k hk => by unfold fi; rw [x.2.2 k hk]
  refine ⟨MS_fm x.1 a1, RLk_fm x.1 (by omega) a2, fun i i0 i1 => ?_, ⟨?_, fun j hj i i0 i1 => ?_⟩, ⟨?_, fun j hj i i0 i1 => ?_⟩, ⟨?_, fun i i0 i1 => ?_⟩, hv, ?_, ?_, a10, a11⟩
  · rw [qi _ (by omega)]; exact a3 i i0 i1
  · rw [qf _ (by omega)]; exact a4
  · rw [qi _ (by omega)]; exact a4' j hj i i0 i1
  · rw [qf _ (by omega)]; exact a5
  · rw [qi _ (by omega)]; exact a5' j hj i i0 i1
  · rw [qf _ (by omega)]; exact a6
  · rw [qi _ (by omega)]; exact a6' i i0 i1
  · rw [qf _ (by omega)]; exact a8
  · rw [hw]; exact (if_neg v4).symm
theorem CI_fm {a : Ab} {t : Nat} {h h' : Hp} (x : Fm 88 102 h h') (H : CI a t h) : CI a t h' := by
  obtain ⟨a1, a2, a3, a4, a5, a6, a7, a8, a9⟩ := H
  have o := XV_o a1
  refine ⟨XV_fm x (by omega) a1, TR_fm x (by omega) a2, SR_fm x (by omega) a3, MR_fm x (by omega) a4, ?_, ?_, ?_, ?_, fun i i0 i1 => ?_⟩
  · rw [fm_fi x (by omega)]; exact a5
  · rw [fm_fi x (by omega)]; exact a6
  · rw [fm_fi x (by omega)]; exact a7
  · rw [fm_fi x (by omega)]; exact a8
  · rw [fm_ia x (by omega)]; exact a9 i i0 i1
theorem RI_fm {a : Ab} {h h' : Hp} (x : Fm 0 88 h h') (H : RI a h) : RI a h' := by
  obtain ⟨a1, a2, a3, ⟨a4, a4'⟩, ⟨a5, a5'⟩, ⟨a6, a6'⟩, a7, a8, a9, a10, a11⟩ := H
  refine ⟨MS_fm x a1, RLk_fm x (by omega) a2, fun i i0 i1 => ?_, ⟨?_, fun j hj i i0 i1 => ?_⟩, ⟨?_, fun j hj i i0 i1 => ?_⟩, ⟨?_, fun i i0 i1 => ?_⟩, ?_, ?_, ?_, a10, a11⟩
  · rw [fm_ia x (by omega)]; exact a3 i i0 i1
  · rw [fm_fi x (by omega)]; exact a4
  · rw [fm_ia x (by omega)]; exact a4' j hj i i0 i1
  · rw [fm_fi x (by omega)]; exact a5
  · rw [fm_ia x (by omega)]; exact a5' j hj i i0 i1
  · rw [fm_fi x (by omega)]; exact a6
  · rw [fm_ia x (by omega)]; exact a6' i i0 i1
  · rw [fm_fi x (by omega)]; exact a7
  · rw [fm_fi x (by omega)]; exact a8
  · rw [fm_fi x (by omega)]; exact a9
/-! how calls are refused -/
theorem outs_e {a lo hi : Int} (h1 : -2147483648 ≤ a) (h2 : a < 2147483648) (h3 : -2147483648 ≤ lo) (h4 : lo < 2147483648) (h5 : -2147483648 ≤ hi) (h6 : hi < 2147483648) : F_cs_outside (J a) (J lo) (J hi) = some (J (if a < lo ∨ hi < a then 1 else 0)) := by
  unfold F_cs_outside
  simp (disch := omega) only [J_lt, j_1, j_0]
  by_cases c : a < lo
  · rw [if_pos c, if_pos (Or.inl c)]
  · rw [if_neg c]
    by_cases d : hi < a
    · rw [if_pos d, if_pos (Or.inr d)]
    · rw [if_neg d, if_neg (by omega)]
theorem in_e {a lo hi : Int} (h1 : -2147483648 ≤ a) (h2 : a < 2147483648) (h3 : -2147483648 ≤ lo) (h4 : lo < 2147483648) (h5 : -2147483648 ≤ hi) (h6 : hi < 2147483648) : F_md_in (J a) (J lo) (J hi) = some (J (if a < lo ∨ hi < a then 0 else 1)) := by
  unfold F_md_in
  simp (disch := omega) only [J_lt, j_1, j_0]
  by_cases c : a < lo
  · rw [if_pos c, if_pos (Or.inl c)]
  · rw [if_neg c]
    by_cases d : hi < a
    · rw [if_pos d, if_pos (Or.inr d)]
    · rw [if_neg d, if_neg (by omega)]
theorem rv_1 : retV .boolean (J 1) = true := by decide +kernel
theorem rv_0 : retV .boolean (J 0) = true := by decide +kernel
theorem rv_i (c : Prop) [Decidable c] : retV .boolean (J (if c then 1 else 0)) = true := by
  by_cases h : c
  · rw [if_pos h]; exact rv_1
  · rw [if_neg h]; exact rv_0

theorem C_noHouse {a : Ab} {t : Nat} {h : Hp} {z : Int} (HA : AW a) (H : CI a t h) (h1 : -2147483648 ≤ z) (h2 : z < 2147483648) : F_cs_noHouse 0 (J z) h = some (J (if z < 0 ∨ qL a 1 0 - 1 < z then 1 else 0)) := by
  have k := XS_k (XV_x H.1); have tk := TS_k (XV_ts H.1); have rt := XV_t H.1
  have b := LW_h HA.1
  have v := TR_h H.2.1
  have e := outs_e (a := z) (lo := 0) (hi := qL a 1 0 - 1) h1 h2 (by omega) (by omega) (by omega) (by omega)
  unfold F_cs_noHouse
  rw [ck_e k]
  simp (disch := first | with_reducible assumption | omega | trivial) only [bn_s1, bd_s1, ei_l1, ei_r1, gI_J, gL_J, gR_J, aI_J, aL_J, sI_J, sL_J, pI_J, pL_J, J_add, J_sub, J_mul, J_neg, J_lt, J_le, J_eq, dv_J, rm_J, if_pos, if_neg, ↓reduceIte, bitJ, shlJ, orJ, j_0, j_1, j_2, j_3, j_4, j_5, j_6, j_7, j_8, j_9, j_10, j_11, j_12, j_13, j_14, j_15, j_16, j_17, j_18, j_19, j_20, j_21, j_22, j_23, j_24, j_25, j_26, j_27, j_28, j_29, j_30, j_31, j_32, j_33, j_34, j_35, j_36, j_37, j_38, j_39, j_40, j_41, j_42, j_43, j_44, j_45, j_46, j_47, j_48, j_49, j_50, j_51, j_52, j_57, j_59, j_63, j_74, j_75, j_93, j_97, j_99, j_100, j_122, j_200, j_255, j_300, j_465, j_496, j_900, j_999, j_1000, j_65536, j_65537, j_99999, j_252645135, j_858993459, j_1431655765, k_0, k_1, k_27, k_32, k_74, k_75, k_100, k_1000, k_65537, rt, v, e, rv_i]
theorem C_noGuest {a : Ab} {t : Nat} {h : Hp} {z : Int} (HA : AW a) (H : CI a t h) (h1 : -2147483648 ≤ z) (h2 : z < 2147483648) : F_cs_noGuest 0 (J z) h = some (J (if z < 0 ∨ qL a 3 0 - 1 < z then 1 else 0)) := by
  have k := XS_k (XV_x H.1); have tk := TS_k (XV_ts H.1); have rt := XV_t H.1
  have b := LW_g HA.1
  have v := TR_g H.2.1
  have e := outs_e (a := z) (lo := 0) (hi := qL a 3 0 - 1) h1 h2 (by omega) (by omega) (by omega) (by omega)
  unfold F_cs_noGuest
  rw [ck_e k]
  simp (disch := first | with_reducible assumption | omega | trivial) only [bn_s1, bd_s1, ei_l1, ei_r1, gI_J, gL_J, gR_J, aI_J, aL_J, sI_J, sL_J, pI_J, pL_J, J_add, J_sub, J_mul, J_neg, J_lt, J_le, J_eq, dv_J, rm_J, if_pos, if_neg, ↓reduceIte, bitJ, shlJ, orJ, j_0, j_1, j_2, j_3, j_4, j_5, j_6, j_7, j_8, j_9, j_10, j_11, j_12, j_13, j_14, j_15, j_16, j_17, j_18, j_19, j_20, j_21, j_22, j_23, j_24, j_25, j_26, j_27, j_28, j_29, j_30, j_31, j_32, j_33, j_34, j_35, j_36, j_37, j_38, j_39, j_40, j_41, j_42, j_43, j_44, j_45, j_46, j_47, j_48, j_49, j_50, j_51, j_52, j_57, j_59, j_63, j_74, j_75, j_93, j_97, j_99, j_100, j_122, j_200, j_255, j_300, j_465, j_496, j_900, j_999, j_1000, j_65536, j_65537, j_99999, j_252645135, j_858993459, j_1431655765, k_0, k_1, k_27, k_32, k_74, k_75, k_100, k_1000, k_65537, rt, v, e, rv_i]
theorem C_noRope {a : Ab} {t : Nat} {h : Hp} {z : Int} (HA : AW a) (H : CI a t h) (h1 : -2147483648 ≤ z) (h2 : z < 2147483648) : F_cs_noRope 0 (J z) h = some (J (if z < 0 ∨ qL a 2 0 - 1 < z then 1 else 0)) := by
  have k := XS_k (XV_x H.1); have tk := TS_k (XV_ts H.1); have rt := XV_t H.1
  have b := LW_r HA.1
  have v := TR_r H.2.1
  have e := outs_e (a := z) (lo := 0) (hi := qL a 2 0 - 1) h1 h2 (by omega) (by omega) (by omega) (by omega)
  unfold F_cs_noRope
  rw [ck_e k]
  simp (disch := first | with_reducible assumption | omega | trivial) only [bn_s1, bd_s1, ei_l1, ei_r1, gI_J, gL_J, gR_J, aI_J, aL_J, sI_J, sL_J, pI_J, pL_J, J_add, J_sub, J_mul, J_neg, J_lt, J_le, J_eq, dv_J, rm_J, if_pos, if_neg, ↓reduceIte, bitJ, shlJ, orJ, j_0, j_1, j_2, j_3, j_4, j_5, j_6, j_7, j_8, j_9, j_10, j_11, j_12, j_13, j_14, j_15, j_16, j_17, j_18, j_19, j_20, j_21, j_22, j_23, j_24, j_25, j_26, j_27, j_28, j_29, j_30, j_31, j_32, j_33, j_34, j_35, j_36, j_37, j_38, j_39, j_40, j_41, j_42, j_43, j_44, j_45, j_46, j_47, j_48, j_49, j_50, j_51, j_52, j_57, j_59, j_63, j_74, j_75, j_93, j_97, j_99, j_100, j_122, j_200, j_255, j_300, j_465, j_496, j_900, j_999, j_1000, j_65536, j_65537, j_99999, j_252645135, j_858993459, j_1431655765, k_0, k_1, k_27, k_32, k_74, k_75, k_100, k_1000, k_65537, rt, v, e, rv_i]
theorem C_noDrinker {a : Ab} {t : Nat} {h : Hp} {z : Int} (HA : AW a) (H : CI a t h) (h1 : -2147483648 ≤ z) (h2 : z < 2147483648) : F_cs_noDrinker 0 (J z) h = some (J (if z < 0 ∨ qL a 4 0 - 1 < z then 1 else 0)) := by
  have k := XS_k (XV_x H.1); have tk := TS_k (XV_ts H.1); have rt := XV_t H.1
  have b := LW_d HA.1
  have v := TR_d H.2.1
  have e := outs_e (a := z) (lo := 0) (hi := qL a 4 0 - 1) h1 h2 (by omega) (by omega) (by omega) (by omega)
  unfold F_cs_noDrinker
  rw [ck_e k]
  simp (disch := first | with_reducible assumption | omega | trivial) only [bn_s1, bd_s1, ei_l1, ei_r1, gI_J, gL_J, gR_J, aI_J, aL_J, sI_J, sL_J, pI_J, pL_J, J_add, J_sub, J_mul, J_neg, J_lt, J_le, J_eq, dv_J, rm_J, if_pos, if_neg, ↓reduceIte, bitJ, shlJ, orJ, j_0, j_1, j_2, j_3, j_4, j_5, j_6, j_7, j_8, j_9, j_10, j_11, j_12, j_13, j_14, j_15, j_16, j_17, j_18, j_19, j_20, j_21, j_22, j_23, j_24, j_25, j_26, j_27, j_28, j_29, j_30, j_31, j_32, j_33, j_34, j_35, j_36, j_37, j_38, j_39, j_40, j_41, j_42, j_43, j_44, j_45, j_46, j_47, j_48, j_49, j_50, j_51, j_52, j_57, j_59, j_63, j_74, j_75, j_93, j_97, j_99, j_100, j_122, j_200, j_255, j_300, j_465, j_496, j_900, j_999, j_1000, j_65536, j_65537, j_99999, j_252645135, j_858993459, j_1431655765, k_0, k_1, k_27, k_32, k_74, k_75, k_100, k_1000, k_65537, rt, v, e, rv_i]
theorem C_noLake {a : Ab} {t : Nat} {h : Hp} (HA : AW a) (H : CI a t h) : F_cs_noLake 0 h = some (J (if qL a 1 0 = 0 then 1 else 0)) := by
  have k := XS_k (XV_x H.1); have tk := TS_k (XV_ts H.1); have rt := XV_t H.1
  have b := LW_h HA.1
  have v := TR_h H.2.1
  unfold F_cs_noLake
  rw [ck_e k]
  by_cases c : qL a 1 0 = 0
  · simp (disch := first | with_reducible assumption | omega | trivial) only [bn_s1, bd_s1, ei_l1, ei_r1, gI_J, gL_J, gR_J, aI_J, aL_J, sI_J, sL_J, pI_J, pL_J, J_add, J_sub, J_mul, J_neg, J_lt, J_le, J_eq, dv_J, rm_J, if_pos, if_neg, ↓reduceIte, bitJ, shlJ, orJ, j_0, j_1, j_2, j_3, j_4, j_5, j_6, j_7, j_8, j_9, j_10, j_11, j_12, j_13, j_14, j_15, j_16, j_17, j_18, j_19, j_20, j_21, j_22, j_23, j_24, j_25, j_26, j_27, j_28, j_29, j_30, j_31, j_32, j_33, j_34, j_35, j_36, j_37, j_38, j_39, j_40, j_41, j_42, j_43, j_44, j_45, j_46, j_47, j_48, j_49, j_50, j_51, j_52, j_57, j_59, j_63, j_74, j_75, j_93, j_97, j_99, j_100, j_122, j_200, j_255, j_300, j_465, j_496, j_900, j_999, j_1000, j_65536, j_65537, j_99999, j_252645135, j_858993459, j_1431655765, k_0, k_1, k_27, k_32, k_74, k_75, k_100, k_1000, k_65537, rt, v, c]
  · simp (disch := first | with_reducible assumption | omega | trivial) only [bn_s1, bd_s1, ei_l1, ei_r1, gI_J, gL_J, gR_J, aI_J, aL_J, sI_J, sL_J, pI_J, pL_J, J_add, J_sub, J_mul, J_neg, J_lt, J_le, J_eq, dv_J, rm_J, if_pos, if_neg, ↓reduceIte, bitJ, shlJ, orJ, j_0, j_1, j_2, j_3, j_4, j_5, j_6, j_7, j_8, j_9, j_10, j_11, j_12, j_13, j_14, j_15, j_16, j_17, j_18, j_19, j_20, j_21, j_22, j_23, j_24, j_25, j_26, j_27, j_28, j_29, j_30, j_31, j_32, j_33, j_34, j_35, j_36, j_37, j_38, j_39, j_40, j_41, j_42, j_43, j_44, j_45, j_46, j_47, j_48, j_49, j_50, j_51, j_52, j_57, j_59, j_63, j_74, j_75, j_93, j_97, j_99, j_100, j_122, j_200, j_255, j_300, j_465, j_496, j_900, j_999, j_1000, j_65536, j_65537, j_99999, j_252645135, j_858993459, j_1431655765, k_0, k_1, k_27, k_32, k_74, k_75, k_100, k_1000, k_65537, rt, v, c]
theorem C_refused {h : Hp} (k : kd h 0 = 11) (p q : Prop) [Decidable p] [Decidable q] : F_cs_refused 0 (J (if p then 1 else 0)) (J (if q then 1 else 0)) h = some (J (if p ∨ q then 1 else 0), wF h 0 12 (if p then 1 else if q then 2 else 0)) := by
  unfold F_cs_refused
  rw [ck_e k]
  by_cases c : p
  · have v : fi (wF h 0 12 1) 0 12 = 1 := fi_same (by omega) (by omega)
    have k' : kd (wF h 0 12 1) 0 = 11 := by rw [kd_wF]; exact k
    simp only [if_pos c, if_pos (Or.inl c : p ∨ q)]
    simp (disch := first | with_reducible assumption | omega | trivial) only [bn_s1, bd_s1, ei_l1, ei_r1, gI_J, gL_J, gR_J, aI_J, aL_J, sI_J, sL_J, pI_J, pL_J, J_add, J_sub, J_mul, J_neg, J_lt, J_le, J_eq, dv_J, rm_J, if_pos, if_neg, ↓reduceIte, bitJ, shlJ, orJ, j_0, j_1, j_2, j_3, j_4, j_5, j_6, j_7, j_8, j_9, j_10, j_11, j_12, j_13, j_14, j_15, j_16, j_17, j_18, j_19, j_20, j_21, j_22, j_23, j_24, j_25, j_26, j_27, j_28, j_29, j_30, j_31, j_32, j_33, j_34, j_35, j_36, j_37, j_38, j_39, j_40, j_41, j_42, j_43, j_44, j_45, j_46, j_47, j_48, j_49, j_50, j_51, j_52, j_57, j_59, j_63, j_74, j_75, j_93, j_97, j_99, j_100, j_122, j_200, j_255, j_300, j_465, j_496, j_900, j_999, j_1000, j_65536, j_65537, j_99999, j_252645135, j_858993459, j_1431655765, k_0, k_1, k_27, k_32, k_74, k_75, k_100, k_1000, k_65537, v]
  · by_cases d : q
    · have v : fi (wF h 0 12 2) 0 12 = 2 := fi_same (by omega) (by omega)
      have k' : kd (wF h 0 12 2) 0 = 11 := by rw [kd_wF]; exact k
      simp only [if_neg c, if_pos d, if_pos (Or.inr d : p ∨ q)]
      simp (disch := first | with_reducible assumption | omega | trivial) only [bn_s1, bd_s1, ei_l1, ei_r1, gI_J, gL_J, gR_J, aI_J, aL_J, sI_J, sL_J, pI_J, pL_J, J_add, J_sub, J_mul, J_neg, J_lt, J_le, J_eq, dv_J, rm_J, if_pos, if_neg, ↓reduceIte, bitJ, shlJ, orJ, j_0, j_1, j_2, j_3, j_4, j_5, j_6, j_7, j_8, j_9, j_10, j_11, j_12, j_13, j_14, j_15, j_16, j_17, j_18, j_19, j_20, j_21, j_22, j_23, j_24, j_25, j_26, j_27, j_28, j_29, j_30, j_31, j_32, j_33, j_34, j_35, j_36, j_37, j_38, j_39, j_40, j_41, j_42, j_43, j_44, j_45, j_46, j_47, j_48, j_49, j_50, j_51, j_52, j_57, j_59, j_63, j_74, j_75, j_93, j_97, j_99, j_100, j_122, j_200, j_255, j_300, j_465, j_496, j_900, j_999, j_1000, j_65536, j_65537, j_99999, j_252645135, j_858993459, j_1431655765, k_0, k_1, k_27, k_32, k_74, k_75, k_100, k_1000, k_65537, v]
    · have v : fi (wF h 0 12 0) 0 12 = 0 := fi_same (by omega) (by omega)
      have k' : kd (wF h 0 12 0) 0 = 11 := by rw [kd_wF]; exact k
      simp only [if_neg c, if_neg d, if_neg (not_or.mpr ⟨c, d⟩ : ¬ (p ∨ q))]
      simp (disch := first | with_reducible assumption | omega | trivial) only [bn_s1, bd_s1, ei_l1, ei_r1, gI_J, gL_J, gR_J, aI_J, aL_J, sI_J, sL_J, pI_J, pL_J, J_add, J_sub, J_mul, J_neg, J_lt, J_le, J_eq, dv_J, rm_J, if_pos, if_neg, ↓reduceIte, bitJ, shlJ, orJ, j_0, j_1, j_2, j_3, j_4, j_5, j_6, j_7, j_8, j_9, j_10, j_11, j_12, j_13, j_14, j_15, j_16, j_17, j_18, j_19, j_20, j_21, j_22, j_23, j_24, j_25, j_26, j_27, j_28, j_29, j_30, j_31, j_32, j_33, j_34, j_35, j_36, j_37, j_38, j_39, j_40, j_41, j_42, j_43, j_44, j_45, j_46, j_47, j_48, j_49, j_50, j_51, j_52, j_57, j_59, j_63, j_74, j_75, j_93, j_97, j_99, j_100, j_122, j_200, j_255, j_300, j_465, j_496, j_900, j_999, j_1000, j_65536, j_65537, j_99999, j_252645135, j_858993459, j_1431655765, k_0, k_1, k_27, k_32, k_74, k_75, k_100, k_1000, k_65537, v]
theorem C_refusedBy {h : Hp} {y : Int} (k : kd h 0 = 11) (p : Prop) [Decidable p] : F_cs_refusedBy 0 (J y) (J (if p then 1 else 0)) h = some (J (if p then 1 else 0), wF h 0 12 (if p then y else 0)) := by
  unfold F_cs_refusedBy
  rw [ck_e k]
  by_cases c : p
  · simp only [if_pos c]
    simp (disch := first | with_reducible assumption | omega | trivial) only [bn_s1, bd_s1, ei_l1, ei_r1, gI_J, gL_J, gR_J, aI_J, aL_J, sI_J, sL_J, pI_J, pL_J, J_add, J_sub, J_mul, J_neg, J_lt, J_le, J_eq, dv_J, rm_J, if_pos, if_neg, ↓reduceIte, bitJ, shlJ, orJ, j_0, j_1, j_2, j_3, j_4, j_5, j_6, j_7, j_8, j_9, j_10, j_11, j_12, j_13, j_14, j_15, j_16, j_17, j_18, j_19, j_20, j_21, j_22, j_23, j_24, j_25, j_26, j_27, j_28, j_29, j_30, j_31, j_32, j_33, j_34, j_35, j_36, j_37, j_38, j_39, j_40, j_41, j_42, j_43, j_44, j_45, j_46, j_47, j_48, j_49, j_50, j_51, j_52, j_57, j_59, j_63, j_74, j_75, j_93, j_97, j_99, j_100, j_122, j_200, j_255, j_300, j_465, j_496, j_900, j_999, j_1000, j_65536, j_65537, j_99999, j_252645135, j_858993459, j_1431655765, k_0, k_1, k_27, k_32, k_74, k_75, k_100, k_1000, k_65537, rv_1]
  · simp only [if_neg c]
    simp (disch := first | with_reducible assumption | omega | trivial) only [bn_s1, bd_s1, ei_l1, ei_r1, gI_J, gL_J, gR_J, aI_J, aL_J, sI_J, sL_J, pI_J, pL_J, J_add, J_sub, J_mul, J_neg, J_lt, J_le, J_eq, dv_J, rm_J, if_pos, if_neg, ↓reduceIte, bitJ, shlJ, orJ, j_0, j_1, j_2, j_3, j_4, j_5, j_6, j_7, j_8, j_9, j_10, j_11, j_12, j_13, j_14, j_15, j_16, j_17, j_18, j_19, j_20, j_21, j_22, j_23, j_24, j_25, j_26, j_27, j_28, j_29, j_30, j_31, j_32, j_33, j_34, j_35, j_36, j_37, j_38, j_39, j_40, j_41, j_42, j_43, j_44, j_45, j_46, j_47, j_48, j_49, j_50, j_51, j_52, j_57, j_59, j_63, j_74, j_75, j_93, j_97, j_99, j_100, j_122, j_200, j_255, j_300, j_465, j_496, j_900, j_999, j_1000, j_65536, j_65537, j_99999, j_252645135, j_858993459, j_1431655765, k_0, k_1, k_27, k_32, k_74, k_75, k_100, k_1000, k_65537, rv_0]
theorem D_good {h : Hp} {y : Int} (k : kd h 88 = 13) : F_md_good 88 (J y) h = some (J y, wF (wF h 88 1 0) 88 2 (-1)) := by
  have k' : kd (wF h 88 1 0) 88 = 13 := by rw [kd_wF]; exact k
  unfold F_md_good
  rw [ck_e k]
  simp (disch := first | with_reducible assumption | omega | trivial) only [bn_s1, bd_s1, ei_l1, ei_r1, gI_J, gL_J, gR_J, aI_J, aL_J, sI_J, sL_J, pI_J, pL_J, J_add, J_sub, J_mul, J_neg, J_lt, J_le, J_eq, dv_J, rm_J, if_pos, if_neg, ↓reduceIte, bitJ, shlJ, orJ, j_0, j_1, j_2, j_3, j_4, j_5, j_6, j_7, j_8, j_9, j_10, j_11, j_12, j_13, j_14, j_15, j_16, j_17, j_18, j_19, j_20, j_21, j_22, j_23, j_24, j_25, j_26, j_27, j_28, j_29, j_30, j_31, j_32, j_33, j_34, j_35, j_36, j_37, j_38, j_39, j_40, j_41, j_42, j_43, j_44, j_45, j_46, j_47, j_48, j_49, j_50, j_51, j_52, j_57, j_59, j_63, j_74, j_75, j_93, j_97, j_99, j_100, j_122, j_200, j_255, j_300, j_465, j_496, j_900, j_999, j_1000, j_65536, j_65537, j_99999, j_252645135, j_858993459, j_1431655765, k_0, k_1, k_27, k_32, k_74, k_75, k_100, k_1000, k_65537]
theorem D_refused {h : Hp} {y : Int} (k : kd h 88 = 13) : F_md_refused 88 (J y) h = some (J (-1), wF (wF h 88 1 y) 88 2 (-1)) := by
  have k' : kd (wF h 88 1 y) 88 = 13 := by rw [kd_wF]; exact k
  unfold F_md_refused
  rw [ck_e k]
  simp (disch := first | with_reducible assumption | omega | trivial) only [bn_s1, bd_s1, ei_l1, ei_r1, gI_J, gL_J, gR_J, aI_J, aL_J, sI_J, sL_J, pI_J, pL_J, J_add, J_sub, J_mul, J_neg, J_lt, J_le, J_eq, dv_J, rm_J, if_pos, if_neg, ↓reduceIte, bitJ, shlJ, orJ, j_0, j_1, j_2, j_3, j_4, j_5, j_6, j_7, j_8, j_9, j_10, j_11, j_12, j_13, j_14, j_15, j_16, j_17, j_18, j_19, j_20, j_21, j_22, j_23, j_24, j_25, j_26, j_27, j_28, j_29, j_30, j_31, j_32, j_33, j_34, j_35, j_36, j_37, j_38, j_39, j_40, j_41, j_42, j_43, j_44, j_45, j_46, j_47, j_48, j_49, j_50, j_51, j_52, j_57, j_59, j_63, j_74, j_75, j_93, j_97, j_99, j_100, j_122, j_200, j_255, j_300, j_465, j_496, j_900, j_999, j_1000, j_65536, j_65537, j_99999, j_252645135, j_858993459, j_1431655765, k_0, k_1, k_27, k_32, k_74, k_75, k_100, k_1000, k_65537]
theorem D_granted {h : Hp} (k : kd h 88 = 13) : F_md_granted 88 h = some (J 1, wF (wF h 88 1 0) 88 2 (-1)) := by
  have e := D_good (y := 0) k
  unfold F_md_granted
  rw [ck_e k]
  simp (disch := first | with_reducible assumption | omega | trivial) only [bn_s1, bd_s1, ei_l1, ei_r1, gI_J, gL_J, gR_J, aI_J, aL_J, sI_J, sL_J, pI_J, pL_J, J_add, J_sub, J_mul, J_neg, J_lt, J_le, J_eq, dv_J, rm_J, if_pos, if_neg, ↓reduceIte, bitJ, shlJ, orJ, j_0, j_1, j_2, j_3, j_4, j_5, j_6, j_7, j_8, j_9, j_10, j_11, j_12, j_13, j_14, j_15, j_16, j_17, j_18, j_19, j_20, j_21, j_22, j_23, j_24, j_25, j_26, j_27, j_28, j_29, j_30, j_31, j_32, j_33, j_34, j_35, j_36, j_37, j_38, j_39, j_40, j_41, j_42, j_43, j_44, j_45, j_46, j_47, j_48, j_49, j_50, j_51, j_52, j_57, j_59, j_63, j_74, j_75, j_93, j_97, j_99, j_100, j_122, j_200, j_255, j_300, j_465, j_496, j_900, j_999, j_1000, j_65536, j_65537, j_99999, j_252645135, j_858993459, j_1431655765, k_0, k_1, k_27, k_32, k_74, k_75, k_100, k_1000, k_65537, e]
theorem D_denied {h : Hp} {y : Int} (k : kd h 88 = 13) : F_md_denied 88 (J y) h = some (J 0, wF (wF h 88 1 y) 88 2 (-1)) := by
  have e := D_refused (y := y) k
  unfold F_md_denied
  rw [ck_e k]
  simp (disch := first | with_reducible assumption | omega | trivial) only [bn_s1, bd_s1, ei_l1, ei_r1, gI_J, gL_J, gR_J, aI_J, aL_J, sI_J, sL_J, pI_J, pL_J, J_add, J_sub, J_mul, J_neg, J_lt, J_le, J_eq, dv_J, rm_J, if_pos, if_neg, ↓reduceIte, bitJ, shlJ, orJ, j_0, j_1, j_2, j_3, j_4, j_5, j_6, j_7, j_8, j_9, j_10, j_11, j_12, j_13, j_14, j_15, j_16, j_17, j_18, j_19, j_20, j_21, j_22, j_23, j_24, j_25, j_26, j_27, j_28, j_29, j_30, j_31, j_32, j_33, j_34, j_35, j_36, j_37, j_38, j_39, j_40, j_41, j_42, j_43, j_44, j_45, j_46, j_47, j_48, j_49, j_50, j_51, j_52, j_57, j_59, j_63, j_74, j_75, j_93, j_97, j_99, j_100, j_122, j_200, j_255, j_300, j_465, j_496, j_900, j_999, j_1000, j_65536, j_65537, j_99999, j_252645135, j_858993459, j_1431655765, k_0, k_1, k_27, k_32, k_74, k_75, k_100, k_1000, k_65537, e]
theorem gQ_J {h : Hp} {a ci k : Nat} (hk : kd h a = ci) : gQ h a ci k = some (fR h a k) := by unfold gQ; rw [if_pos hk]
theorem D_isHouse {a : Ab} {h : Hp} {z : Int} (HA : AW a) (H : RI a h) (h1 : -2147483648 ≤ z) (h2 : z < 2147483648) : F_md_isHouse 88 (J z) h = some (J (if z < 0 ∨ qL a 1 0 - 1 < z then 0 else 1)) := by
  have k := MS_k H.1
  have b := LW_h HA.1
  unfold F_md_isHouse
  rw [ck_e k]
  cases H.2.1 with
  | inl q =>
    have e := q.2.1
    have l := q.2.2 1 (by omega)
    rw [if_pos (show z < 0 ∨ qL a 1 0 - 1 < z by omega)]
    simp (disch := first | with_reducible assumption | omega | trivial) only [bn_s1, bd_s1, ei_l1, ei_r1, gI_J, gL_J, gR_J, aI_J, aL_J, sI_J, sL_J, pI_J, pL_J, J_add, J_sub, J_mul, J_neg, J_lt, J_le, J_eq, dv_J, rm_J, if_pos, if_neg, ↓reduceIte, bitJ, shlJ, orJ, j_0, j_1, j_2, j_3, j_4, j_5, j_6, j_7, j_8, j_9, j_10, j_11, j_12, j_13, j_14, j_15, j_16, j_17, j_18, j_19, j_20, j_21, j_22, j_23, j_24, j_25, j_26, j_27, j_28, j_29, j_30, j_31, j_32, j_33, j_34, j_35, j_36, j_37, j_38, j_39, j_40, j_41, j_42, j_43, j_44, j_45, j_46, j_47, j_48, j_49, j_50, j_51, j_52, j_57, j_59, j_63, j_74, j_75, j_93, j_97, j_99, j_100, j_122, j_200, j_255, j_300, j_465, j_496, j_900, j_999, j_1000, j_65536, j_65537, j_99999, j_252645135, j_858993459, j_1431655765, k_0, k_1, k_27, k_32, k_74, k_75, k_100, k_1000, k_65537, gQ_J, e]
  | inr q =>
    obtain ⟨q1, b, q2⟩ := q
    have e := q2.2.1
    have yk := YS_k q2.2.2.1
    have v := q2.2.2.2.1.1.2.1
    have ne : ¬ (some b = none) := by intro x; cases x
    by_cases c : z < 0
    · rw [if_pos (Or.inl c)]
      simp (disch := first | with_reducible assumption | omega | trivial) only [bn_s1, bd_s1, ei_l1, ei_r1, gI_J, gL_J, gR_J, aI_J, aL_J, sI_J, sL_J, pI_J, pL_J, J_add, J_sub, J_mul, J_neg, J_lt, J_le, J_eq, dv_J, rm_J, if_pos, if_neg, ↓reduceIte, bitJ, shlJ, orJ, j_0, j_1, j_2, j_3, j_4, j_5, j_6, j_7, j_8, j_9, j_10, j_11, j_12, j_13, j_14, j_15, j_16, j_17, j_18, j_19, j_20, j_21, j_22, j_23, j_24, j_25, j_26, j_27, j_28, j_29, j_30, j_31, j_32, j_33, j_34, j_35, j_36, j_37, j_38, j_39, j_40, j_41, j_42, j_43, j_44, j_45, j_46, j_47, j_48, j_49, j_50, j_51, j_52, j_57, j_59, j_63, j_74, j_75, j_93, j_97, j_99, j_100, j_122, j_200, j_255, j_300, j_465, j_496, j_900, j_999, j_1000, j_65536, j_65537, j_99999, j_252645135, j_858993459, j_1431655765, k_0, k_1, k_27, k_32, k_74, k_75, k_100, k_1000, k_65537, gQ_J, e, ne]
    · by_cases d : z < qL a 1 0
      · rw [if_neg (show ¬ (z < 0 ∨ qL a 1 0 - 1 < z) by omega)]
        simp (disch := first | with_reducible assumption | omega | trivial) only [bn_s1, bd_s1, ei_l1, ei_r1, gI_J, gL_J, gR_J, aI_J, aL_J, sI_J, sL_J, pI_J, pL_J, J_add, J_sub, J_mul, J_neg, J_lt, J_le, J_eq, dv_J, rm_J, if_pos, if_neg, ↓reduceIte, bitJ, shlJ, orJ, j_0, j_1, j_2, j_3, j_4, j_5, j_6, j_7, j_8, j_9, j_10, j_11, j_12, j_13, j_14, j_15, j_16, j_17, j_18, j_19, j_20, j_21, j_22, j_23, j_24, j_25, j_26, j_27, j_28, j_29, j_30, j_31, j_32, j_33, j_34, j_35, j_36, j_37, j_38, j_39, j_40, j_41, j_42, j_43, j_44, j_45, j_46, j_47, j_48, j_49, j_50, j_51, j_52, j_57, j_59, j_63, j_74, j_75, j_93, j_97, j_99, j_100, j_122, j_200, j_255, j_300, j_465, j_496, j_900, j_999, j_1000, j_65536, j_65537, j_99999, j_252645135, j_858993459, j_1431655765, k_0, k_1, k_27, k_32, k_74, k_75, k_100, k_1000, k_65537, gQ_J, e, ne, v]
      · rw [if_pos (show z < 0 ∨ qL a 1 0 - 1 < z by omega)]
        simp (disch := first | with_reducible assumption | omega | trivial) only [bn_s1, bd_s1, ei_l1, ei_r1, gI_J, gL_J, gR_J, aI_J, aL_J, sI_J, sL_J, pI_J, pL_J, J_add, J_sub, J_mul, J_neg, J_lt, J_le, J_eq, dv_J, rm_J, if_pos, if_neg, ↓reduceIte, bitJ, shlJ, orJ, j_0, j_1, j_2, j_3, j_4, j_5, j_6, j_7, j_8, j_9, j_10, j_11, j_12, j_13, j_14, j_15, j_16, j_17, j_18, j_19, j_20, j_21, j_22, j_23, j_24, j_25, j_26, j_27, j_28, j_29, j_30, j_31, j_32, j_33, j_34, j_35, j_36, j_37, j_38, j_39, j_40, j_41, j_42, j_43, j_44, j_45, j_46, j_47, j_48, j_49, j_50, j_51, j_52, j_57, j_59, j_63, j_74, j_75, j_93, j_97, j_99, j_100, j_122, j_200, j_255, j_300, j_465, j_496, j_900, j_999, j_1000, j_65536, j_65537, j_99999, j_252645135, j_858993459, j_1431655765, k_0, k_1, k_27, k_32, k_74, k_75, k_100, k_1000, k_65537, gQ_J, e, ne, v]
theorem D_isGuest {a : Ab} {h : Hp} {z : Int} (HA : AW a) (H : RI a h) (h1 : -2147483648 ≤ z) (h2 : z < 2147483648) : F_md_isGuest 88 (J z) h = some (J (if z < 0 ∨ qL a 3 0 - 1 < z then 0 else 1)) := by
  have k := MS_k H.1
  have b := LW_g HA.1
  unfold F_md_isGuest
  rw [ck_e k]
  cases H.2.1 with
  | inl q =>
    have e := q.2.1
    have l := q.2.2 3 (by omega)
    rw [if_pos (show z < 0 ∨ qL a 3 0 - 1 < z by omega)]
    simp (disch := first | with_reducible assumption | omega | trivial) only [bn_s1, bd_s1, ei_l1, ei_r1, gI_J, gL_J, gR_J, aI_J, aL_J, sI_J, sL_J, pI_J, pL_J, J_add, J_sub, J_mul, J_neg, J_lt, J_le, J_eq, dv_J, rm_J, if_pos, if_neg, ↓reduceIte, bitJ, shlJ, orJ, j_0, j_1, j_2, j_3, j_4, j_5, j_6, j_7, j_8, j_9, j_10, j_11, j_12, j_13, j_14, j_15, j_16, j_17, j_18, j_19, j_20, j_21, j_22, j_23, j_24, j_25, j_26, j_27, j_28, j_29, j_30, j_31, j_32, j_33, j_34, j_35, j_36, j_37, j_38, j_39, j_40, j_41, j_42, j_43, j_44, j_45, j_46, j_47, j_48, j_49, j_50, j_51, j_52, j_57, j_59, j_63, j_74, j_75, j_93, j_97, j_99, j_100, j_122, j_200, j_255, j_300, j_465, j_496, j_900, j_999, j_1000, j_65536, j_65537, j_99999, j_252645135, j_858993459, j_1431655765, k_0, k_1, k_27, k_32, k_74, k_75, k_100, k_1000, k_65537, gQ_J, e]
  | inr q =>
    obtain ⟨q1, b, q2⟩ := q
    have e := q2.2.1
    have yk := YS_k q2.2.2.1
    have v := q2.2.2.2.1.1.2.2.2.1
    have ne : ¬ (some b = none) := by intro x; cases x
    by_cases c : z < 0
    · rw [if_pos (Or.inl c)]
      simp (disch := first | with_reducible assumption | omega | trivial) only [bn_s1, bd_s1, ei_l1, ei_r1, gI_J, gL_J, gR_J, aI_J, aL_J, sI_J, sL_J, pI_J, pL_J, J_add, J_sub, J_mul, J_neg, J_lt, J_le, J_eq, dv_J, rm_J, if_pos, if_neg, ↓reduceIte, bitJ, shlJ, orJ, j_0, j_1, j_2, j_3, j_4, j_5, j_6, j_7, j_8, j_9, j_10, j_11, j_12, j_13, j_14, j_15, j_16, j_17, j_18, j_19, j_20, j_21, j_22, j_23, j_24, j_25, j_26, j_27, j_28, j_29, j_30, j_31, j_32, j_33, j_34, j_35, j_36, j_37, j_38, j_39, j_40, j_41, j_42, j_43, j_44, j_45, j_46, j_47, j_48, j_49, j_50, j_51, j_52, j_57, j_59, j_63, j_74, j_75, j_93, j_97, j_99, j_100, j_122, j_200, j_255, j_300, j_465, j_496, j_900, j_999, j_1000, j_65536, j_65537, j_99999, j_252645135, j_858993459, j_1431655765, k_0, k_1, k_27, k_32, k_74, k_75, k_100, k_1000, k_65537, gQ_J, e, ne]
    · by_cases d : z < qL a 3 0
      · rw [if_neg (show ¬ (z < 0 ∨ qL a 3 0 - 1 < z) by omega)]
        simp (disch := first | with_reducible assumption | omega | trivial) only [bn_s1, bd_s1, ei_l1, ei_r1, gI_J, gL_J, gR_J, aI_J, aL_J, sI_J, sL_J, pI_J, pL_J, J_add, J_sub, J_mul, J_neg, J_lt, J_le, J_eq, dv_J, rm_J, if_pos, if_neg, ↓reduceIte, bitJ, shlJ, orJ, j_0, j_1, j_2, j_3, j_4, j_5, j_6, j_7, j_8, j_9, j_10, j_11, j_12, j_13, j_14, j_15, j_16, j_17, j_18, j_19, j_20, j_21, j_22, j_23, j_24, j_25, j_26, j_27, j_28, j_29, j_30, j_31, j_32, j_33, j_34, j_35, j_36, j_37, j_38, j_39, j_40, j_41, j_42, j_43, j_44, j_45, j_46, j_47, j_48, j_49, j_50, j_51, j_52, j_57, j_59, j_63, j_74, j_75, j_93, j_97, j_99, j_100, j_122, j_200, j_255, j_300, j_465, j_496, j_900, j_999, j_1000, j_65536, j_65537, j_99999, j_252645135, j_858993459, j_1431655765, k_0, k_1, k_27, k_32, k_74, k_75, k_100, k_1000, k_65537, gQ_J, e, ne, v]
      · rw [if_pos (show z < 0 ∨ qL a 3 0 - 1 < z by omega)]
        simp (disch := first | with_reducible assumption | omega | trivial) only [bn_s1, bd_s1, ei_l1, ei_r1, gI_J, gL_J, gR_J, aI_J, aL_J, sI_J, sL_J, pI_J, pL_J, J_add, J_sub, J_mul, J_neg, J_lt, J_le, J_eq, dv_J, rm_J, if_pos, if_neg, ↓reduceIte, bitJ, shlJ, orJ, j_0, j_1, j_2, j_3, j_4, j_5, j_6, j_7, j_8, j_9, j_10, j_11, j_12, j_13, j_14, j_15, j_16, j_17, j_18, j_19, j_20, j_21, j_22, j_23, j_24, j_25, j_26, j_27, j_28, j_29, j_30, j_31, j_32, j_33, j_34, j_35, j_36, j_37, j_38, j_39, j_40, j_41, j_42, j_43, j_44, j_45, j_46, j_47, j_48, j_49, j_50, j_51, j_52, j_57, j_59, j_63, j_74, j_75, j_93, j_97, j_99, j_100, j_122, j_200, j_255, j_300, j_465, j_496, j_900, j_999, j_1000, j_65536, j_65537, j_99999, j_252645135, j_858993459, j_1431655765, k_0, k_1, k_27, k_32, k_74, k_75, k_100, k_1000, k_65537, gQ_J, e, ne, v]
theorem D_isRopeNumber {a : Ab} {h : Hp} {z : Int} (HA : AW a) (H : RI a h) (h1 : -2147483648 ≤ z) (h2 : z < 2147483648) : F_md_isRopeNumber 88 (J z) h = some (J (if z < 0 ∨ qL a 2 0 - 1 < z then 0 else 1)) := by
  have k := MS_k H.1
  have b := LW_r HA.1
  unfold F_md_isRopeNumber
  rw [ck_e k]
  cases H.2.1 with
  | inl q =>
    have e := q.2.1
    have l := q.2.2 2 (by omega)
    rw [if_pos (show z < 0 ∨ qL a 2 0 - 1 < z by omega)]
    simp (disch := first | with_reducible assumption | omega | trivial) only [bn_s1, bd_s1, ei_l1, ei_r1, gI_J, gL_J, gR_J, aI_J, aL_J, sI_J, sL_J, pI_J, pL_J, J_add, J_sub, J_mul, J_neg, J_lt, J_le, J_eq, dv_J, rm_J, if_pos, if_neg, ↓reduceIte, bitJ, shlJ, orJ, j_0, j_1, j_2, j_3, j_4, j_5, j_6, j_7, j_8, j_9, j_10, j_11, j_12, j_13, j_14, j_15, j_16, j_17, j_18, j_19, j_20, j_21, j_22, j_23, j_24, j_25, j_26, j_27, j_28, j_29, j_30, j_31, j_32, j_33, j_34, j_35, j_36, j_37, j_38, j_39, j_40, j_41, j_42, j_43, j_44, j_45, j_46, j_47, j_48, j_49, j_50, j_51, j_52, j_57, j_59, j_63, j_74, j_75, j_93, j_97, j_99, j_100, j_122, j_200, j_255, j_300, j_465, j_496, j_900, j_999, j_1000, j_65536, j_65537, j_99999, j_252645135, j_858993459, j_1431655765, k_0, k_1, k_27, k_32, k_74, k_75, k_100, k_1000, k_65537, gQ_J, e]
  | inr q =>
    obtain ⟨q1, b, q2⟩ := q
    have e := q2.2.1
    have yk := YS_k q2.2.2.1
    have v := q2.2.2.2.1.1.2.2.1
    have ne : ¬ (some b = none) := by intro x; cases x
    by_cases c : z < 0
    · rw [if_pos (Or.inl c)]
      simp (disch := first | with_reducible assumption | omega | trivial) only [bn_s1, bd_s1, ei_l1, ei_r1, gI_J, gL_J, gR_J, aI_J, aL_J, sI_J, sL_J, pI_J, pL_J, J_add, J_sub, J_mul, J_neg, J_lt, J_le, J_eq, dv_J, rm_J, if_pos, if_neg, ↓reduceIte, bitJ, shlJ, orJ, j_0, j_1, j_2, j_3, j_4, j_5, j_6, j_7, j_8, j_9, j_10, j_11, j_12, j_13, j_14, j_15, j_16, j_17, j_18, j_19, j_20, j_21, j_22, j_23, j_24, j_25, j_26, j_27, j_28, j_29, j_30, j_31, j_32, j_33, j_34, j_35, j_36, j_37, j_38, j_39, j_40, j_41, j_42, j_43, j_44, j_45, j_46, j_47, j_48, j_49, j_50, j_51, j_52, j_57, j_59, j_63, j_74, j_75, j_93, j_97, j_99, j_100, j_122, j_200, j_255, j_300, j_465, j_496, j_900, j_999, j_1000, j_65536, j_65537, j_99999, j_252645135, j_858993459, j_1431655765, k_0, k_1, k_27, k_32, k_74, k_75, k_100, k_1000, k_65537, gQ_J, e, ne]
    · by_cases d : z < qL a 2 0
      · rw [if_neg (show ¬ (z < 0 ∨ qL a 2 0 - 1 < z) by omega)]
        simp (disch := first | with_reducible assumption | omega | trivial) only [bn_s1, bd_s1, ei_l1, ei_r1, gI_J, gL_J, gR_J, aI_J, aL_J, sI_J, sL_J, pI_J, pL_J, J_add, J_sub, J_mul, J_neg, J_lt, J_le, J_eq, dv_J, rm_J, if_pos, if_neg, ↓reduceIte, bitJ, shlJ, orJ, j_0, j_1, j_2, j_3, j_4, j_5, j_6, j_7, j_8, j_9, j_10, j_11, j_12, j_13, j_14, j_15, j_16, j_17, j_18, j_19, j_20, j_21, j_22, j_23, j_24, j_25, j_26, j_27, j_28, j_29, j_30, j_31, j_32, j_33, j_34, j_35, j_36, j_37, j_38, j_39, j_40, j_41, j_42, j_43, j_44, j_45, j_46, j_47, j_48, j_49, j_50, j_51, j_52, j_57, j_59, j_63, j_74, j_75, j_93, j_97, j_99, j_100, j_122, j_200, j_255, j_300, j_465, j_496, j_900, j_999, j_1000, j_65536, j_65537, j_99999, j_252645135, j_858993459, j_1431655765, k_0, k_1, k_27, k_32, k_74, k_75, k_100, k_1000, k_65537, gQ_J, e, ne, v]
      · rw [if_pos (show z < 0 ∨ qL a 2 0 - 1 < z by omega)]
        simp (disch := first | with_reducible assumption | omega | trivial) only [bn_s1, bd_s1, ei_l1, ei_r1, gI_J, gL_J, gR_J, aI_J, aL_J, sI_J, sL_J, pI_J, pL_J, J_add, J_sub, J_mul, J_neg, J_lt, J_le, J_eq, dv_J, rm_J, if_pos, if_neg, ↓reduceIte, bitJ, shlJ, orJ, j_0, j_1, j_2, j_3, j_4, j_5, j_6, j_7, j_8, j_9, j_10, j_11, j_12, j_13, j_14, j_15, j_16, j_17, j_18, j_19, j_20, j_21, j_22, j_23, j_24, j_25, j_26, j_27, j_28, j_29, j_30, j_31, j_32, j_33, j_34, j_35, j_36, j_37, j_38, j_39, j_40, j_41, j_42, j_43, j_44, j_45, j_46, j_47, j_48, j_49, j_50, j_51, j_52, j_57, j_59, j_63, j_74, j_75, j_93, j_97, j_99, j_100, j_122, j_200, j_255, j_300, j_465, j_496, j_900, j_999, j_1000, j_65536, j_65537, j_99999, j_252645135, j_858993459, j_1431655765, k_0, k_1, k_27, k_32, k_74, k_75, k_100, k_1000, k_65537, gQ_J, e, ne, v]
theorem D_isDrinker {a : Ab} {h : Hp} {z : Int} (HA : AW a) (H : RI a h) (h1 : -2147483648 ≤ z) (h2 : z < 2147483648) : F_md_isDrinker 88 (J z) h = some (J (if z < 0 ∨ qL a 4 0 - 1 < z then 0 else 1)) := by
  have k := MS_k H.1
  have b := LW_d HA.1
  unfold F_md_isDrinker
  rw [ck_e k]
  cases H.2.1 with
  | inl q =>
    have e := q.2.1
    have l := q.2.2 4 (by omega)
    rw [if_pos (show z < 0 ∨ qL a 4 0 - 1 < z by omega)]
    simp (disch := first | with_reducible assumption | omega | trivial) only [bn_s1, bd_s1, ei_l1, ei_r1, gI_J, gL_J, gR_J, aI_J, aL_J, sI_J, sL_J, pI_J, pL_J, J_add, J_sub, J_mul, J_neg, J_lt, J_le, J_eq, dv_J, rm_J, if_pos, if_neg, ↓reduceIte, bitJ, shlJ, orJ, j_0, j_1, j_2, j_3, j_4, j_5, j_6, j_7, j_8, j_9, j_10, j_11, j_12, j_13, j_14, j_15, j_16, j_17, j_18, j_19, j_20, j_21, j_22, j_23, j_24, j_25, j_26, j_27, j_28, j_29, j_30, j_31, j_32, j_33, j_34, j_35, j_36, j_37, j_38, j_39, j_40, j_41, j_42, j_43, j_44, j_45, j_46, j_47, j_48, j_49, j_50, j_51, j_52, j_57, j_59, j_63, j_74, j_75, j_93, j_97, j_99, j_100, j_122, j_200, j_255, j_300, j_465, j_496, j_900, j_999, j_1000, j_65536, j_65537, j_99999, j_252645135, j_858993459, j_1431655765, k_0, k_1, k_27, k_32, k_74, k_75, k_100, k_1000, k_65537, gQ_J, e]
  | inr q =>
    obtain ⟨q1, b, q2⟩ := q
    have e := q2.2.1
    have yk := YS_k q2.2.2.1
    have v := q2.2.2.2.1.1.2.2.2.2.1
    have ne : ¬ (some b = none) := by intro x; cases x
    by_cases c : z < 0
    · rw [if_pos (Or.inl c)]
      simp (disch := first | with_reducible assumption | omega | trivial) only [bn_s1, bd_s1, ei_l1, ei_r1, gI_J, gL_J, gR_J, aI_J, aL_J, sI_J, sL_J, pI_J, pL_J, J_add, J_sub, J_mul, J_neg, J_lt, J_le, J_eq, dv_J, rm_J, if_pos, if_neg, ↓reduceIte, bitJ, shlJ, orJ, j_0, j_1, j_2, j_3, j_4, j_5, j_6, j_7, j_8, j_9, j_10, j_11, j_12, j_13, j_14, j_15, j_16, j_17, j_18, j_19, j_20, j_21, j_22, j_23, j_24, j_25, j_26, j_27, j_28, j_29, j_30, j_31, j_32, j_33, j_34, j_35, j_36, j_37, j_38, j_39, j_40, j_41, j_42, j_43, j_44, j_45, j_46, j_47, j_48, j_49, j_50, j_51, j_52, j_57, j_59, j_63, j_74, j_75, j_93, j_97, j_99, j_100, j_122, j_200, j_255, j_300, j_465, j_496, j_900, j_999, j_1000, j_65536, j_65537, j_99999, j_252645135, j_858993459, j_1431655765, k_0, k_1, k_27, k_32, k_74, k_75, k_100, k_1000, k_65537, gQ_J, e, ne]
    · by_cases d : z < qL a 4 0
      · rw [if_neg (show ¬ (z < 0 ∨ qL a 4 0 - 1 < z) by omega)]
        simp (disch := first | with_reducible assumption | omega | trivial) only [bn_s1, bd_s1, ei_l1, ei_r1, gI_J, gL_J, gR_J, aI_J, aL_J, sI_J, sL_J, pI_J, pL_J, J_add, J_sub, J_mul, J_neg, J_lt, J_le, J_eq, dv_J, rm_J, if_pos, if_neg, ↓reduceIte, bitJ, shlJ, orJ, j_0, j_1, j_2, j_3, j_4, j_5, j_6, j_7, j_8, j_9, j_10, j_11, j_12, j_13, j_14, j_15, j_16, j_17, j_18, j_19, j_20, j_21, j_22, j_23, j_24, j_25, j_26, j_27, j_28, j_29, j_30, j_31, j_32, j_33, j_34, j_35, j_36, j_37, j_38, j_39, j_40, j_41, j_42, j_43, j_44, j_45, j_46, j_47, j_48, j_49, j_50, j_51, j_52, j_57, j_59, j_63, j_74, j_75, j_93, j_97, j_99, j_100, j_122, j_200, j_255, j_300, j_465, j_496, j_900, j_999, j_1000, j_65536, j_65537, j_99999, j_252645135, j_858993459, j_1431655765, k_0, k_1, k_27, k_32, k_74, k_75, k_100, k_1000, k_65537, gQ_J, e, ne, v]
      · rw [if_pos (show z < 0 ∨ qL a 4 0 - 1 < z by omega)]
        simp (disch := first | with_reducible assumption | omega | trivial) only [bn_s1, bd_s1, ei_l1, ei_r1, gI_J, gL_J, gR_J, aI_J, aL_J, sI_J, sL_J, pI_J, pL_J, J_add, J_sub, J_mul, J_neg, J_lt, J_le, J_eq, dv_J, rm_J, if_pos, if_neg, ↓reduceIte, bitJ, shlJ, orJ, j_0, j_1, j_2, j_3, j_4, j_5, j_6, j_7, j_8, j_9, j_10, j_11, j_12, j_13, j_14, j_15, j_16, j_17, j_18, j_19, j_20, j_21, j_22, j_23, j_24, j_25, j_26, j_27, j_28, j_29, j_30, j_31, j_32, j_33, j_34, j_35, j_36, j_37, j_38, j_39, j_40, j_41, j_42, j_43, j_44, j_45, j_46, j_47, j_48, j_49, j_50, j_51, j_52, j_57, j_59, j_63, j_74, j_75, j_93, j_97, j_99, j_100, j_122, j_200, j_255, j_300, j_465, j_496, j_900, j_999, j_1000, j_65536, j_65537, j_99999, j_252645135, j_858993459, j_1431655765, k_0, k_1, k_27, k_32, k_74, k_75, k_100, k_1000, k_65537, gQ_J, e, ne, v]
