/-! what holds between two lines; a fault is one of six -/
def GOx (o : Lo) (n p : Nat) : Prop := (∀ q L', o = .inl (q, L') → NB L' ∧ SD L' ∧ p ≤ q ∧ q ≤ n) ∧ (∀ f q, o = .inr (f, q) → 1 ≤ f ∧ f ≤ 6 ∧ 0 ≤ q ∧ q ≤ n)
theorem GOx_i {c : Prop} [Decidable c] {o o' : Lo} {n p : Nat} (h1 : c → GOx o n p) (h2 : ¬ c → GOx o' n p) : GOx (if c then o else o') n p := by
  by_cases h : c
  · rw [if_pos h]; exact h1 h
  · rw [if_neg h]; exact h2 h
theorem GOx_r {T : Int → Int} {n p p1 : Nat} {f : Int} (hf : 1 ≤ f ∧ f ≤ 6) (hp : p1 ≤ n) : GOx (.inr (f, (spn T n p1 : Nat))) n p := by
  refine ⟨fun _ _ e => (by cases e), fun f' q e => ?_⟩
  cases e
  have := spn_b T n p1 hp
  omega
theorem GOx_l {L : Lk} {n p q : Nat} (h1 : NB L) (h2 : SD L) (h3 : p ≤ q) (h4 : q ≤ n) : GOx (.inl (q, L)) n p := by
  refine ⟨fun q' L' e => ?_, fun _ _ e => (by cases e)⟩
  cases e
  exact ⟨h1, h2, h3, h4⟩
theorem GOx_m {o : Lo} {n p p' : Nat} (H : GOx o n p') (h : p ≤ p') : GOx o n p := ⟨fun q L' e => by have := H.1 q L' e; exact ⟨this.1, this.2.1, by omega, this.2.2.2⟩, H.2⟩
theorem tnx_m {T : Int → Int} {n p : Nat} (hp : p ≤ n) : p ≤ tnx T n p ∧ tnx T n p ≤ n := by
  have := spn_b T n p hp
  have := (tln_b T n p hp).1
  unfold tnx at *
  omega
theorem tnx_l {T : Int → Int} {n p : Nat} (hp : p ≤ n) (c : tso T n p = 0 ∨ tso T n p = 1 ∨ tso T n p = 2) : p + 1 ≤ tnx T n p := by
  have a := spn_b T n p hp
  have b := (tln_b T n p hp).2
  have d : ¬ n ≤ spn T n p := fun z => by unfold tso at c; rw [if_pos z] at c; omega
  have := b d
  unfold tnx
  omega
theorem pwf_n {T : Int → Int} {n p : Nat} {lo hi : Int} (c : ¬ pwf T n p lo hi = 0) : 1 ≤ pwf T n p lo hi ∧ pwf T n p lo hi ≤ 6 := by
  unfold pwf at c ⊢
  by_cases a : tso T n p = 1
  · rw [if_pos a] at c ⊢
    by_cases b : lo ≤ tnm T n p ∧ tnm T n p ≤ hi
    · rw [if_pos b] at c; omega
    · rw [if_neg b]; omega
  · rw [if_neg a]; omega
theorem pkf_n {L : Lk} {T : Int → Int} {n p : Nat} {s : Int} (c : ¬ pkf L T n p s = 0) : 1 ≤ pkf L T n p s ∧ pkf L T n p s ≤ 6 := by have := pkf_c L T n p s; omega
theorem pnf_n {L : Lk} {T : Int → Int} {n p : Nat} (c : ¬ pnf L T n p = 0) : 1 ≤ pnf L T n p ∧ pnf L T n p ≤ 6 := by
  unfold pnf at c ⊢
  by_cases a : isN T n p = true
  · rw [if_pos a] at c ⊢
    by_cases b : 0 ≤ frs L (t32 T n p)
    · rw [if_pos b]; omega
    · rw [if_neg b] at c; omega
  · rw [if_neg a]; omega
theorem bgf_n {L : Lk} {c m : Int} (h : ¬ bgf L c m = 0) : 1 ≤ bgf L c m ∧ bgf L c m ≤ 6 := by
  unfold bgf at h ⊢
  by_cases a : L 31 0 = 0
  · rw [if_pos a]; omega
  · rw [if_neg a] at h ⊢
    by_cases b : c = m
    · rw [if_pos b]; omega
    · rw [if_neg b] at h; omega
theorem NB_hou {L : Lk} {T : Int → Int} {n p : Nat} {v1 v2 : Int} (B : NB L) : NB (ap2 (nml L T n p 0 (L 1 0)) 1 9 v1 10 v2) := by
  constructor
  · show nml L T n p 0 (L 1 0) 8 0 = (nml L T n p 0 (L 1 0) 1 0 + 1) + nml L T n p 0 (L 1 0) 3 0 + nml L T n p 0 (L 1 0) 4 0
    rw [nml_8, nml_o (by omega), nml_o (by omega), nml_o (by omega)]
    have := B.1
    omega
  · intro i i0 i1
    replace i1 : i < nml L T n p 0 (L 1 0) 8 0 := i1
    rw [nml_8] at i1
    show (nml L T n p 0 (L 1 0) 28 i = 0 → nml L T n p 0 (L 1 0) 29 i < nml L T n p 0 (L 1 0) 1 0 + 1) ∧ (nml L T n p 0 (L 1 0) 28 i = 2 → nml L T n p 0 (L 1 0) 29 i < nml L T n p 0 (L 1 0) 4 0)
    rw [nml_o (k := 1) (by omega), nml_o (k := 4) (by omega)]
    by_cases e : i = L 8 0
    · obtain ⟨_, _, w3, w4⟩ := nml_n L T n p 0 (L 1 0) e
      rw [w3, w4]
      exact ⟨fun z => by omega, fun z => by omega⟩
    · rw [nml_p L T n p 0 (L 1 0) (by omega) e, nml_p L T n p 0 (L 1 0) (by omega) e]
      have q := B.2 i i0 (by omega)
      exact ⟨fun z => by have := q.1 z; omega, fun z => by have := q.2 z; omega⟩
theorem SD_hou {L : Lk} {T : Int → Int} {n p : Nat} {v1 v2 : Int} (S : SD L) : SD (ap2 (nml L T n p 0 (L 1 0)) 1 9 v1 10 v2) := by
  show ∀ i j, 0 ≤ i → i < j → j < nml L T n p 0 (L 1 0) 7 0 → ¬ nml L T n p 0 (L 1 0) 25 j = nml L T n p 0 (L 1 0) 25 i
  simp (disch := omega) only [nml_o]
  exact S
theorem NB_gst {L : Lk} {T : Int → Int} {n p : Nat} {v1 v2 : Int} (B : NB L) : NB (ap2 (nml L T n p 1 (L 3 0)) 3 15 v1 16 v2) := by
  constructor
  · show nml L T n p 1 (L 3 0) 8 0 = nml L T n p 1 (L 3 0) 1 0 + (nml L T n p 1 (L 3 0) 3 0 + 1) + nml L T n p 1 (L 3 0) 4 0
    rw [nml_8, nml_o (by omega), nml_o (by omega), nml_o (by omega)]
    have := B.1
    omega
  · intro i i0 i1
    replace i1 : i < nml L T n p 1 (L 3 0) 8 0 := i1
    rw [nml_8] at i1
    show (nml L T n p 1 (L 3 0) 28 i = 0 → nml L T n p 1 (L 3 0) 29 i < nml L T n p 1 (L 3 0) 1 0) ∧ (nml L T n p 1 (L 3 0) 28 i = 2 → nml L T n p 1 (L 3 0) 29 i < nml L T n p 1 (L 3 0) 4 0)
    rw [nml_o (k := 1) (by omega), nml_o (k := 4) (by omega)]
    by_cases e : i = L 8 0
    · obtain ⟨_, _, w3, w4⟩ := nml_n L T n p 1 (L 3 0) e
      rw [w3, w4]
      exact ⟨fun z => by omega, fun z => by omega⟩
    · rw [nml_p L T n p 1 (L 3 0) (by omega) e, nml_p L T n p 1 (L 3 0) (by omega) e]
      have q := B.2 i i0 (by omega)
      exact ⟨fun z => by have := q.1 z; omega, fun z => by have := q.2 z; omega⟩
theorem SD_gst {L : Lk} {T : Int → Int} {n p : Nat} {v1 v2 : Int} (S : SD L) : SD (ap2 (nml L T n p 1 (L 3 0)) 3 15 v1 16 v2) := by
  show ∀ i j, 0 ≤ i → i < j → j < nml L T n p 1 (L 3 0) 7 0 → ¬ nml L T n p 1 (L 3 0) 25 j = nml L T n p 1 (L 3 0) 25 i
  simp (disch := omega) only [nml_o]
  exact S
theorem NB_drk {L : Lk} {T : Int → Int} {n p : Nat} {v1 v2 : Int} (B : NB L) : NB (ap2 (nml L T n p 2 (L 4 0)) 4 17 v1 18 v2) := by
  constructor
  · show nml L T n p 2 (L 4 0) 8 0 = nml L T n p 2 (L 4 0) 1 0 + nml L T n p 2 (L 4 0) 3 0 + (nml L T n p 2 (L 4 0) 4 0 + 1)
    rw [nml_8, nml_o (by omega), nml_o (by omega), nml_o (by omega)]
    have := B.1
    omega
  · intro i i0 i1
    replace i1 : i < nml L T n p 2 (L 4 0) 8 0 := i1
    rw [nml_8] at i1
    show (nml L T n p 2 (L 4 0) 28 i = 0 → nml L T n p 2 (L 4 0) 29 i < nml L T n p 2 (L 4 0) 1 0) ∧ (nml L T n p 2 (L 4 0) 28 i = 2 → nml L T n p 2 (L 4 0) 29 i < nml L T n p 2 (L 4 0) 4 0 + 1)
    rw [nml_o (k := 1) (by omega), nml_o (k := 4) (by omega)]
    by_cases e : i = L 8 0
    · obtain ⟨_, _, w3, w4⟩ := nml_n L T n p 2 (L 4 0) e
      rw [w3, w4]
      exact ⟨fun z => by omega, fun z => by omega⟩
    · rw [nml_p L T n p 2 (L 4 0) (by omega) e, nml_p L T n p 2 (L 4 0) (by omega) e]
      have q := B.2 i i0 (by omega)
      exact ⟨fun z => by have := q.1 z; omega, fun z => by have := q.2 z; omega⟩
theorem SD_drk {L : Lk} {T : Int → Int} {n p : Nat} {v1 v2 : Int} (S : SD L) : SD (ap2 (nml L T n p 2 (L 4 0)) 4 17 v1 18 v2) := by
  show ∀ i j, 0 ≤ i → i < j → j < nml L T n p 2 (L 4 0) 7 0 → ¬ nml L T n p 2 (L 4 0) 25 j = nml L T n p 2 (L 4 0) 25 i
  simp (disch := omega) only [nml_o]
  exact S
theorem SD_sen {L : Lk} {x v : Int} (S : SD L) (c : ¬ sen L x = true) : SD (ap2 L 7 25 x 26 v) := by
  intro i j i0 ij j1
  replace j1 : j < L 7 0 + 1 := j1
  show ¬ (if j = L 7 0 then x else L 25 j) = (if i = L 7 0 then x else L 25 i)
  rw [if_neg (show ¬ i = L 7 0 by omega)]
  by_cases e : j = L 7 0
  · rw [if_pos e]
    intro z
    apply c
    obtain ⟨m1, m2, m3⟩ := fsi_p (fun i => decide (L 25 i = x)) (L 7 0).toNat
    unfold sen
    refine decide_eq_true ?_
    by_cases y : fsi (fun i => decide (L 25 i = x)) (L 7 0).toNat < (L 7 0).toNat
    · exact y
    · have w := m2 i.toNat (by omega)
      have w2 : L 25 ((i.toNat : Nat) : Int) = x := by rw [show ((i.toNat : Nat) : Int) = i by omega]; exact z.symm
      exact absurd w2 (of_decide_eq_false w)
  · rw [if_neg e]
    exact S i j i0 ij (by omega)
theorem G_mic {L : Lk} {T : Int → Int} {n p : Nat} (hp : p ≤ n) (B : NB L) (S : SD L) : GOx (a_mic L T n p) n p := by
  have p1 := tnx_m (T := T) hp
  have p2 := tnx_m (T := T) p1.2
  exact GOx_i (fun _ => GOx_i (fun _ => GOx_l B S (by omega) p2.2) (fun c => GOx_r (pwf_n c) p1.2)) (fun _ => GOx_r (by omega) hp)
theorem G_hou {L : Lk} {T : Int → Int} {n p : Nat} (hp : p ≤ n) (B : NB L) (S : SD L) : GOx (a_hou L T n p) n p := by
  have p1 := tnx_m (T := T) hp
  have p2 := tnx_m (T := T) p1.2
  have p3 := tnx_m (T := T) p2.2
  have p4 := tnx_m (T := T) p3.2
  have k : ∀ sd, GOx (a_hou3 L T n p (tnx T n (tnx T n p)) sd) n p := fun sd => GOx_i (fun _ => GOx_i (fun _ => GOx_l (NB_hou B) (SD_hou S) (by omega) p4.2) (fun c => GOx_r (pwf_n c) p3.2)) (fun _ => GOx_r (by omega) p2.2)
  exact GOx_i (fun _ => GOx_i (fun _ => k 0) (fun _ => GOx_i (fun _ => k 1) (fun _ => GOx_r (by omega) p1.2))) (fun c => GOx_r (pnf_n c) hp)
theorem G_rop {L : Lk} {T : Int → Int} {n p : Nat} (hp : p ≤ n) (B : NB L) (S : SD L) : GOx (a_rop L T n p) n p := by
  have p1 := tnx_m (T := T) hp
  have p2 := tnx_m (T := T) p1.2
  exact GOx_i (fun _ => GOx_i (fun _ => GOx_i (fun _ => GOx_r (by omega) p1.2) (fun _ => GOx_i (fun _ => GOx_r (by omega) p1.2) (fun _ => GOx_l B S (by omega) p2.2))) (fun c => GOx_r (pkf_n c) p1.2)) (fun c => GOx_r (pkf_n c) hp)
theorem G_crk {L : Lk} {T : Int → Int} {n p : Nat} (hp : p ≤ n) (B : NB L) (S : SD L) : GOx (a_crk L T n p) n p := by
  have p1 := tnx_m (T := T) hp
  have p2 := tnx_m (T := T) p1.2
  have p3 := tnx_m (T := T) p2.2
  exact GOx_i (fun _ => GOx_i (fun _ => GOx_r (by omega) p1.2) (fun _ => GOx_i (fun _ => GOx_r (by omega) p1.2) (fun _ => GOx_i (fun _ => GOx_l B S (by omega) p3.2) (fun c => GOx_r (pwf_n c) p2.2)))) (fun c => GOx_r (pkf_n c) hp)
theorem G_gst {L : Lk} {T : Int → Int} {n p : Nat} (hp : p ≤ n) (B : NB L) (S : SD L) : GOx (a_gst L T n p) n p := by
  have p1 := tnx_m (T := T) hp
  have p2 := tnx_m (T := T) p1.2
  have p3 := tnx_m (T := T) p2.2
  have p4 := tnx_m (T := T) p3.2
  have p5 := tnx_m (T := T) p4.2
  exact GOx_i (fun _ => GOx_i (fun _ => GOx_i (fun _ => GOx_i (fun _ => GOx_i (fun _ => GOx_l (NB_gst B) (SD_gst S) (by omega) p5.2) (fun c => GOx_r (pkf_n c) p4.2)) (fun _ => GOx_r (by omega) p3.2)) (fun c => GOx_r (pwf_n c) p2.2)) (fun _ => GOx_r (by omega) p1.2)) (fun c => GOx_r (pnf_n c) hp)
theorem G_drk {L : Lk} {T : Int → Int} {n p : Nat} (hp : p ≤ n) (B : NB L) (S : SD L) : GOx (a_drk L T n p) n p := by
  have p1 := tnx_m (T := T) hp
  have p2 := tnx_m (T := T) p1.2
  have p3 := tnx_m (T := T) p2.2
  have p4 := tnx_m (T := T) p3.2
  exact GOx_i (fun _ => GOx_i (fun _ => GOx_i (fun _ => GOx_i (fun _ => GOx_l (NB_drk B) (SD_drk S) (by omega) p4.2) (fun c => GOx_r (pwf_n c) p3.2)) (fun _ => GOx_r (by omega) p2.2)) (fun _ => GOx_r (by omega) p1.2)) (fun c => GOx_r (pnf_n c) hp)
theorem G_fea {L : Lk} {T : Int → Int} {n p : Nat} (hp : p ≤ n) (B : NB L) (S : SD L) : GOx (a_fea L T n p) n p := by
  have p1 := tnx_m (T := T) hp
  have p2 := tnx_m (T := T) p1.2
  have p3 := tnx_m (T := T) p2.2
  have p4 := tnx_m (T := T) p3.2
  have p5 := tnx_m (T := T) p4.2
  exact GOx_i (fun _ => GOx_i (fun _ => GOx_i (fun _ => GOx_i (fun _ => GOx_i (fun _ => GOx_l B S (by omega) p5.2) (fun c => GOx_r (pwf_n c) p4.2)) (fun _ => GOx_r (by omega) p3.2)) (fun c => GOx_r (pwf_n c) p2.2)) (fun _ => GOx_r (by omega) p1.2)) (fun c => GOx_r (pkf_n c) hp)
theorem G_gav {L : Lk} {T : Int → Int} {n p : Nat} (hp : p ≤ n) (B : NB L) (S : SD L) : GOx (a_gav L T n p) n p := by
  have p1 := tnx_m (T := T) hp
  have p2 := tnx_m (T := T) p1.2
  have p3 := tnx_m (T := T) p2.2
  exact GOx_i (fun _ => GOx_i (fun _ => GOx_i (fun _ => GOx_l B S (by omega) p3.2) (fun c => GOx_r (pwf_n c) p2.2)) (fun c => GOx_r (pkf_n c) p1.2)) (fun c => GOx_r (pkf_n c) hp)
theorem G_sen {L : Lk} {T : Int → Int} {n p : Nat} (hp : p ≤ n) (B : NB L) (S : SD L) : GOx (a_sen L T n p) n p := by
  have p1 := tnx_m (T := T) hp
  have p2 := tnx_m (T := T) p1.2
  have p3 := tnx_m (T := T) p2.2
  refine GOx_i (fun _ => GOx_i (fun _ => GOx_r (by omega) hp) (fun ns => ?_)) (fun c => GOx_r (pkf_n c) hp)
  have k : ∀ lo v, GOx (a_sen4 L T n (tnx T n (tnx T n p)) (knb L T n p) lo v) n p := fun lo v => GOx_i (fun _ => GOx_l B (SD_sen S ns) (by omega) p3.2) (fun c => GOx_r (pwf_n c) p2.2)
  exact GOx_i (fun _ => k _ _) (fun _ => GOx_i (fun _ => k _ _) (fun _ => GOx_r (by omega) p1.2))
theorem G_line {L : Lk} {T : Int → Int} {n p : Nat} (hp : p ≤ n) (B : NB L) (S : SD L) : GOx (a_line L T n p) n (p + 1) := by
  have p1 := tnx_m (T := T) hp
  have w : ∀ k, isW T n p k = true → p + 1 ≤ tnx T n p := fun k c => tnx_l hp (Or.inl (isW_y c).1)
  refine GOx_i (fun c => GOx_i (fun _ => GOx_m (G_mic p1.2 B S) (w _ c)) (fun _ => GOx_r (by omega) hp)) (fun _ => ?_)
  refine GOx_i (fun c => GOx_i (fun _ => GOx_m (G_hou p1.2 B S) (w _ c)) (fun d => GOx_r (bgf_n d) hp)) (fun _ => ?_)
  refine GOx_i (fun c => GOx_i (fun _ => GOx_m (G_rop p1.2 B S) (w _ c)) (fun d => GOx_r (bgf_n d) hp)) (fun _ => ?_)
  refine GOx_i (fun c => GOx_i (fun _ => GOx_m (G_crk p1.2 B S) (w _ c)) (fun d => GOx_r (bgf_n d) hp)) (fun _ => ?_)
  refine GOx_i (fun c => GOx_i (fun _ => GOx_m (G_gst p1.2 B S) (w _ c)) (fun d => GOx_r (bgf_n d) hp)) (fun _ => ?_)
  refine GOx_i (fun c => GOx_i (fun _ => GOx_m (G_drk p1.2 B S) (w _ c)) (fun d => GOx_r (bgf_n d) hp)) (fun _ => ?_)
  refine GOx_i (fun c => GOx_i (fun _ => GOx_m (G_fea p1.2 B S) (w _ c)) (fun d => GOx_r (bgf_n d) hp)) (fun _ => ?_)
  refine GOx_i (fun c => GOx_i (fun _ => GOx_m (G_gav p1.2 B S) (w _ c)) (fun d => GOx_r (bgf_n d) hp)) (fun _ => ?_)
  refine GOx_i (fun c => GOx_i (fun _ => GOx_m (G_sen p1.2 B S) (w _ c)) (fun d => GOx_r (bgf_n d) hp)) (fun _ => ?_)
  exact GOx_r (by omega) hp
