/-! a word and a whole number, in the reference -/
theorem D_part {T : Int → Int} {n p k : Nat} {h : Hp} {lo hi : Int} (B : DB T n h) (hp : p ≤ n) (H : DT T n p h) (hk : k < 24) (h1 : 0 ≤ lo ∧ lo ≤ 1000) (h2 : 0 ≤ hi ∧ hi ≤ 1000) : (isW T n p k = true → pwf T n (tnx T n p) lo hi = 0 → ∃ h', F_md_readPart 88 (1000003 + k) (J lo) (J hi) h = some (J (tnm T n (tnx T n p)), h') ∧ Gf h h' ∧ DT T n (tnx T n (tnx T n p)) h') ∧ (isW T n p k = true → ¬ pwf T n (tnx T n p) lo hi = 0 → ∃ g h', F_md_readPart 88 (1000003 + k) (J lo) (J hi) h = some (J lo, h') ∧ Gf h g ∧ FD (pwf T n (tnx T n p) lo hi) (spn T n (tnx T n p) : Nat) g h') ∧ (¬ isW T n p k = true → ∃ h', F_md_readPart 88 (1000003 + k) (J lo) (J hi) h = some (J lo, h') ∧ FD 1 (spn T n p : Nat) h h') := by
  have M := B.1
  have w := D_needs (k := k) B hp H hk
  have p1 := (tln_b T n p hp).1
  refine ⟨fun c z => ?_, fun c z => ?_, fun c => ?_⟩
  · obtain ⟨g1, e1, f1, c1, B1⟩ := w.1 c
    obtain ⟨g2, e2, f2, c2, _⟩ := (D_rw (lo := lo) (hi := hi) B1 p1 c1 h1 h2).1 z
    refine ⟨g2, ?_, gf_tr f1 f2, c2⟩
    unfold F_md_readPart
    rw [ck_e (MS_k M), bn_e e1, bd_e e2]
  · obtain ⟨g1, e1, f1, c1, B1⟩ := w.1 c
    obtain ⟨g2, e2, f2⟩ := (D_rw (lo := lo) (hi := hi) B1 p1 c1 h1 h2).2 z
    refine ⟨g1, g2, ?_, f1, f2⟩
    unfold F_md_readPart
    rw [ck_e (MS_k M), bn_e e1, bd_e e2]
  · obtain ⟨g1, e1, f1⟩ := w.2 c
    have e2 := D_rw5 (lo := J lo) (hi := J hi) (MS_fm f1.1 M) f1.2.1
    refine ⟨g1, ?_, f1⟩
    unfold F_md_readPart
    rw [ck_e (MS_k M), bn_e e1, bd_e e2]
