/-! rafts: the least closed set, by merging and by going round -/
def sub (x y : Nat) : Prop := ∀ i, x.testBit i = true → y.testBit i = true
def Cl (E : List (Nat × Nat)) (x : Nat) : Prop := ∀ e, e ∈ E → x.testBit e.1 = x.testBit e.2
def mrg (B : Nat → Nat) (e : Nat × Nat) : Nat → Nat := fun h => if (B e.1 ||| B e.2).testBit h then B e.1 ||| B e.2 else B h
def jn (E : List (Nat × Nat)) : Nat → Nat := E.foldl mrg (fun h => 2 ^ h)
theorem sub_eq {x y : Nat} (h1 : sub x y) (h2 : sub y x) : x = y := by
  apply Nat.eq_of_testBit_eq
  intro i
  cases hx : x.testBit i with
  | true => exact (h1 i hx).symm
  | false =>
    cases hy : y.testBit i with
    | true => exact absurd (h2 i hy) (by rw [hx]; decide)
    | false => rfl
theorem two_b (h g : Nat) : (2 ^ h).testBit g = decide (h = g) := Nat.testBit_two_pow
def Inv (n : Nat) (E : List (Nat × Nat)) (B : Nat → Nat) : Prop := (∀ h, h < n → (B h).testBit h = true) ∧ (∀ h, h < n → B h < 2 ^ n) ∧ (∀ h g, h < n → g < n → (B h).testBit g = true → B g = B h) ∧ (∀ e, e ∈ E → B e.1 = B e.2) ∧ (∀ h, h < n → ∀ x, Cl E x → x.testBit h = true → sub (B h) x)
theorem lt_of_bit {n x g : Nat} (hx : x < 2 ^ n) (hg : x.testBit g = true) : g < n := by
  have h1 := Nat.ge_two_pow_of_testBit hg
  cases Nat.lt_or_ge g n with
  | inl h => exact h
  | inr h => have := Nat.pow_le_pow_right (n := 2) (by decide) h; omega
theorem inv_0 (n : Nat) : Inv n [] (fun h => 2 ^ h) := by
  refine ⟨fun h _ => ?_, fun h hh => ?_, fun h g _ _ hb => ?_, fun e he => ?_, fun h _ x _ hx i hi => ?_⟩
  · show (2 ^ h).testBit h = true
    rw [two_b]; simp
  · exact Nat.pow_lt_pow_right (by decide) hh
  · replace hb : (2 ^ h).testBit g = true := hb
    rw [two_b] at hb
    rw [of_decide_eq_true hb]
  · cases he
  · replace hi : (2 ^ h).testBit i = true := hi
    rw [two_b] at hi
    rw [← of_decide_eq_true hi]; exact hx
theorem inv_s {n : Nat} {E : List (Nat × Nat)} {B : Nat → Nat} (H : Inv n E B) (hE : ∀ e, e ∈ E → e.1 < n ∧ e.2 < n) {e : Nat × Nat} (h1 : e.1 < n) (h2 : e.2 < n) : Inv n (E ++ [e]) (mrg B e) := by
  obtain ⟨a1, a2, a3, a4, a5⟩ := H
  obtain ⟨a, b⟩ := e
  replace h1 : a < n := h1
  replace h2 : b < n := h2
  have hM : ∀ g, (B a ||| B b).testBit g = true → (B a).testBit g = true ∨ (B b).testBit g = true := by
    intro g hg
    rw [Nat.testBit_or] at hg
    cases hA : (B a).testBit g with
    | true => exact Or.inl rfl
    | false => rw [hA] at hg; exact Or.inr (by simpa using hg)
  have hMa : ∀ g, (B a).testBit g = true → (B a ||| B b).testBit g = true := by intro g hg; rw [Nat.testBit_or, hg]; rfl
  have hMb : ∀ g, (B b).testBit g = true → (B a ||| B b).testBit g = true := by intro g hg; rw [Nat.testBit_or, hg, Bool.or_true]
  have hP : ∀ h, (B a ||| B b).testBit h = true → mrg B (a, b) h = B a ||| B b := by intro h hh; exact if_pos hh
  have hN : ∀ h, ¬ (B a ||| B b).testBit h = true → mrg B (a, b) h = B h := by intro h hh; exact if_neg hh
  have hl : ∀ g, (B a ||| B b).testBit g = true → g < n := by
    intro g hg
    cases hM g hg with
    | inl h => exact lt_of_bit (a2 a h1) h
    | inr h => exact lt_of_bit (a2 b h2) h
  have hc : ∀ h g, h < n → g < n → B g = B h → (B a ||| B b).testBit h = true → (B a ||| B b).testBit g = true := by
    intro h g hh hg e hm
    cases hM h hm with
    | inl x =>
      have e1 := a3 a h h1 hh x
      apply hMa
      rw [← e1, ← e]
      exact a1 g hg
    | inr x =>
      have e1 := a3 b h h2 hh x
      apply hMb
      rw [← e1, ← e]
      exact a1 g hg
  refine ⟨fun h hh => ?_, fun h hh => ?_, fun h g hh hg hb => ?_, fun e he => ?_, fun h hh x hx hxh => ?_⟩
  · by_cases hm : (B a ||| B b).testBit h = true
    · rw [hP h hm]; exact hm
    · rw [hN h hm]; exact a1 h hh
  · by_cases hm : (B a ||| B b).testBit h = true
    · rw [hP h hm]; exact Nat.or_lt_two_pow (a2 a h1) (a2 b h2)
    · rw [hN h hm]; exact a2 h hh
  · by_cases hm : (B a ||| B b).testBit h = true
    · rw [hP h hm] at hb ⊢
      exact hP g hb
    · rw [hN h hm] at hb ⊢
      have e1 := a3 h g hh hg hb
      rw [hN g (fun hm' => hm (hc g h hg hh e1.symm hm'))]
      exact e1
  · rw [List.mem_append] at he
    cases he with
    | inl he =>
      have e1 := a4 e he
      have e2 := hE e he
      by_cases hm : (B a ||| B b).testBit e.1 = true
      · rw [hP _ hm, hP _ (hc e.1 e.2 e2.1 e2.2 e1.symm hm)]
      · rw [hN _ hm, hN _ (fun hm' => hm (hc e.2 e.1 e2.2 e2.1 e1 hm'))]
        exact e1
    | inr he =>
      have : e = (a, b) := by simpa using he
      rw [this]
      rw [hP a (hMa a (a1 a h1)), hP b (hMb b (a1 b h2))]
  · have hxE : Cl E x := fun e he => hx e (List.mem_append.mpr (Or.inl he))
    have hab : x.testBit a = x.testBit b := hx (a, b) (List.mem_append.mpr (Or.inr (by simp)))
    by_cases hm : (B a ||| B b).testBit h = true
    · rw [hP h hm]
      have hxa : x.testBit a = true := by
        cases hM h hm with
        | inl y =>
          have e1 := a3 a h h1 hh y
          exact a5 h hh x hxE hxh a (by rw [e1]; exact a1 a h1)
        | inr y =>
          have e1 := a3 b h h2 hh y
          rw [hab]
          exact a5 h hh x hxE hxh b (by rw [e1]; exact a1 b h2)
      intro i hi
      cases hM i hi with
      | inl y => exact a5 a h1 x hxE hxa i y
      | inr y => exact a5 b h2 x hxE (by rw [← hab]; exact hxa) i y
    · rw [hN h hm]
      exact a5 h hh x hxE hxh
theorem rst_c {x : Nat} {e : Nat × Nat} : sub x (rst x e) ∧ (∀ y, y.testBit e.1 = y.testBit e.2 → sub x y → sub (rst x e) y) := by
  obtain ⟨a, b⟩ := e
  have hor : ∀ (x y i : Nat), (x ||| 2 ^ y).testBit i = (x.testBit i || decide (y = i)) := fun x y i => by rw [Nat.testBit_or, two_b]
  have s1 : sub x (if x.testBit a then x ||| 2 ^ b else x) := by
    intro i hi
    by_cases hc : x.testBit a = true
    · rw [if_pos hc, hor, hi]; rfl
    · rw [if_neg hc]; exact hi
  constructor
  · intro i hi
    show (rst x (a, b)).testBit i = true
    unfold rst
    by_cases hc : (if x.testBit a then x ||| 2 ^ b else x).testBit b = true
    · rw [if_pos hc, hor]
      show ((if x.testBit a then x ||| 2 ^ b else x).testBit i || _) = true
      rw [s1 i hi]; rfl
    · rw [if_neg hc]; exact s1 i hi
  · intro y hy hs
    replace hy : y.testBit a = y.testBit b := hy
    have s2 : sub (if x.testBit a then x ||| 2 ^ b else x) y := by
      intro i hi
      by_cases hc : x.testBit a = true
      · rw [if_pos hc, hor] at hi
        cases hx : x.testBit i with
        | true => exact hs i hx
        | false =>
          rw [hx] at hi
          have : b = i := by simpa using hi
          rw [← this, ← hy]
          exact hs a hc
      · rw [if_neg hc] at hi; exact hs i hi
    intro i hi
    replace hi : (rst x (a, b)).testBit i = true := hi
    unfold rst at hi
    by_cases hc : (if x.testBit a then x ||| 2 ^ b else x).testBit b = true
    · rw [if_pos hc, hor] at hi
      cases hx : (if x.testBit a then x ||| 2 ^ b else x).testBit i with
      | true => exact s2 i hx
      | false =>
        replace hi : ((if x.testBit a then x ||| 2 ^ b else x).testBit i || decide (a = i)) = true := hi
        rw [hx] at hi
        have : a = i := by simpa using hi
        rw [← this, hy]
        exact s2 b hc
    · rw [if_neg hc] at hi; exact s2 i hi
theorem rst_f {x : Nat} {e : Nat × Nat} (h : rst x e = x) : x.testBit e.1 = x.testBit e.2 := by
  obtain ⟨a, b⟩ := e
  show x.testBit a = x.testBit b
  have hor : ∀ (x y i : Nat), (x ||| 2 ^ y).testBit i = (x.testBit i || decide (y = i)) := fun x y i => by rw [Nat.testBit_or, two_b]
  unfold rst at h
  replace h : (if (if x.testBit a then x ||| 2 ^ b else x).testBit b then (if x.testBit a then x ||| 2 ^ b else x) ||| 2 ^ a else (if x.testBit a then x ||| 2 ^ b else x)) = x := h
  cases hA : x.testBit a with
  | true =>
    rw [hA, if_pos rfl] at h
    have h1 : (x ||| 2 ^ b).testBit b = true := by rw [hor]; simp
    rw [if_pos h1] at h
    rw [← h, hor, h1]; rfl
  | false =>
    have e0 : (if x.testBit a then x ||| 2 ^ b else x) = x := if_neg (by rw [hA]; decide)
    rw [e0] at h
    cases hB : x.testBit b with
    | false => rfl
    | true =>
      rw [hB, if_pos rfl] at h
      have h1 : (x ||| 2 ^ a).testBit a = true := by rw [hor]; simp
      rw [h, hA] at h1
      cases h1
theorem rnd_c {E : List (Nat × Nat)} : ∀ {x : Nat}, sub x (rnd E x) ∧ (∀ y, Cl E y → sub x y → sub (rnd E x) y) := by
  induction E with
  | nil => intro x; exact ⟨fun i hi => hi, fun y _ hs => hs⟩
  | cons e t ih =>
    intro x
    have h1 := rst_c (x := x) (e := e)
    have h2 := ih (x := rst x e)
    refine ⟨fun i hi => h2.1 i (h1.1 i hi), fun y hy hs => ?_⟩
    exact h2.2 y (fun e' he' => hy e' (List.mem_cons_of_mem _ he')) (h1.2 y (hy e List.mem_cons_self) hs)
theorem rnd_f {E : List (Nat × Nat)} : ∀ {x : Nat}, rnd E x = x → Cl E x := by
  induction E with
  | nil => intro x _ e he; cases he
  | cons e t ih =>
    intro x h
    have h1 := (rst_c (x := x) (e := e)).1
    have h2 := (rnd_c (E := t) (x := rst x e)).1
    replace h : rnd t (rst x e) = x := h
    rw [h] at h2
    have h3 : rst x e = x := sub_eq h2 h1
    rw [h3] at h
    intro e' he'
    cases List.mem_cons.mp he' with
    | inl q => rw [q]; exact rst_f h3
    | inr q => exact ih h e' q
theorem pc_lt : ∀ a, a < 32 → ∀ b, b < 32 → a ||| b = b → a ≠ b → pc5 a < pc5 b := by decide +kernel
theorem pc_le : ∀ n, n < 6 → ∀ y, y < 32 → y < 2 ^ n → pc5 y ≤ n := by decide +kernel
theorem pc_one : ∀ h, h < 5 → pc5 (2 ^ h) = 1 := by decide +kernel
theorem pc_pos : ∀ y, y < 32 → y ≠ 0 → 1 ≤ pc5 y := by decide +kernel
theorem itr_c {E : List (Nat × Nat)} {x : Nat} : ∀ n, sub x (itr E n x) ∧ (∀ y, Cl E y → sub x y → sub (itr E n x) y) := by
  intro n
  induction n with
  | zero => exact ⟨fun i hi => hi, fun y _ hs => hs⟩
  | succ n ih =>
    have h1 := rnd_c (E := E) (x := itr E n x)
    exact ⟨fun i hi => h1.1 i (ih.1 i hi), fun y hy hs => h1.2 y hy (ih.2 y hy hs)⟩
theorem full_b (n i : Nat) : (2 ^ n - 1).testBit i = decide (i < n) := Nat.testBit_two_pow_sub_one n i
theorem lt_of_sub {n x : Nat} (h : sub x (2 ^ n - 1)) : x < 2 ^ n := by
  apply Nat.lt_pow_two_of_testBit
  intro i hi
  cases hx : x.testBit i with
  | false => rfl
  | true =>
    have := h i hx
    rw [full_b] at this
    have := of_decide_eq_true this
    omega
theorem sub_of_lt {n x : Nat} (h : x < 2 ^ n) : sub x (2 ^ n - 1) := by
  intro i hi
  rw [full_b]
  exact decide_eq_true (lt_of_bit h hi)
theorem or_of_sub {x y : Nat} (h : sub x y) : x ||| y = y := by
  apply Nat.eq_of_testBit_eq
  intro i
  rw [Nat.testBit_or]
  cases hx : x.testBit i with
  | true => rw [h i hx]; rfl
  | false => rfl
theorem itr_lt {n : Nat} {E : List (Nat × Nat)} (hE : ∀ e, e ∈ E → e.1 < n ∧ e.2 < n) {h : Nat} (hh : h < n) (m : Nat) : itr E m (2 ^ h) < 2 ^ n := by
  apply lt_of_sub
  refine (itr_c m).2 _ (fun e he => ?_) (sub_of_lt (Nat.pow_lt_pow_right (by decide) hh))
  rw [full_b, full_b, decide_eq_true (hE e he).1, decide_eq_true (hE e he).2]
theorem itr_cl {n : Nat} (hn : n ≤ 5) {E : List (Nat × Nat)} (hE : ∀ e, e ∈ E → e.1 < n ∧ e.2 < n) {h : Nat} (hh : h < n) : Cl E (itr E n (2 ^ h)) := by
  have hp : 2 ^ n ≤ 32 := Nat.pow_le_pow_right (n := 2) (j := 5) (by decide) hn
  have key : ∀ m, Cl E (itr E m (2 ^ h)) ∨ m + 1 ≤ pc5 (itr E m (2 ^ h)) := by
    intro m
    induction m with
    | zero => right; show 0 + 1 ≤ pc5 (2 ^ h); rw [pc_one h (by omega)]; omega
    | succ m ih =>
      have h1 := rnd_c (E := E) (x := itr E m (2 ^ h))
      show Cl E (rnd E (itr E m (2 ^ h))) ∨ m + 1 + 1 ≤ pc5 (rnd E (itr E m (2 ^ h)))
      by_cases hr : rnd E (itr E m (2 ^ h)) = itr E m (2 ^ h)
      · left; rw [hr]; exact rnd_f hr
      · have l1 := itr_lt hE hh m
        have l2 : rnd E (itr E m (2 ^ h)) < 2 ^ n := itr_lt hE hh (m + 1)
        have h2 := pc_lt _ (by omega) _ (by omega) (or_of_sub h1.1) (fun q => hr q.symm)
        cases ih with
        | inl c =>
          exfalso
          exact hr (sub_eq (h1.2 _ c (fun i hi => hi)) h1.1)
        | inr c => right; omega
  cases key n with
  | inl c => exact c
  | inr c =>
    have l1 := itr_lt hE hh n
    have := pc_le n (by omega) _ (by omega) l1
    omega
theorem inv_jn {n : Nat} : ∀ (k : Nat) (L : Lk) (c : Nat), (∀ i : Nat, i < k → (L 13 i).toNat < n ∧ (L 14 i).toNat < n) → Inv n (rop L c k) (jn (rop L c k)) ∧ (∀ e, e ∈ rop L c k → e.1 < n ∧ e.2 < n) := by
  intro k
  induction k with
  | zero => intro L c _; exact ⟨inv_0 n, fun e he => by cases he⟩
  | succ k ih =>
    intro L c hk
    obtain ⟨h1, h2⟩ := ih L c (fun i hi => hk i (by omega))
    have h3 := hk k (by omega)
    by_cases hc : c.testBit k = true
    · have e : rop L c (k + 1) = rop L c k := by show rop L c k ++ (if c.testBit k then [] else _) = _; rw [if_pos hc, List.append_nil]
      rw [e]; exact ⟨h1, h2⟩
    · have e : rop L c (k + 1) = rop L c k ++ [((L 13 k).toNat, (L 14 k).toNat)] := by show rop L c k ++ (if c.testBit k then [] else _) = _; rw [if_neg hc]
      rw [e]
      refine ⟨?_, fun e he => ?_⟩
      · have := inv_s h1 h2 (e := ((L 13 k).toNat, (L 14 k).toNat)) h3.1 h3.2
        have e2 : jn (rop L c k ++ [((L 13 k).toNat, (L 14 k).toNat)]) = mrg (jn (rop L c k)) ((L 13 k).toNat, (L 14 k).toNat) := by
          unfold jn; rw [List.foldl_append]; rfl
        rw [e2]; exact this
      · rw [List.mem_append] at he
        cases he with
        | inl he => exact h2 e he
        | inr he =>
          have : e = ((L 13 k).toNat, (L 14 k).toNat) := by simpa using he
          rw [this]; exact h3
theorem rop_n {L : Lk} (H : LW L) : ∀ i : Nat, i < rn L → (L 13 i).toNat < hn L ∧ (L 14 i).toNat < hn L := by
  intro i hi
  have h1 := LW_rs H i (by omega) (by unfold rn at hi; omega)
  unfold hn
  omega
theorem raft_jn {L : Lk} (H : LW L) (c : Nat) {h : Int} (h0 : 0 ≤ h) (h1 : h < L 1 0) : jn (rop L c (rn L)) h.toNat = raft L c h := by
  obtain ⟨⟨a1, a2, a3, a4, a5⟩, hE⟩ := inv_jn (n := hn L) (rn L) L c (rop_n H)
  have b1 := LW_h H
  have hh : h.toNat < hn L := by unfold hn; omega
  have hcl := itr_cl (n := hn L) (by unfold hn; omega) hE hh
  have hc := itr_c (E := rop L c (rn L)) (x := 2 ^ h.toNat) (hn L)
  have hs : (itr (rop L c (rn L)) (hn L) (2 ^ h.toNat)).testBit h.toNat = true := hc.1 _ (by rw [two_b]; simp)
  apply sub_eq
  · exact a5 _ hh _ hcl hs
  · refine hc.2 _ (fun e he => ?_) (fun i hi => ?_)
    · have e1 := a4 e he
      have e2 := hE e he
      cases hA : (jn (rop L c (rn L)) h.toNat).testBit e.1 with
      | true =>
        have := a3 _ _ hh e2.1 hA
        rw [← this, e1]
        exact (a1 _ e2.2).symm
      | false =>
        cases hB : (jn (rop L c (rn L)) h.toNat).testBit e.2 with
        | false => rfl
        | true =>
          have := a3 _ _ hh e2.2 hB
          rw [← this, ← e1, a1 _ e2.1] at hA
          cases hA
    · rw [two_b] at hi
      rw [← of_decide_eq_true hi]
      exact a1 _ hh
theorem raft_p {L : Lk} (H : LW L) (c : Nat) {h : Int} (h0 : 0 ≤ h) (h1 : h < L 1 0) : raft L c h < 2 ^ hn L ∧ raft L c h < 32 ∧ (raft L c h).testBit h.toNat = true ∧ 1 ≤ pc5 (raft L c h) ∧ pc5 (raft L c h) ≤ 5 := by
  obtain ⟨⟨a1, a2, a3, a4, a5⟩, hE⟩ := inv_jn (n := hn L) (rn L) L c (rop_n H)
  have b1 := LW_h H
  have hh : h.toNat < hn L := by unfold hn; omega
  have hp : 2 ^ hn L ≤ 32 := Nat.pow_le_pow_right (n := 2) (i := hn L) (j := 5) (by decide) (by unfold hn; omega)
  have e := raft_jn H c h0 h1
  have l := a2 _ hh
  have t := a1 _ hh
  rw [e] at l t
  refine ⟨l, by omega, t, ?_, ?_⟩
  · apply pc_pos _ (by omega)
    intro q
    rw [q, Nat.zero_testBit] at t
    cases t
  · exact pc_le 5 (by decide) _ (by omega) (by omega)
theorem raft_s {L : Lk} (H : LW L) (c : Nat) {h g : Int} (h0 : 0 ≤ h) (h1 : h < L 1 0) (g0 : 0 ≤ g) (g1 : g < L 1 0) (hb : (raft L c h).testBit g.toNat = true) : raft L c g = raft L c h := by
  obtain ⟨⟨a1, a2, a3, a4, a5⟩, hE⟩ := inv_jn (n := hn L) (rn L) L c (rop_n H)
  have e := raft_jn H c h0 h1
  have e' := raft_jn H c g0 g1
  rw [← e] at hb
  rw [← e, ← e']
  exact a3 _ _ (by unfold hn; omega) (by unfold hn; omega) hb
