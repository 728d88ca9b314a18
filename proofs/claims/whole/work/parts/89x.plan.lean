/-! plans: the pure part. A best so far: cost and plan; mg keeps the first of the least -/
abbrev Pn : Type := Nat → Nat
abbrev Bs : Type := Option (Int × Pn)
def mg (x y : Bs) : Bs := match x, y with
  | none, y => y
  | some a, none => some a
  | some a, some b => if b.1 < a.1 then some b else some a
theorem mg_n (x : Bs) : mg x none = x := by cases x <;> rfl
theorem mg_a (x y z : Bs) : mg (mg x y) z = mg x (mg y z) := by
  cases x with
  | none => rfl
  | some a =>
    cases y with
    | none => rw [mg_n]; rfl
    | some b =>
      cases z with
      | none => rw [mg_n, mg_n]
      | some c =>
        show mg (if b.1 < a.1 then some b else some a) (some c) = mg (some a) (if c.1 < b.1 then some c else some b)
        by_cases h1 : b.1 < a.1
        · rw [if_pos h1]
          show (if c.1 < b.1 then some c else some b) = _
          by_cases h2 : c.1 < b.1
          · rw [if_pos h2]
            show some c = if c.1 < a.1 then some c else some a
            rw [if_pos (by omega)]
          · rw [if_neg h2]
            show some b = if b.1 < a.1 then some b else some a
            rw [if_pos h1]
        · rw [if_neg h1]
          show (if c.1 < a.1 then some c else some a) = _
          by_cases h2 : c.1 < b.1
          · rw [if_pos h2]; rfl
          · rw [if_neg h2]
            show _ = if b.1 < a.1 then some b else some a
            rw [if_neg h1, if_neg (by omega)]
def fo (g : Nat → Bs) : Nat → Bs
  | 0 => none
  | n + 1 => mg (fo g n) (g n)
theorem fo_e {g g' : Nat → Bs} {n : Nat} (h : ∀ i, i < n → g i = g' i) : fo g n = fo g' n := by
  induction n with
  | zero => rfl
  | succ n ih => show mg (fo g n) (g n) = mg (fo g' n) (g' n); rw [ih (fun i hi => h i (by omega)), h n (by omega)]
theorem fo_add (g : Nat → Bs) (m : Nat) : ∀ n, fo g (m + n) = mg (fo g m) (fo (fun j => g (m + j)) n) := by
  intro n
  induction n with
  | zero => exact (mg_n _).symm
  | succ n ih =>
    show mg (fo g (m + n)) (g (m + n)) = mg (fo g m) (mg (fo (fun j => g (m + j)) n) (g (m + n)))
    rw [ih, mg_a]
theorem fo_blk (g : Nat → Bs) (m : Nat) : ∀ n, fo g (n * m) = fo (fun o => fo (fun j => g (o * m + j)) m) n := by
  intro n
  induction n with
  | zero => rw [Nat.zero_mul]; rfl
  | succ n ih =>
    rw [Nat.add_mul, Nat.one_mul, fo_add, ih]
    rfl
/-- attained; no worse than each -/
theorem fo_at {g : Nat → Bs} {c : Int} {q : Pn} : ∀ n, fo g n = some (c, q) → ∃ i, i < n ∧ g i = some (c, q) := by
  intro n
  induction n with
  | zero => intro h; cases h
  | succ n ih =>
    intro h
    replace h : mg (fo g n) (g n) = some (c, q) := h
    cases e1 : fo g n with
    | none => rw [e1] at h; exact ⟨n, by omega, h⟩
    | some a =>
      rw [e1] at h
      cases e2 : g n with
      | none =>
        rw [e2, mg_n] at h
        rw [h] at e1
        obtain ⟨i, hi, hg⟩ := ih e1
        exact ⟨i, by omega, hg⟩
      | some b =>
        rw [e2] at h
        replace h : (if b.1 < a.1 then some b else some a) = some (c, q) := h
        by_cases c1 : b.1 < a.1
        · rw [if_pos c1] at h; rw [h] at e2; exact ⟨n, by omega, e2⟩
        · rw [if_neg c1] at h
          rw [h] at e1
          obtain ⟨i, hi, hg⟩ := ih e1
          exact ⟨i, by omega, hg⟩
theorem mg_l {x y : Bs} {c : Int} {q : Pn} (h : x = some (c, q)) : ∃ c' q', mg x y = some (c', q') ∧ c' ≤ c := by
  subst h
  cases y with
  | none => exact ⟨c, q, rfl, Int.le_refl _⟩
  | some b =>
    show ∃ c' q', (if b.1 < c then some b else some (c, q)) = some (c', q') ∧ c' ≤ c
    by_cases d : b.1 < c
    · rw [if_pos d]; exact ⟨b.1, b.2, rfl, by omega⟩
    · rw [if_neg d]; exact ⟨c, q, rfl, Int.le_refl _⟩
theorem mg_r {x y : Bs} {c : Int} {q : Pn} (h : y = some (c, q)) : ∃ c' q', mg x y = some (c', q') ∧ c' ≤ c := by
  subst h
  cases x with
  | none => exact ⟨c, q, rfl, Int.le_refl _⟩
  | some a =>
    show ∃ c' q', (if c < a.1 then some (c, q) else some a) = some (c', q') ∧ c' ≤ c
    by_cases d : c < a.1
    · rw [if_pos d]; exact ⟨c, q, rfl, Int.le_refl _⟩
    · rw [if_neg d]; exact ⟨a.1, a.2, rfl, by omega⟩
theorem fo_le {g : Nat → Bs} {c : Int} {q : Pn} {i : Nat} (hg : g i = some (c, q)) : ∀ n, i < n → ∃ c' q', fo g n = some (c', q') ∧ c' ≤ c := by
  intro n
  induction n with
  | zero => intro h; omega
  | succ n ih =>
    intro h
    show ∃ c' q', mg (fo g n) (g n) = some (c', q') ∧ c' ≤ c
    by_cases e : i = n
    · subst e; exact mg_r hg
    · obtain ⟨c1, q1, e1, l1⟩ := ih (by omega)
      obtain ⟨c2, q2, e2, l2⟩ := mg_l (y := g n) e1
      exact ⟨c2, q2, e2, by omega⟩
theorem mg_skip {x y : Bs} (h : ∀ c q, y = some (c, q) → ∃ c' q', x = some (c', q') ∧ c' ≤ c) : mg x y = x := by
  cases y with
  | none => exact mg_n x
  | some b =>
    obtain ⟨c', q', e, l⟩ := h b.1 b.2 rfl
    rw [e]
    show (if b.1 < c' then some b else some (c', q')) = _
    rw [if_neg (by omega)]
/-! lacking, options, what they put -/
def isl (l : Int → Int) (z : Nat) : Bool := decide (0 < l (4 * z)) || decide (0 < l (4 * z + 1)) || decide (0 < l (4 * z + 2)) || decide (0 < l (4 * z + 3))
theorem isl_e {l : Int → Int} {z : Nat} : isl l z = true ↔ ∃ g : Nat, g < 4 ∧ 0 < l (4 * z + g) := by
  unfold isl
  rw [Bool.or_eq_true, Bool.or_eq_true, Bool.or_eq_true, decide_eq_true_iff, decide_eq_true_iff, decide_eq_true_iff, decide_eq_true_iff]
  constructor
  · intro h
    rcases h with ((h | h) | h) | h
    · exact ⟨0, by omega, by rw [show 4 * (z : Int) + ((0 : Nat) : Int) = 4 * z by omega]; exact h⟩
    · exact ⟨1, by omega, h⟩
    · exact ⟨2, by omega, h⟩
    · exact ⟨3, by omega, h⟩
  · rintro ⟨g, hg, h⟩
    have : g = 0 ∨ g = 1 ∨ g = 2 ∨ g = 3 := by omega
    rcases this with e | e | e | e
    · subst e; rw [show 4 * (z : Int) + ((0 : Nat) : Int) = 4 * z by omega] at h; exact Or.inl (Or.inl (Or.inl h))
    · subst e; exact Or.inl (Or.inl (Or.inr h))
    · subst e; exact Or.inl (Or.inr h)
    · subst e; exact Or.inr h
theorem isl_n {l : Int → Int} {z : Nat} : isl l z = false ↔ ∀ g : Nat, g < 4 → l (4 * z + g) ≤ 0 := by
  constructor
  · intro h g hg
    by_cases c : 0 < l (4 * z + g)
    · have := isl_e.mpr ⟨g, hg, c⟩; rw [h] at this; cases this
    · omega
  · intro h
    cases hh : isl l z with
    | false => rfl
    | true =>
      obtain ⟨g, hg, c⟩ := isl_e.mp hh
      have := h g hg
      omega
def lkn (l : Int → Int) : Nat → Nat
  | 0 => 0
  | z + 1 => lkn l z + (if isl l z = true then 1 else 0)
theorem lkn_0 {l : Int → Int} : ∀ n, lkn l n = 0 ↔ ∀ z, z < n → isl l z = false := by
  intro n
  induction n with
  | zero => exact ⟨fun _ z hz => by omega, fun _ => rfl⟩
  | succ n ih =>
    constructor
    · intro h z hz
      have h' : lkn l n + (if isl l n = true then 1 else 0) = 0 := h
      by_cases c : isl l n = true
      · rw [if_pos c] at h'; omega
      · by_cases e : z = n
        · subst e; cases hh : isl l z with
          | true => exact absurd hh c
          | false => rfl
        · exact ih.mp (by omega) z (by omega)
    · intro h
      show lkn l n + (if isl l n = true then 1 else 0) = 0
      rw [ih.mpr (fun z hz => h z (by omega)), h n (by omega)]
      rfl
theorem lkn_le (l : Int → Int) : ∀ n, lkn l n ≤ n := by
  intro n
  induction n with
  | zero => exact Nat.le_refl _
  | succ n ih =>
    show lkn l n + (if isl l n = true then 1 else 0) ≤ n + 1
    by_cases c : isl l n = true
    · rw [if_pos c]; omega
    · rw [if_neg c]; omega
def lod (k g : Int) : Int := if k = 0 then max 0 (3 - g) else lfk k
theorem lod_b {k : Int} (g : Int) (h0 : 0 ≤ g) : 0 ≤ lod k g ∧ lod k g ≤ 4 := by
  unfold lod
  by_cases c : k = 0
  · rw [if_pos c]; omega
  · rw [if_neg c]; have := lfk_r k; omega
/-- first of its raft -/
def fst1 (L : Lk) (c z : Nat) : Nat := fsi (fun j => (raft L c z).testBit j) z
def dyo (H o : Nat) : Nat := if o = 0 then 0 else 1 + (o - 1) / H
def hmo (H o : Nat) : Nat := (o - 1) % H
def cst (L : Lk) (d o : Nat) : Int := (dyo (hn L) o : Int) * L 18 d
def ctr (L : Lk) (c d o : Nat) : Int → Int := fun i => if o = 0 then 0 else if 4 * (fst1 L c (hmo (hn L) o) : Int) ≤ i ∧ i < 4 * (fst1 L c (hmo (hn L) o) : Int) + 4 then cst L d o * lod (L 17 d) (i - 4 * (fst1 L c (hmo (hn L) o) : Int)) else 0
def eff (L : Lk) (c : Nat) (l : Int → Int) (d o : Nat) : Int → Int := fun i => l i - ctr L c d o i
def upq (q : Pn) (d o : Nat) : Pn := fun i => if i = d then o else q i
theorem cst_b {L : Lk} (HL : LW L) {d o : Nat} (hd : d < L 4 0) : 0 ≤ cst L d o := by
  have := LW_ds HL d (by omega) hd
  unfold cst
  exact Int.mul_nonneg (by omega) (by omega)
theorem ctr_b {L : Lk} (HL : LW L) {c d o : Nat} (hd : d < L 4 0) (i : Int) : 0 ≤ ctr L c d o i := by
  unfold ctr
  by_cases h : o = 0
  · rw [if_pos h]; omega
  · rw [if_neg h]
    by_cases h2 : 4 * (fst1 L c (hmo (hn L) o) : Int) ≤ i ∧ i < 4 * (fst1 L c (hmo (hn L) o) : Int) + 4
    · rw [if_pos h2]; exact Int.mul_nonneg (cst_b HL hd) (lod_b _ (by omega)).1
    · rw [if_neg h2]; omega
/-- the best that k drinkers can still make of it; A options each -/
def bcr (L : Lk) (c D A : Nat) : Nat → (Int → Int) → Int → Pn → Bs
  | 0, l, u, q => if lkn l (hn L) = 0 then some (u, q) else none
  | k + 1, l, u, q => fo (fun o => bcr L c D A k (eff L c l (D - (k + 1)) o) (u + cst L (D - (k + 1)) o) (upq q (D - (k + 1)) o)) A
theorem bcr_ge {L : Lk} (HL : LW L) {c D A : Nat} (hD : (D : Int) = L 4 0) : ∀ (k : Nat) (l : Int → Int) (u : Int) (q : Pn) (x : Int) (p : Pn), k ≤ D → bcr L c D A k l u q = some (x, p) → u ≤ x := by
  intro k
  induction k with
  | zero =>
    intro l u q x p _ h
    replace h : (if lkn l (hn L) = 0 then some (u, q) else none) = some (x, p) := h
    by_cases d : lkn l (hn L) = 0
    · rw [if_pos d] at h; cases h; omega
    · rw [if_neg d] at h; cases h
  | succ k ih =>
    intro l u q x p hk h
    obtain ⟨o, _, ho⟩ := fo_at A h
    have := ih _ _ _ _ _ (by omega) ho
    have := cst_b HL (d := D - (k + 1)) (o := o) (by omega)
    omega
/-- l is no harder than m -/
def rel (L : Lk) (l m : Int → Int) : Prop := ∀ z : Nat, z < hn L → isl l z = false ∨ ∀ g : Nat, g < 4 → l (4 * z + g) ≤ m (4 * z + g)
theorem rel_eff {L : Lk} (HL : LW L) {c d o : Nat} (hd : d < L 4 0) {l m : Int → Int} (h : rel L l m) : rel L (eff L c l d o) (eff L c m d o) := by
  intro z hz
  cases h z hz with
  | inl h =>
    left
    rw [isl_n] at h ⊢
    intro g hg
    have := h g hg
    have := ctr_b HL (c := c) (o := o) hd (4 * (z : Int) + g)
    unfold eff
    omega
  | inr h =>
    right
    intro g hg
    have := h g hg
    unfold eff
    omega
theorem bcr_rel {L : Lk} (HL : LW L) {c D A : Nat} (hD : (D : Int) = L 4 0) : ∀ (k : Nat) (l m : Int → Int) (u e : Int) (q q' : Pn) (x : Int) (p : Pn), k ≤ D → rel L l m → bcr L c D A k m (u + e) q' = some (x, p) → ∃ x' p', bcr L c D A k l u q = some (x', p') ∧ x' + e ≤ x := by
  intro k
  induction k with
  | zero =>
    intro l m u e q q' x p _ hr h
    replace h : (if lkn m (hn L) = 0 then some (u + e, q') else none) = some (x, p) := h
    by_cases d : lkn m (hn L) = 0
    · rw [if_pos d] at h
      cases h
      have d' : lkn l (hn L) = 0 := by
        rw [lkn_0] at d ⊢
        intro z hz
        cases hr z hz with
        | inl h => exact h
        | inr h =>
          have := d z hz
          rw [isl_n] at this ⊢
          intro g hg
          have := this g hg
          have := h g hg
          omega
      exact ⟨u, q, by show (if lkn l (hn L) = 0 then some (u, q) else none) = _; rw [if_pos d'], by omega⟩
    · rw [if_neg d] at h; cases h
  | succ k ih =>
    intro l m u e q q' x p hk hr h
    obtain ⟨o, ho, hg⟩ := fo_at A h
    have e1 : u + e + cst L (D - (k + 1)) o = u + cst L (D - (k + 1)) o + e := by omega
    rw [e1] at hg
    obtain ⟨x1, p1, g1, l1⟩ := ih (eff L c l (D - (k + 1)) o) _ _ _ (upq q (D - (k + 1)) o) _ _ _ (by omega) (rel_eff HL (by omega) hr) hg
    obtain ⟨x2, p2, g2, l2⟩ := fo_le (g := fun o => bcr L c D A k (eff L c l (D - (k + 1)) o) (u + cst L (D - (k + 1)) o) (upq q (D - (k + 1)) o)) g1 A ho
    exact ⟨x2, p2, g2, by omega⟩
theorem rel_rf {L : Lk} (l : Int → Int) : rel L l l := fun _ _ => Or.inr (fun _ _ => Int.le_refl _)
/-- a drinker helps one raft -/
theorem lkn_eff {L : Lk} {c d o : Nat} {l : Int → Int} : ∀ n, lkn l n ≤ lkn (eff L c l d o) n + (if fst1 L c (hmo (hn L) o) < n then 1 else 0) := by
  intro n
  induction n with
  | zero => rw [if_neg (by omega)]; exact Nat.le_refl _
  | succ n ih =>
    show lkn l n + (if isl l n = true then 1 else 0) ≤ lkn (eff L c l d o) n + (if isl (eff L c l d o) n = true then 1 else 0) + _
    by_cases e : fst1 L c (hmo (hn L) o) = n
    · rw [if_neg (show ¬ fst1 L c (hmo (hn L) o) < n by omega)] at ih
      rw [if_pos (show fst1 L c (hmo (hn L) o) < n + 1 by omega)]
      have : (if isl l n = true then 1 else 0) ≤ 1 := by
        by_cases h : isl l n = true
        · rw [if_pos h]; omega
        · rw [if_neg h]; omega
      omega
    · have es : isl (eff L c l d o) n = isl l n := by
        have ev : ∀ g : Int, 0 ≤ g → g < 4 → eff L c l d o (4 * (n : Int) + g) = l (4 * (n : Int) + g) := by
          intro g g0 g1
          unfold eff ctr
          by_cases o0 : o = 0
          · rw [if_pos o0]; omega
          · rw [if_neg o0, if_neg (by omega)]; omega
        unfold isl
        have e0 := ev 0 (by omega) (by omega)
        rw [Int.add_zero] at e0
        rw [e0, ev 1 (by omega) (by omega), ev 2 (by omega) (by omega), ev 3 (by omega) (by omega)]
      rw [es]
      by_cases h : fst1 L c (hmo (hn L) o) < n
      · rw [if_pos h] at ih; rw [if_pos (show fst1 L c (hmo (hn L) o) < n + 1 by omega)]; omega
      · rw [if_neg h] at ih; rw [if_neg (show ¬ fst1 L c (hmo (hn L) o) < n + 1 by omega)]; omega
theorem bcr_lk {L : Lk} {c D A : Nat} : ∀ (k : Nat) (l : Int → Int) (u : Int) (q : Pn) (x : Int) (p : Pn), bcr L c D A k l u q = some (x, p) → lkn l (hn L) ≤ k := by
  intro k
  induction k with
  | zero =>
    intro l u q x p h
    replace h : (if lkn l (hn L) = 0 then some (u, q) else none) = some (x, p) := h
    by_cases d : lkn l (hn L) = 0
    · omega
    · rw [if_neg d] at h; cases h
  | succ k ih =>
    intro l u q x p h
    obtain ⟨o, _, ho⟩ := fo_at A h
    have h1 := ih _ _ _ _ _ ho
    have h2 := lkn_eff (L := L) (c := c) (d := D - (k + 1)) (o := o) (l := l) (hn L)
    by_cases b : fst1 L c (hmo (hn L) o) < hn L
    · rw [if_pos b] at h2; omega
    · rw [if_neg b] at h2; omega
