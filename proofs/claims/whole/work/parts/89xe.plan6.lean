/-! plans: what puts do to heights -/
theorem sfn_v {L : Lk} (HL : LW L) (S : Sk) {z : Nat} (hz : z < hn L) : ∀ n : Nat, sfn L S n (5 * z + 3) = S (5 * z + 3) ∧ sfn L S n (5 * z + 4) = S (5 * z + 4) ∧ sfn L S n (5 * z) = (if n = 0 then S (5 * z) else 0) ∧ sfn L S n (5 * z + 1) = (if n = 0 then S (5 * z + 1) else if n = 1 then S (5 * z) else 0) ∧ sfn L S n (5 * z + 2) = (if n = 0 then S (5 * z + 2) else if n = 1 then S (5 * z + 1) else if n = 2 then S (5 * z) else 0) := by
  intro n
  induction n with
  | zero => exact ⟨rfl, rfl, rfl, rfl, rfl⟩
  | succ n ih =>
    obtain ⟨i3, i4, i0, i1, i2⟩ := ih
    have e5 := (sft_e5 (S := sfn L S n) (z := (z : Int)) (hn L)).1 (by omega) (by omega)
    have x : ∀ i, 5 * (z : Int) ≤ i → i < 5 * z + 5 → sfn L S (n + 1) i = sfu (sfn L S n) z i := e5
    have s3 : sfu (sfn L S n) z (5 * (z : Int) + 3) = sfn L S n (5 * z + 3) := by unfold sfu; rw [if_neg (by omega), if_neg (by omega), if_neg (by omega)]
    have s4 : sfu (sfn L S n) z (5 * (z : Int) + 4) = sfn L S n (5 * z + 4) := by unfold sfu; rw [if_neg (by omega), if_neg (by omega), if_neg (by omega)]
    have s0 : sfu (sfn L S n) z (5 * (z : Int)) = 0 := by unfold sfu; rw [if_neg (by omega), if_neg (by omega), if_pos rfl]
    have s1 : sfu (sfn L S n) z (5 * (z : Int) + 1) = sfn L S n (5 * z) := by unfold sfu; rw [if_neg (by omega), if_pos rfl]
    have s2 : sfu (sfn L S n) z (5 * (z : Int) + 2) = sfn L S n (5 * z + 1) := by unfold sfu; rw [if_pos rfl]
    rw [x _ (by omega) (by omega), x _ (by omega) (by omega), x _ (by omega) (by omega), x _ (by omega) (by omega), x _ (by omega) (by omega), s3, s4, s0, s1, s2, i3, i4, i0, i1]
    refine ⟨rfl, rfl, by rw [if_neg (by omega)], ?_, ?_⟩
    · rw [if_neg (show ¬ n + 1 = 0 by omega)]
      by_cases n0 : n = 0
      · rw [if_pos n0, if_pos (by omega)]
      · rw [if_neg n0, if_neg (by omega)]
    · rw [if_neg (show ¬ n + 1 = 0 by omega)]
      by_cases n0 : n = 0
      · rw [if_pos n0, if_pos (show n + 1 = 1 by omega)]
      · rw [if_neg n0, if_neg (show ¬ n + 1 = 1 by omega)]
        by_cases n1 : n = 1
        · rw [if_pos n1, if_pos (show n + 1 = 2 by omega)]
        · rw [if_neg n1, if_neg (show ¬ n + 1 = 2 by omega)]
theorem lft_v {L : Lk} (HL : LW L) (S : Sk) {z : Nat} (hz : z < hn L) (n : Nat) : lft (sfn L S n) z = 2 * S (5 * z + 3) + 4 * S (5 * z + 4) + (if n = 0 then 3 * S (5 * z) + 2 * S (5 * z + 1) + S (5 * z + 2) else if n = 1 then 2 * S (5 * z) + S (5 * z + 1) else if n = 2 then S (5 * z) else 0) := by
  obtain ⟨i3, i4, i0, i1, i2⟩ := sfn_v HL S hz n
  unfold lft
  rw [i3, i4, i0, i1, i2]
  by_cases n0 : n = 0
  · simp only [if_pos n0]; omega
  · simp only [if_neg n0]
    by_cases n1 : n = 1
    · simp only [if_pos n1]; omega
    · simp only [if_neg n1]
      by_cases n2 : n = 2
      · simp only [if_pos n2]; omega
      · simp only [if_neg n2]; omega
theorem wgt_v {L : Lk} (HL : LW L) (S T : Sk) (h : ∀ i, 25 ≤ i → S i = T i) (z : Int) : wgt L S z = wgt L T z := by
  unfold wgt gsm
  congr 1
  refine sm_e (fun g _ => ?_)
  rw [h (25 + g) (by omega)]
theorem net_3 {L : Lk} (HL : LW L) (S : Sk) (n : Nat) : ∀ z : Nat, z < hn L → net L (sfn L S n) z = net L (sfn L S (min n 3)) z := by
  intro z hz
  unfold net
  rw [lft_v HL S hz, lft_v HL S hz, wgt_v HL (sfn L S n) (sfn L S (min n 3)) (fun i hi => by rw [sfn_28 HL S n i hi, sfn_28 HL S _ i hi])]
  by_cases n3 : n ≤ 3
  · rw [show min n 3 = n by omega]
  · rw [show min n 3 = 3 by omega, if_neg (show ¬ n = 0 by omega), if_neg (show ¬ n = 1 by omega), if_neg (show ¬ n = 2 by omega)]
    rfl
theorem net_p {L : Lk} (HL : LW L) (T : Sk) {y : Nat} {k x : Int} (hy : y < hn L) (hk : k = 0 ∨ k = 3 ∨ k = 4) (n : Nat) : ∀ z : Nat, z < hn L → net L (sfn L (upS T (5 * y + k) (T (5 * y + k) + x)) n) z = upo (net L (sfn L T n)) y (-(x * lod k ((min n 3 : Nat) : Int))) z := by
  have b1 := LW_h HL
  have hne := hn_e HL
  intro z hz
  have ew : wgt L (sfn L (upS T (5 * (y : Int) + k) (T (5 * (y : Int) + k) + x)) n) z = wgt L (sfn L T n) z := wgt_v HL _ _ (fun i hi => by rw [sfn_28 HL _ n i hi, sfn_28 HL _ n i hi, upS_ne (by omega)]) z
  unfold upo
  show lft _ z - wgt L _ z = if (z : Int) = y then (lft (sfn L T n) z - wgt L (sfn L T n) z) - _ else lft (sfn L T n) z - wgt L (sfn L T n) z
  rw [ew, lft_v HL _ hz, lft_v HL T hz]
  by_cases e : z = y
  · subst e
    rw [if_pos rfl]
    have es : upS T (5 * (z : Int) + k) (T (5 * (z : Int) + k) + x) (5 * (z : Int) + k) = T (5 * (z : Int) + k) + x := if_pos rfl
    rcases hk with e | e | e
    · subst e
      rw [Int.add_zero] at es ⊢
      rw [upS_ne (show 5 * (z : Int) + 3 ≠ 5 * z by omega), upS_ne (show 5 * (z : Int) + 4 ≠ 5 * z by omega), upS_ne (show 5 * (z : Int) + 1 ≠ 5 * z by omega), upS_ne (show 5 * (z : Int) + 2 ≠ 5 * z by omega), es]
      unfold lod
      rw [if_pos rfl]
      by_cases n0 : n = 0
      · rw [if_pos n0, if_pos n0, n0, show max 0 (3 - ((min 0 3 : Nat) : Int)) = 3 by omega]; omega
      · rw [if_neg n0, if_neg n0]
        by_cases n1 : n = 1
        · rw [if_pos n1, if_pos n1, n1, show max 0 (3 - ((min 1 3 : Nat) : Int)) = 2 by omega]; omega
        · rw [if_neg n1, if_neg n1]
          by_cases n2 : n = 2
          · rw [if_pos n2, if_pos n2, n2, show max 0 (3 - ((min 2 3 : Nat) : Int)) = 1 by omega]; omega
          · rw [if_neg n2, if_neg n2, show max 0 (3 - ((min n 3 : Nat) : Int)) = 0 by omega]; omega
    · subst e
      rw [es, upS_ne (show 5 * (z : Int) + 4 ≠ 5 * z + 3 by omega), upS_ne (show 5 * (z : Int) ≠ 5 * z + 3 by omega), upS_ne (show 5 * (z : Int) + 1 ≠ 5 * z + 3 by omega), upS_ne (show 5 * (z : Int) + 2 ≠ 5 * z + 3 by omega)]
      have : lod 3 ((min n 3 : Nat) : Int) = 2 := rfl
      rw [this]
      generalize (if n = 0 then 3 * T (5 * z) + 2 * T (5 * z + 1) + T (5 * z + 2) else if n = 1 then 2 * T (5 * z) + T (5 * z + 1) else if n = 2 then T (5 * z) else 0) = w
      omega
    · subst e
      rw [es, upS_ne (show 5 * (z : Int) + 3 ≠ 5 * z + 4 by omega), upS_ne (show 5 * (z : Int) ≠ 5 * z + 4 by omega), upS_ne (show 5 * (z : Int) + 1 ≠ 5 * z + 4 by omega), upS_ne (show 5 * (z : Int) + 2 ≠ 5 * z + 4 by omega)]
      have : lod 4 ((min n 3 : Nat) : Int) = 4 := rfl
      rw [this]
      generalize (if n = 0 then 3 * T (5 * z) + 2 * T (5 * z + 1) + T (5 * z + 2) else if n = 1 then 2 * T (5 * z) + T (5 * z + 1) else if n = 2 then T (5 * z) else 0) = w
      omega
  · rw [if_neg (show ¬ (z : Int) = y by omega), upS_ne (by omega), upS_ne (by omega), upS_ne (by omega), upS_ne (by omega), upS_ne (by omega)]
def pud (L : Lk) (T : Sk) (d o : Nat) : Sk := if o = 0 then T else upS T (5 * (hmo (hn L) o : Int) + L 17 d) (T (5 * (hmo (hn L) o : Int) + L 17 d) + cst L d o)
def Sdc (L : Lk) (A : Nat) (S : Sk) : Nat → Nat → Sk
  | 0, _ => S
  | d + 1, p => pud L (Sdc L A S d (p / A)) d (p % A)
def Pcd (L : Lk) (c A : Nat) : Nat → Nat → (Int → Int)
  | 0, _ => fun _ => 0
  | d + 1, p => fun i => Pcd L c A d (p / A) i + ctr L c d (p % A) i
theorem lmd_P (L : Lk) (c A : Nat) (l : Int → Int) : ∀ (d p : Nat) (i : Int), lmd L c A l d p i = l i - Pcd L c A d p i := by
  intro d
  induction d with
  | zero => intro p i; exact (Int.sub_zero _).symm
  | succ d ih =>
    intro p i
    show lmd L c A l d (p / A) i - ctr L c d (p % A) i = l i - (Pcd L c A d (p / A) i + ctr L c d (p % A) i)
    rw [ih]; omega
theorem Pcd_b {L : Lk} (HL : LW L) {c A : Nat} : ∀ (d p : Nat) (i : Int), (d : Int) ≤ L 4 0 → 0 ≤ Pcd L c A d p i := by
  intro d
  induction d with
  | zero => intro p i _; exact Int.le_refl _
  | succ d ih =>
    intro p i hd
    have h1 := ih (p / A) i (by omega)
    have h2 := ctr_b HL (c := c) (d := d) (o := p % A) (by omega) i
    show 0 ≤ Pcd L c A d (p / A) i + ctr L c d (p % A) i
    omega
theorem tot_put {L : Lk} (HL : LW L) {c d o : Nat} (T : Sk) (n : Nat) {z : Nat} (hz : z < hn L) (hd : d < L 4 0) : tot (net L (sfn L (pud L T d o) n)) (hn L) (raft L c z) = tot (net L (sfn L T n)) (hn L) (raft L c z) + ctr L c d o (4 * (fst1 L c z : Int) + (min n 3 : Nat)) := by
  unfold pud ctr
  by_cases o0 : o = 0
  · rw [if_pos o0, if_pos o0, Int.add_zero]
  · rw [if_neg o0, if_neg o0]
    have hm : hmo (hn L) o < hn L := Nat.mod_lt _ (by omega)
    have dk := (LW_ds HL d (by omega) hd).1
    rw [tot_e _ (net_p HL T hm dk n), tot_upo, fst_b HL c hz hm]
    by_cases e : fst1 L c (hmo (hn L) o) = fst1 L c z
    · rw [if_pos ⟨hm, decide_eq_true e⟩, if_pos (by omega), e]
      have : 4 * (fst1 L c z : Int) + ((min n 3 : Nat) : Int) - 4 * (fst1 L c z : Int) = ((min n 3 : Nat) : Int) := by omega
      rw [this]
      omega
    · rw [if_neg (fun x => e (of_decide_eq_true x.2)), if_neg (by omega)]
      omega
theorem tot_P {L : Lk} (HL : LW L) {c A : Nat} (S : Sk) (n : Nat) {z : Nat} (hz : z < hn L) : ∀ d p : Nat, (d : Int) ≤ L 4 0 → tot (net L (sfn L (Sdc L A S d p) n)) (hn L) (raft L c z) = tot (net L (sfn L S n)) (hn L) (raft L c z) + Pcd L c A d p (4 * (fst1 L c z : Int) + (min n 3 : Nat)) := by
  intro d
  induction d with
  | zero => intro p _; exact (Int.add_zero _).symm
  | succ d ih =>
    intro p hd
    show tot (net L (sfn L (pud L (Sdc L A S d (p / A)) d (p % A)) n)) (hn L) (raft L c z) = _ + (Pcd L c A d (p / A) _ + ctr L c d (p % A) _)
    rw [tot_put HL _ n hz (by omega), ih (p / A) (by omega), Int.add_assoc]
theorem Sdc_hi {L : Lk} (HL : LW L) (A : Nat) (S : Sk) (h1 : 1 ≤ hn L) : ∀ d p : Nat, (d : Int) ≤ L 4 0 → ∀ i, 25 ≤ i → Sdc L A S d p i = S i := by
  have b1 := LW_h HL
  have hne := hn_e HL
  intro d
  induction d with
  | zero => intro p _ i _; rfl
  | succ d ih =>
    intro p hd i hi
    have dk := LW_ds HL d (by omega) (by omega)
    have hm : hmo (hn L) (p % A) < hn L := Nat.mod_lt _ (by omega)
    show pud L (Sdc L A S d (p / A)) d (p % A) i = S i
    unfold pud
    by_cases o0 : p % A = 0
    · rw [if_pos o0]; exact ih _ (by omega) i hi
    · rw [if_neg o0, upS_ne (by omega)]; exact ih _ (by omega) i hi
/-- dry by code -/
def fzb (a : Ab) (n : Nat) (e : Int) (p : Nat) : Bool := decide (und (hgt (qL a) (Sdc (qL a) (1 + n * hn (qL a)) (qS a) (qL a 4 0).toNat p)) (hn (qL a)) = 0) && (decide (e = 0) || decide (fsi (fun f => decide (hgt (qL a) (sfn (qL a) (Sdc (qL a) (1 + n * hn (qL a)) (qS a) (qL a 4 0).toNat p) (qL a 20 f).toNat) (qL a 19 f) < qL a 21 f)) (qL a 5 0).toNat = (qL a 5 0).toNat))
theorem le_div {a b : Int} {d : Nat} (hd : 1 ≤ d) : (b ≤ a / (d : Int)) ↔ (b * (d : Int) ≤ a) := Int.le_ediv_iff_mul_le (by omega)
theorem fzb_e {a : Ab} (HA : AW a) (c1 : ¬ qL a 1 0 = 0) (n : Nat) (e : Int) (p : Nat) : fzb a n e p = true ↔ Cnd a e (Pcd (qL a) (qS a 28).toNat (1 + n * hn (qL a)) (qL a 4 0).toNat p) := by
  have HL := HA.1
  have b1 := LW_h HL
  have b4 := LW_d HL
  have b5 := LW_f HL
  have hne := hn_e HL
  obtain ⟨A, hA⟩ : ∃ A, A = 1 + n * hn (qL a) := ⟨_, rfl⟩
  obtain ⟨D, hD⟩ : ∃ D, D = (qL a 4 0).toNat := ⟨_, rfl⟩
  obtain ⟨T, hT⟩ : ∃ T, T = Sdc (qL a) A (qS a) D p := ⟨_, rfl⟩
  obtain ⟨c, hc⟩ : ∃ c, c = (qS a 28).toNat := ⟨_, rfl⟩
  have t28 : ∀ w, (sfn (qL a) T w 28).toNat = c := fun w => by rw [sfn_28 HL T w 28 (by omega), hT, Sdc_hi HL A (qS a) (by omega) D p (by omega) 28 (by omega), hc]
  have hv : ∀ (w z : Nat), z < hn (qL a) → hgt (qL a) (sfn (qL a) T w) z = (tot (net (qL a) (sfn (qL a) (qS a) (min w 3))) (hn (qL a)) (raft (qL a) c z) + Pcd (qL a) c A D p (4 * (fst1 (qL a) c z : Int) + (min w 3 : Nat))) / (pc5 (raft (qL a) c z) : Int) := by
    intro w z hz
    unfold hgt hgo
    rw [t28, hT, tot_P HL (c := c) (qS a) w hz D p (by omega), tot_e _ (net_3 HL (qS a) w)]
  unfold fzb Cnd
  rw [← hA, ← hD, ← hT, ← hc, Bool.and_eq_true, decide_eq_true_iff, Bool.or_eq_true, decide_eq_true_iff, decide_eq_true_iff]
  have h0 : und (hgt (qL a) T) (hn (qL a)) = 0 ↔ cq0 a (Pcd (qL a) c A D p) := by
    have bits : und (hgt (qL a) T) (hn (qL a)) = 0 ↔ ∀ z : Nat, z < hn (qL a) → ¬ hgt (qL a) T z < 0 := by
      constructor
      · intro h z hz hlt
        have := und_bit (hgt (qL a) T) (hn (qL a)) z
        rw [h, Nat.zero_testBit, decide_eq_true hz, decide_eq_true hlt] at this
        cases this
      · intro h
        apply Nat.eq_of_testBit_eq
        intro i
        rw [und_bit, Nat.zero_testBit]
        by_cases hi : i < hn (qL a)
        · rw [decide_eq_false (h i hi), Bool.and_false]
        · rw [decide_eq_false hi, Bool.false_and]
    rw [bits]
    unfold cq0 ncd oag
    rw [← hc]
    have pw : ∀ z : Nat, z < hn (qL a) → (¬ hgt (qL a) T z < 0 ↔ 0 * (pc5 (raft (qL a) c z) : Int) - tot (net (qL a) (sfn (qL a) (qS a) (0 : Int).toNat)) (hn (qL a)) (raft (qL a) c z) ≤ Pcd (qL a) c A D p (4 * (fst1 (qL a) c z : Int) + 0)) := by
      intro z hz
      have pz := raft_p HL c (h := z) (by omega) (by omega)
      have e0 := hv 0 z hz
      replace e0 : hgt (qL a) T z = (tot (net (qL a) (sfn (qL a) (qS a) 0)) (hn (qL a)) (raft (qL a) c z) + Pcd (qL a) c A D p (4 * (fst1 (qL a) c z : Int) + ((0 : Nat) : Int))) / (pc5 (raft (qL a) c z) : Int) := e0
      rw [e0, neg_div pz.2.2.2.1, Int.zero_mul]
      show ¬ _ < 0 ↔ 0 - tot (net (qL a) (sfn (qL a) (qS a) 0)) (hn (qL a)) (raft (qL a) c z) ≤ _
      have : 4 * (fst1 (qL a) c z : Int) + ((0 : Nat) : Int) = 4 * (fst1 (qL a) c z : Int) + 0 := by omega
      rw [this]
      omega
    exact ⟨fun h z hz => (pw z hz).mp (h z hz), fun h z hz => (pw z hz).mpr (h z hz)⟩
  have h1 : fsi (fun f => decide (hgt (qL a) (sfn (qL a) T (qL a 20 f).toNat) (qL a 19 f) < qL a 21 f)) (qL a 5 0).toNat = (qL a 5 0).toNat ↔ cqf a 4 (Pcd (qL a) c A D p) := by
    obtain ⟨p1, p2, p3⟩ := fsi_p (fun f => decide (hgt (qL a) (sfn (qL a) T (qL a 20 f).toNat) (qL a 19 f) < qL a 21 f)) (qL a 5 0).toNat
    have pw : ∀ f : Nat, (f : Int) < qL a 5 0 → (¬ hgt (qL a) (sfn (qL a) T (qL a 20 f).toNat) (qL a 19 f) < qL a 21 f ↔ ncd (qL a) c (oag a (min (qL a 20 f) 3)) (qL a 19 f).toNat (min (qL a 20 f) 3) (qL a 21 f) (Pcd (qL a) c A D p)) := by
      intro f hf
      have w := LW_fs HL f (by omega) hf
      have pz := raft_p HL c (h := qL a 19 f) w.1 w.2.1
      have ez : (((qL a 19 f).toNat : Nat) : Int) = qL a 19 f := by omega
      have e0 := hv (qL a 20 f).toNat (qL a 19 f).toNat (by omega)
      have em : ((min (qL a 20 f).toNat 3 : Nat) : Int) = min (qL a 20 f) 3 := by omega
      have em2 : (min (qL a 20 f) 3).toNat = min (qL a 20 f).toNat 3 := by omega
      rw [ez] at e0
      rw [e0, em]
      unfold ncd oag
      rw [em2, ez, Int.not_lt, le_div pz.2.2.2.1]
      omega
    constructor
    · intro h f hf hm
      rw [← hc]
      refine (pw f hf).mp ?_
      have := p2 f (by omega)
      exact of_decide_eq_false this
    · intro h
      by_cases d : fsi (fun f => decide (hgt (qL a) (sfn (qL a) T (qL a 20 f).toNat) (qL a 19 f) < qL a 21 f)) (qL a 5 0).toNat < (qL a 5 0).toNat
      · have y := of_decide_eq_true (p3 d)
        generalize fsi (fun f => decide (hgt (qL a) (sfn (qL a) T (qL a 20 f).toNat) (qL a 19 f) < qL a 21 f)) (qL a 5 0).toNat = f at d y
        have w := LW_fs HL f (by omega) (by omega)
        have x := h f (by omega) (by omega)
        rw [← hc] at x
        exact absurd y ((pw f (by omega)).mpr x)
      · omega
  rw [h0, h1]
/-- the plan that both find -/
def pbs (a : Ab) (n : Nat) (e : Int) : Bs := fo (fun p => if fzb a n e p = true then some (ucd (qL a) (1 + n * hn (qL a)) (qL a 4 0).toNat p, qcd (1 + n * hn (qL a)) (qL a 4 0).toNat p) else none) ((1 + n * hn (qL a)) ^ (qL a 4 0).toNat)
theorem pbs_e {a : Ab} (HA : AW a) (c1 : ¬ qL a 1 0 = 0) (n : Nat) (e : Int) {l : Int → Int} (X : LPn (qL a) (qS a 28).toNat (Cnd a e) l) : bcr (qL a) (qS a 28).toNat (qL a 4 0).toNat (1 + n * hn (qL a)) (qL a 4 0).toNat l 0 (fun _ => 0) = pbs a n e := by
  have HL := HA.1
  have b1 := LW_h HL
  have b4 := LW_d HL
  have hne := hn_e HL
  have h := bcr_cd (L := qL a) (c := (qS a 28).toNat) (D := (qL a 4 0).toNat) (A := 1 + n * hn (qL a)) (by omega) l (qL a 4 0).toNat 0 (Nat.le_refl _)
  rw [Nat.sub_self] at h
  replace h : bcr (qL a) (qS a 28).toNat (qL a 4 0).toNat (1 + n * hn (qL a)) (qL a 4 0).toNat l 0 (fun _ => 0) = _ := h
  rw [h]
  unfold pbs
  refine fo_e (fun p _ => ?_)
  rw [Nat.zero_mul, Nat.zero_add]
  unfold cnd
  have iff1 : lkn (lmd (qL a) (qS a 28).toNat (1 + n * hn (qL a)) l (qL a 4 0).toNat p) (hn (qL a)) = 0 ↔ fzb a n e p = true := by
    rw [fzb_e HA c1, ← X.2.2 (Pcd (qL a) (qS a 28).toNat (1 + n * hn (qL a)) (qL a 4 0).toNat p) (fun i => Pcd_b HL _ p i (by omega)), lkn_0]
    constructor
    · intro h i i0 i1
      have := h (i / 4).toNat (by omega)
      rw [isl_n] at this
      have x := this (i % 4).toNat (by omega)
      rw [lmd_P] at x
      have ei : 4 * (((i / 4).toNat : Nat) : Int) + (((i % 4).toNat : Nat) : Int) = i := by omega
      rw [ei] at x
      omega
    · intro h z hz
      rw [isl_n]
      intro g hg
      rw [lmd_P]
      have := h (4 * (z : Int) + g) (by omega) (by omega)
      omega
  by_cases f : fzb a n e p = true
  · rw [if_pos f, if_pos (iff1.mpr f)]
  · rw [if_neg f, if_neg (fun x => f (iff1.mp x))]
