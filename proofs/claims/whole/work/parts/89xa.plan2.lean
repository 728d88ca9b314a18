/-! firsts of rafts -/
theorem fst_p {L : Lk} (HL : LW L) (c : Nat) {z : Nat} (hz : z < hn L) : fst1 L c z ≤ z ∧ (raft L c z).testBit (fst1 L c z) = true ∧ (∀ j, j < fst1 L c z → (raft L c z).testBit j = false) ∧ raft L c (fst1 L c z : Nat) = raft L c z ∧ fst1 L c (fst1 L c z) = fst1 L c z := by
  have hne := hn_e HL
  obtain ⟨p1, p2, p3⟩ := fsi_p (fun j => (raft L c z).testBit j) z
  have pz := raft_p HL c (h := z) (by omega) (by omega)
  have e0 : ((z : Int)).toNat = z := by omega
  rw [e0] at pz
  have b : (raft L c z).testBit (fst1 L c z) = true := by
    by_cases d : fst1 L c z < z
    · exact p3 d
    · have : fst1 L c z = z := by have : fst1 L c z ≤ z := p1; omega
      rw [this]; exact pz.2.2.1
  have le : fst1 L c z ≤ z := p1
  have es : raft L c (fst1 L c z : Nat) = raft L c z := raft_s HL c (h := z) (g := (fst1 L c z : Nat)) (by omega) (by omega) (by omega) (by omega) (by rw [Int.toNat_natCast]; exact b)
  refine ⟨le, b, p2, es, ?_⟩
  obtain ⟨r1, r2, r3⟩ := fsi_p (fun j => (raft L c (fst1 L c z : Nat)).testBit j) (fst1 L c z)
  have l2 : fst1 L c (fst1 L c z) ≤ fst1 L c z := r1
  by_cases d : fst1 L c (fst1 L c z) < fst1 L c z
  · have x : (raft L c (fst1 L c z : Nat)).testBit (fst1 L c (fst1 L c z)) = true := r3 d
    rw [es] at x
    have := p2 _ d
    replace this : (raft L c z).testBit (fst1 L c (fst1 L c z)) = false := this
    rw [this] at x
    cases x
  · omega
theorem fst_b {L : Lk} (HL : LW L) (c : Nat) {z g : Nat} (hz : z < hn L) (hg : g < hn L) : (raft L c z).testBit g = decide (fst1 L c g = fst1 L c z) := by
  have hne := hn_e HL
  have pz := fst_p HL c hz
  have pg := fst_p HL c hg
  by_cases d : fst1 L c g = fst1 L c z
  · rw [decide_eq_true d]
    have e : raft L c g = raft L c z := by rw [← pg.2.2.2.1, ← pz.2.2.2.1, d]
    have gg := raft_p HL c (h := g) (by omega) (by omega)
    rw [Int.toNat_natCast] at gg
    rw [← e]; exact gg.2.2.1
  · rw [decide_eq_false d]
    cases hh : (raft L c z).testBit g with
    | false => rfl
    | true =>
      have e : raft L c g = raft L c z := raft_s HL c (h := z) (g := g) (by omega) (by omega) (by omega) (by omega) (by rw [Int.toNat_natCast]; exact hh)
      have b1 := pz.2.1
      have b2 := pg.2.1
      rw [e] at b2
      by_cases lt : fst1 L c g < fst1 L c z
      · have := pz.2.2.1 _ lt; rw [this] at b2; cases b2
      · have := pg.2.2.1 (fst1 L c z) (by omega); rw [e, b1] at this; cases this
theorem C_firstZ {L : Lk} {r : Nat} {h : Hp} {c : Nat} {z : Nat} (HL : LW L) (HX : RS r h) (HB : RB L c r h) (h1 : z < L 1 0) : F_ra_firstOf r (J z) h = some (J (fst1 L c z : Nat)) := by
  have hne := hn_e HL
  obtain ⟨m, e, m1, m2, m3⟩ := C_firstOf HL HX HB h1
  have p := fst_p HL c (show z < hn L by omega)
  have : m = fst1 L c z := by
    by_cases a : m < fst1 L c z
    · have := p.2.2.1 m a
      rw [m3 (by omega)] at this
      cases this
    · by_cases b : fst1 L c z < m
      · have := m2 _ b
        rw [p.2.1] at this
        cases this
      · omega
  rw [e, this]
/-- only firsts are noted -/
def nff (L : Lk) (c : Nat) (l : Int → Int) : Prop := ∀ z, z < hn L → fst1 L c z ≠ z → isl l z = false
theorem nf_eff {L : Lk} (HL : LW L) {c d o : Nat} (hd : d < L 4 0) {l : Int → Int} (h : nff L c l) : nff L c (eff L c l d o) := by
  intro z hz hf
  have := h z hz hf
  rw [isl_n] at this ⊢
  intro g hg
  have := this g hg
  have := ctr_b HL (c := c) (o := o) hd (4 * (z : Int) + g)
  unfold eff
  omega
/-- an option that the search leaves out is no better than what came before -/
theorem skp {L : Lk} (HL : LW L) {c D A k t z : Nat} (hD : (D : Int) = L 4 0) (hk : k < D) {l : Int → Int} {u : Int} {q : Pn} (hn1 : 1 ≤ hn L) (hz : z < hn L) (hf : nff L c l) (ns : isl l z = false) : mg (fo (fun o => bcr L c D A k (eff L c l (D - (k + 1)) o) (u + cst L (D - (k + 1)) o) (upq q (D - (k + 1)) o)) (1 + t * hn L + z)) (bcr L c D A k (eff L c l (D - (k + 1)) (1 + t * hn L + z)) (u + cst L (D - (k + 1)) (1 + t * hn L + z)) (upq q (D - (k + 1)) (1 + t * hn L + z))) = fo (fun o => bcr L c D A k (eff L c l (D - (k + 1)) o) (u + cst L (D - (k + 1)) o) (upq q (D - (k + 1)) o)) (1 + t * hn L + z) := by
  apply mg_skip
  intro x p hx
  obtain ⟨d, hd⟩ : ∃ d, d = D - (k + 1) := ⟨_, rfl⟩
  rw [← hd] at hx ⊢
  have dl : (d : Int) < L 4 0 := by omega
  have home : ∀ y, y < hn L → hmo (hn L) (1 + t * hn L + y) = y := by
    intro y hy
    unfold hmo
    rw [show 1 + t * hn L + y - 1 = t * hn L + y by omega]
    exact Nat.mul_add_mod_of_lt hy
  have days : ∀ y, y < hn L → dyo (hn L) (1 + t * hn L + y) = 1 + t := by
    intro y hy
    unfold dyo
    rw [if_neg (by omega), show 1 + t * hn L + y - 1 = t * hn L + y by omega, Nat.mul_comm, Nat.mul_add_div (by omega), Nat.div_eq_of_lt hy, Nat.add_zero]
  have pz := fst_p HL c hz
  by_cases ls : isl l (fst1 L c z) = true
  · -- its raft lacks: the first of the raft came before
    have ne : fst1 L c z ≠ z := fun e => by rw [e, ns] at ls; cases ls
    have ee : ctr L c d (1 + t * hn L + z) = ctr L c d (1 + t * hn L + fst1 L c z) := by
      unfold ctr cst
      rw [home z hz, home _ (by omega), days z hz, days _ (by omega), pz.2.2.2.2]
      funext i
      rw [if_neg (show ¬ 1 + t * hn L + z = 0 by omega), if_neg (show ¬ 1 + t * hn L + fst1 L c z = 0 by omega)]
    have ef : eff L c l d (1 + t * hn L + z) = eff L c l d (1 + t * hn L + fst1 L c z) := by unfold eff; rw [ee]
    have ec : cst L d (1 + t * hn L + z) = cst L d (1 + t * hn L + fst1 L c z) := by unfold cst; rw [days z hz, days _ (by omega)]
    rw [ef, ec] at hx
    obtain ⟨x1, p1, g1, l1⟩ := bcr_rel HL hD k (eff L c l d (1 + t * hn L + fst1 L c z)) _ (u + cst L d (1 + t * hn L + fst1 L c z)) 0 (upq q d (1 + t * hn L + fst1 L c z)) _ x p (by omega) (rel_rf _) (by rw [Int.add_zero]; exact hx)
    obtain ⟨x2, p2, g2, l2⟩ := fo_le (g := fun o => bcr L c D A k (eff L c l d o) (u + cst L d o) (upq q d o)) g1 (1 + t * hn L + z) (by omega)
    exact ⟨x2, p2, g2, by omega⟩
  · -- nothing lacks there: left out, it is cheaper
    have ls' : isl l (fst1 L c z) = false := by cases hh : isl l (fst1 L c z) with | true => exact absurd hh ls | false => rfl
    have r : rel L (eff L c l d 0) (eff L c l d (1 + t * hn L + z)) := by
      intro y hy
      have e0 : ∀ i, eff L c l d 0 i = l i := fun i => by unfold eff ctr; rw [if_pos rfl, Int.sub_zero]
      by_cases ey : y = fst1 L c z
      · left
        rw [isl_n] at ls' ⊢
        intro g hg
        rw [e0, ey]
        exact ls' g hg
      · right
        intro g hg
        rw [e0]
        unfold eff ctr
        rw [if_neg (by omega), home z hz, if_neg (by omega)]
        omega
    have ec0 : cst L d 0 = 0 := by unfold cst dyo; rw [if_pos rfl]; exact Int.zero_mul _
    obtain ⟨x1, p1, g1, l1⟩ := bcr_rel HL hD k (eff L c l d 0) (eff L c l d (1 + t * hn L + z)) (u + cst L d 0) (cst L d (1 + t * hn L + z)) (upq q d 0) _ x p (by omega) r (by rw [ec0, Int.add_zero]; exact hx)
    have := cst_b HL (o := 1 + t * hn L + z) dl
    obtain ⟨x2, p2, g2, l2⟩ := fo_le (g := fun o => bcr L c D A k (eff L c l d o) (u + cst L d o) (upq q d o)) g1 (1 + t * hn L + z) (by omega)
    exact ⟨x2, p2, g2, by omega⟩
/-! the same by codes -/
def lmd (L : Lk) (c A : Nat) (l : Int → Int) : Nat → Nat → (Int → Int)
  | 0, _ => l
  | d + 1, p => eff L c (lmd L c A l d (p / A)) d (p % A)
def ucd (L : Lk) (A : Nat) : Nat → Nat → Int
  | 0, _ => 0
  | d + 1, p => ucd L A d (p / A) + cst L d (p % A)
def qcd (A : Nat) : Nat → Nat → Pn
  | 0, _ => fun _ => 0
  | d + 1, p => upq (qcd A d (p / A)) d (p % A)
def cnd (L : Lk) (c D A : Nat) (l : Int → Int) (p : Nat) : Bs := if lkn (lmd L c A l D p) (hn L) = 0 then some (ucd L A D p, qcd A D p) else none
theorem bcr_cd {L : Lk} {c D A : Nat} (hA : 0 < A) (l : Int → Int) : ∀ (k p : Nat), k ≤ D → bcr L c D A k (lmd L c A l (D - k) p) (ucd L A (D - k) p) (qcd A (D - k) p) = fo (fun j => cnd L c D A l (p * A ^ k + j)) (A ^ k) := by
  intro k
  induction k with
  | zero =>
    intro p _
    show _ = mg none (cnd L c D A l (p * A ^ 0 + 0))
    rw [Nat.pow_zero, Nat.mul_one, Nat.add_zero]
    rfl
  | succ k ih =>
    intro p hk
    have eD : D - k = (D - (k + 1)) + 1 := by omega
    have eb : ∀ o, o < A → bcr L c D A k (eff L c (lmd L c A l (D - (k + 1)) p) (D - (k + 1)) o) (ucd L A (D - (k + 1)) p + cst L (D - (k + 1)) o) (upq (qcd A (D - (k + 1)) p) (D - (k + 1)) o) = fo (fun j => cnd L c D A l ((p * A + o) * A ^ k + j)) (A ^ k) := by
      intro o ho
      rw [← ih (p * A + o) (by omega), eD]
      have m1 : (p * A + o) / A = p := by rw [Nat.mul_comm, Nat.mul_add_div hA, Nat.div_eq_of_lt ho, Nat.add_zero]
      have m2 : (p * A + o) % A = o := Nat.mul_add_mod_of_lt ho
      show _ = bcr L c D A k (eff L c (lmd L c A l (D - (k + 1)) ((p * A + o) / A)) (D - (k + 1)) ((p * A + o) % A)) (ucd L A (D - (k + 1)) ((p * A + o) / A) + cst L (D - (k + 1)) ((p * A + o) % A)) (upq (qcd A (D - (k + 1)) ((p * A + o) / A)) (D - (k + 1)) ((p * A + o) % A))
      rw [m1, m2]
    show fo _ A = _
    rw [fo_e eb]
    have ep : A ^ (k + 1) = A * A ^ k := by rw [Nat.pow_succ, Nat.mul_comm]
    rw [ep, fo_blk]
    refine fo_e (fun o _ => fo_e (fun j _ => ?_))
    congr 1
    rw [Nat.add_mul, Nat.mul_assoc, Nat.add_assoc]
