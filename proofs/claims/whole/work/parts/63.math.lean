/-! the mathematics: a lake L (its fields by number, its rows by place), a state S (0 to 24 corks, 25 to 27 where guests are, 28 what is cut, 29 week, 30 seed) -/
abbrev Lk : Type := Nat → Int → Int
abbrev Sk : Type := Int → Int
def lft (S : Sk) (h : Int) : Int := 3 * S (5 * h) + 2 * S (5 * h + 1) + S (5 * h + 2) + 2 * S (5 * h + 3) + 4 * S (5 * h + 4)
def gsm (L : Lk) (S : Sk) (h : Int) (n : Nat) : Int := sm n (fun g => if S (25 + g) = h then L 15 g else 0)
def wgt (L : Lk) (S : Sk) (h : Int) : Int := L 10 h + gsm L S h (L 3 0).toNat
def net (L : Lk) (S : Sk) (h : Int) : Int := lft S h - wgt L S h
/-- the ropes that are tied: those of the first k that c doesn't cut -/
def rop (L : Lk) (c : Nat) : Nat → List (Nat × Nat)
  | 0 => []
  | k + 1 => rop L c k ++ (if c.testBit k then [] else [((L 13 k).toNat, (L 14 k).toNat)])
def rst (x : Nat) (e : Nat × Nat) : Nat := if (if x.testBit e.1 then x ||| 2 ^ e.2 else x).testBit e.2 then (if x.testBit e.1 then x ||| 2 ^ e.2 else x) ||| 2 ^ e.1 else (if x.testBit e.1 then x ||| 2 ^ e.2 else x)
def rnd (E : List (Nat × Nat)) (x : Nat) : Nat := E.foldl rst x
def itr (E : List (Nat × Nat)) : Nat → Nat → Nat
  | 0, x => x
  | n + 1, x => rnd E (itr E n x)
def hn (L : Lk) : Nat := (L 1 0).toNat
def rn (L : Lk) : Nat := (L 2 0).toNat
def raft (L : Lk) (c : Nat) (h : Int) : Nat := itr (rop L c (rn L)) (hn L) (2 ^ h.toNat)
def tot (o : Int → Int) (n : Nat) (x : Nat) : Int := sm n (fun i => if x.testBit i then o i else 0)
def hgo (L : Lk) (o : Int → Int) (c : Nat) (h : Int) : Int := tot o (hn L) (raft L c h) / (pc5 (raft L c h) : Int)
def hgt (L : Lk) (S : Sk) (h : Int) : Int := hgo L (net L S) (S 28).toNat h
/-- a lake as it can be told: counts and bounds -/
def LW (L : Lk) : Prop := (0 ≤ L 0 0 ∧ L 0 0 ≤ 100) ∧ (0 ≤ L 1 0 ∧ L 1 0 ≤ 5) ∧ (0 ≤ L 2 0 ∧ L 2 0 ≤ 5) ∧ (0 ≤ L 3 0 ∧ L 3 0 ≤ 3) ∧ (0 ≤ L 4 0 ∧ L 4 0 ≤ 3) ∧ (0 ≤ L 5 0 ∧ L 5 0 ≤ 4) ∧ (0 ≤ L 6 0 ∧ L 6 0 ≤ 4) ∧ (0 ≤ L 7 0 ∧ L 7 0 ≤ 5) ∧
  (∀ i, 0 ≤ i → i < L 1 0 → (L 9 i = 0 ∨ L 9 i = 1) ∧ 0 ≤ L 10 i ∧ L 10 i ≤ 99) ∧
  (∀ i, 0 ≤ i → i < 25 → 0 ≤ L 11 i ∧ L 11 i ≤ 30 ∧ (5 * L 1 0 ≤ i → L 11 i = 0)) ∧
  (∀ i, 0 ≤ i → i < L 2 0 → 0 ≤ L 13 i ∧ L 13 i < L 14 i ∧ L 14 i < L 1 0) ∧
  (∀ i, 0 ≤ i → i < L 3 0 → 1 ≤ L 15 i ∧ L 15 i ≤ 50 ∧ 0 ≤ L 16 i ∧ L 16 i < L 1 0) ∧
  (∀ i, 0 ≤ i → i < L 4 0 → (L 17 i = 0 ∨ L 17 i = 3 ∨ L 17 i = 4) ∧ 1 ≤ L 18 i ∧ L 18 i ≤ 9) ∧
  (∀ i, 0 ≤ i → i < L 5 0 → 0 ≤ L 19 i ∧ L 19 i < L 1 0 ∧ 0 ≤ L 20 i ∧ L 20 i ≤ 9 ∧ 0 ≤ L 21 i ∧ L 21 i ≤ 50) ∧
  (∀ i, 0 ≤ i → i < L 6 0 → 0 ≤ L 22 i ∧ L 22 i < L 4 0 ∧ 0 ≤ L 23 i ∧ L 23 i < L 1 0 ∧ 1 ≤ L 24 i ∧ L 24 i ≤ 20) ∧
  (∀ i, 0 ≤ i → i < L 7 0 → 0 ≤ L 25 i ∧ L 25 i < L 1 0 ∧ -200 ≤ L 26 i ∧ L 26 i ≤ 200)
theorem LW_mice {L : Lk} (H : LW L) : 0 ≤ L 0 0 ∧ L 0 0 ≤ 100 := H.1
theorem LW_h {L : Lk} (H : LW L) : 0 ≤ L 1 0 ∧ L 1 0 ≤ 5 := H.2.1
theorem LW_r {L : Lk} (H : LW L) : 0 ≤ L 2 0 ∧ L 2 0 ≤ 5 := H.2.2.1
theorem LW_g {L : Lk} (H : LW L) : 0 ≤ L 3 0 ∧ L 3 0 ≤ 3 := H.2.2.2.1
theorem LW_d {L : Lk} (H : LW L) : 0 ≤ L 4 0 ∧ L 4 0 ≤ 3 := H.2.2.2.2.1
theorem LW_f {L : Lk} (H : LW L) : 0 ≤ L 5 0 ∧ L 5 0 ≤ 4 := H.2.2.2.2.2.1
theorem LW_v {L : Lk} (H : LW L) : 0 ≤ L 6 0 ∧ L 6 0 ≤ 4 := H.2.2.2.2.2.2.1
theorem LW_s {L : Lk} (H : LW L) : 0 ≤ L 7 0 ∧ L 7 0 ≤ 5 := H.2.2.2.2.2.2.2.1
theorem LW_hs {L : Lk} (H : LW L) : ∀ i, 0 ≤ i → i < L 1 0 → (L 9 i = 0 ∨ L 9 i = 1) ∧ 0 ≤ L 10 i ∧ L 10 i ≤ 99 := H.2.2.2.2.2.2.2.2.1
theorem LW_cs {L : Lk} (H : LW L) : ∀ i, 0 ≤ i → i < 25 → 0 ≤ L 11 i ∧ L 11 i ≤ 30 ∧ (5 * L 1 0 ≤ i → L 11 i = 0) := H.2.2.2.2.2.2.2.2.2.1
theorem LW_rs {L : Lk} (H : LW L) : ∀ i, 0 ≤ i → i < L 2 0 → 0 ≤ L 13 i ∧ L 13 i < L 14 i ∧ L 14 i < L 1 0 := H.2.2.2.2.2.2.2.2.2.2.1
theorem LW_gs {L : Lk} (H : LW L) : ∀ i, 0 ≤ i → i < L 3 0 → 1 ≤ L 15 i ∧ L 15 i ≤ 50 ∧ 0 ≤ L 16 i ∧ L 16 i < L 1 0 := H.2.2.2.2.2.2.2.2.2.2.2.1
theorem LW_ds {L : Lk} (H : LW L) : ∀ i, 0 ≤ i → i < L 4 0 → (L 17 i = 0 ∨ L 17 i = 3 ∨ L 17 i = 4) ∧ 1 ≤ L 18 i ∧ L 18 i ≤ 9 := H.2.2.2.2.2.2.2.2.2.2.2.2.1
theorem LW_fs {L : Lk} (H : LW L) : ∀ i, 0 ≤ i → i < L 5 0 → 0 ≤ L 19 i ∧ L 19 i < L 1 0 ∧ 0 ≤ L 20 i ∧ L 20 i ≤ 9 ∧ 0 ≤ L 21 i ∧ L 21 i ≤ 50 := H.2.2.2.2.2.2.2.2.2.2.2.2.2.1
theorem LW_vs {L : Lk} (H : LW L) : ∀ i, 0 ≤ i → i < L 6 0 → 0 ≤ L 22 i ∧ L 22 i < L 4 0 ∧ 0 ≤ L 23 i ∧ L 23 i < L 1 0 ∧ 1 ≤ L 24 i ∧ L 24 i ≤ 20 := H.2.2.2.2.2.2.2.2.2.2.2.2.2.2.1
theorem LW_ss {L : Lk} (H : LW L) : ∀ i, 0 ≤ i → i < L 7 0 → 0 ≤ L 25 i ∧ L 25 i < L 1 0 ∧ -200 ≤ L 26 i ∧ L 26 i ≤ 200 := H.2.2.2.2.2.2.2.2.2.2.2.2.2.2.2
/-- corks of a state: from 0 to m -/
def CW (m : Int) (S : Sk) : Prop := ∀ i, 0 ≤ i → i < 25 → 0 ≤ S i ∧ S i ≤ m
theorem lft_b {m : Int} {S : Sk} (H : CW m S) {h : Int} (h0 : 0 ≤ h) (h1 : h < 5) : 0 ≤ lft S h ∧ lft S h ≤ 12 * m := by
  have a0 := H (5 * h) (by omega) (by omega)
  have a1 := H (5 * h + 1) (by omega) (by omega)
  have a2 := H (5 * h + 2) (by omega) (by omega)
  have a3 := H (5 * h + 3) (by omega) (by omega)
  have a4 := H (5 * h + 4) (by omega) (by omega)
  unfold lft
  omega
theorem gsm_b {L : Lk} (H : LW L) (S : Sk) (h : Int) {n : Nat} (hn : n ≤ L 3 0) : 0 ≤ gsm L S h n ∧ gsm L S h n ≤ 50 * n := by
  have h1 := sm_b (n := n) (f := fun g => if S (25 + g) = h then L 15 g else 0) (a := 0) (b := 50) (fun i hi => by
    have h2 := LW_gs H i (by omega) (by omega)
    show 0 ≤ (if S (25 + i) = h then L 15 i else 0) ∧ (if S (25 + i) = h then L 15 i else 0) ≤ 50
    by_cases hc : S (25 + i) = h
    · rw [if_pos hc]; omega
    · rw [if_neg hc]; omega)
  unfold gsm
  omega
theorem wgt_b {L : Lk} (H : LW L) (S : Sk) {h : Int} (h0 : 0 ≤ h) (h1 : h < L 1 0) : 0 ≤ wgt L S h ∧ wgt L S h ≤ 249 := by
  have h2 := LW_hs H h h0 h1
  have h3 := LW_g H
  have h4 := gsm_b H S h (n := (L 3 0).toNat) (by omega)
  unfold wgt
  omega
theorem net_b {m : Int} {L : Lk} (H : LW L) {S : Sk} (HS : CW m S) {h : Int} (h0 : 0 ≤ h) (h1 : h < L 1 0) : -249 ≤ net L S h ∧ net L S h ≤ 12 * m := by
  have h2 := LW_h H
  have h3 := wgt_b H S h0 h1
  have h4 := lft_b HS h0 (by omega)
  unfold net
  omega
