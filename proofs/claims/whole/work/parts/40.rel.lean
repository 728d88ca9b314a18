/-! the relation between abstract heaps and the machine's -/
abbrev Gx : Type := Nat × (Nat → Nat) × Value × va_G × (ClassId × ClassId × ClassId) × Hp
def gN (G : Gx) : Nat := G.1
def gr (G : Gx) : Nat → Nat := G.2.1
def gw (G : Gx) : Value := G.2.2.1
def gD (G : Gx) : va_G := G.2.2.2.1
def gC (G : Gx) : ClassId × ClassId × ClassId := G.2.2.2.2.1
def gh (G : Gx) : Hp := G.2.2.2.2.2
def gA (G : Gx) : Nat → Prop := fun q => gN G ≤ q
def ad (G : Gx) (i : Nat) : Nat := if i < 1000000 then gN G + i else gr G (i - 1000000)
def vz (G : Gx) (v : Value) : Value := match v with
  | .ref i => .ref (ad G i)
  | .retAddr n => if n = 7 then gw G else .retAddr n
  | w => w
theorem vz_cat {G : Gx} (hw : (gw G).category = 1) (v : Value) : (vz G v).category = v.category := by
  cases v with
  | retAddr n =>
    unfold vz
    by_cases h : n = 7
    · simp only [h, if_true]; rw [hw]; rfl
    · simp only [h, if_false]
  | _ => rfl
def fval (h : Hp) (ci a j : Nat) : Value := match ftk ci j with
  | 1 => .int (fI h a j)
  | 2 => .long (fL h a j)
  | 3 => rf (fR h a j)
  | 4 => .int (fI h a j)
  | 5 => .int (fI h a j)
  | _ => .null
def nf (ci : Nat) : Nat := match vwCl[ci]? with
  | some r => r.2.2
  | none => 0
def fls (G : Gx) (h : Hp) (ci a : Nat) : List Value := (List.range (nf ci)).map (fun j => vz G (fval h ci a j))
def ce (G : Gx) (h : Hp) (i : Nat) : Option va_E :=
  if kd h i < 14 then some (.inr (kd h i, fls G h (kd h i) i))
  else if kd h i = 100 then some (.inl ((gC G).1, (iA h i).length, .inl (fun j => (iA h i).getD j 0)))
  else if kd h i = 101 then some (.inl ((gC G).2.1, (iA h i).length, .inl (fun j => (iA h i).getD j 0)))
  else if kd h i = 102 then some (.inl ((gC G).2.2, (lA h i).length, .inr (.inl (fun j => (lA h i).getD j 0))))
  else none
def wsof (G : Gx) (h : Hp) : va_W := (List.range (cn h)).filterMap (fun i => (ce G h i).map (fun e => (gN G + i, e)))
def HR (G : Gx) (h : Hp) (H : Heap) : Prop := H.size = gN G + cn h ∧ cn h ≤ 900000 ∧ (∀ i, cn h ≤ i → i < 1000000 → kd h i = 999) ∧ (∀ i, i < 1000000 → kd h i ≠ 50) ∧ va_P (gD G) vwCl (wsof G h) H
def RO (G : Gx) (h : Hp) : Prop := ∀ i, 1000000 ≤ i → kd h i = kd (gh G) i ∧ fI h i = fI (gh G) i ∧ fR h i = fR (gh G) i ∧ iA h i = iA (gh G) i
theorem ws_mem {G : Gx} {h : Hp} {q : Nat × va_E} : q ∈ wsof G h ↔ ∃ i, i < cn h ∧ ∃ e, ce G h i = some e ∧ q = (gN G + i, e) := by
  unfold wsof
  simp only [List.mem_filterMap, List.mem_range, Option.map_eq_some_iff]
  constructor
  · rintro ⟨i, hi, e, he, rfl⟩; exact ⟨i, hi, e, he, rfl⟩
  · rintro ⟨i, hi, e, he, rfl⟩; exact ⟨i, hi, e, he, rfl⟩
theorem ws_get {G : Gx} {h : Hp} {i : Nat} {e : va_E} (hi : i < cn h) (he : ce G h i = some e) : ∃ q0 : Nat, (wsof G h)[q0]? = some (gN G + i, e) := by
  exact List.getElem?_of_mem (ws_mem.mpr ⟨i, hi, e, he, rfl⟩)
theorem ws_sorted (G : Gx) (h : Hp) : List.Pairwise (fun p q : Nat × va_E => p.1 < q.1) (wsof G h) := by
  unfold wsof
  rw [List.pairwise_filterMap]
  refine List.Pairwise.imp ?_ (List.pairwise_lt_range (n := cn h))
  intro a b hab p hp q hq
  simp only [Option.map_eq_some_iff] at hp hq
  obtain ⟨e1, -, rfl⟩ := hp
  obtain ⟨e2, -, rfl⟩ := hq
  simp only
  omega
theorem ws_D (G : Gx) (h : Hp) : va_D (gA G) (wsof G h) := by
  have hs := ws_sorted G h
  rw [List.pairwise_iff_getElem] at hs
  refine ⟨fun i j p q hp hq e => ?_, fun k q hk => ?_⟩
  · obtain ⟨hi, hp⟩ := List.getElem?_eq_some_iff.mp hp
    obtain ⟨hj, hq⟩ := List.getElem?_eq_some_iff.mp hq
    rcases Nat.lt_trichotomy i j with hl | hl | hl
    · have := hs i j hi hj hl; rw [hp, hq] at this; omega
    · exact hl
    · have := hs j i hj hi hl; rw [hp, hq] at this; omega
  · obtain ⟨i, -, e, -, rfl⟩ := ws_mem.mp (List.mem_of_getElem? hk)
    show gN G ≤ gN G + i
    omega
/-- one cell changes -/
theorem ws_set {G : Gx} {h h' : Hp} {a q0 : Nat} {e e' : va_E} {H1 : Heap} (hq : (wsof G h)[q0]? = some (gN G + a, e)) (hc : cn h' = cn h) (ho : ∀ i, i ≠ a → ce G h' i = ce G h i) (ha : ce G h' a = some e') (hP : va_P (gD G) vwCl ((wsof G h).set q0 (gN G + a, e')) H1) : va_P (gD G) vwCl (wsof G h') H1 := by
  intro k q hk
  obtain ⟨i, hi, e1, he, rfl⟩ := ws_mem.mp (List.mem_of_getElem? hk)
  have hlt := (List.getElem?_eq_some_iff.mp hq).1
  by_cases hia : i = a
  · subst hia
    rw [ha] at he
    cases he
    exact hP q0 _ (by rw [List.getElem?_set_self hlt])
  · rw [ho i hia] at he
    obtain ⟨k2, hk2⟩ := ws_get (by rw [← hc]; exact hi) he
    refine hP k2 _ ?_
    rw [List.getElem?_set_ne]
    · exact hk2
    · intro z
      subst z
      rw [hq] at hk2
      have := congrArg Prod.fst (Option.some.inj hk2)
      simp only at this
      omega
/-- a cell comes -/
theorem ws_push {G : Gx} {h h' : Hp} {H H1 : Heap} (hP : va_P (gD G) vwCl (wsof G h) H) (hsz : H.size = gN G + cn h) (hk : ∀ q, q < H.size → H1[q]? = H[q]?) (hc : cn h' = cn h + 1) (ho : ∀ i, i < cn h → ce G h' i = ce G h i) (ha : ∀ e, ce G h' (cn h) = some e → va_at (gD G) vwCl (gN G + cn h, e) H1) : va_P (gD G) vwCl (wsof G h') H1 := by
  intro k q hq
  obtain ⟨i, hi, e1, he, rfl⟩ := ws_mem.mp (List.mem_of_getElem? hq)
  by_cases hia : i = cn h
  · subst hia
    exact ha _ he
  · rw [ho i (by omega)] at he
    obtain ⟨k2, hk2⟩ := ws_get (by omega) he
    exact (hP k2 _ hk2).kept (hk _ (by simp only; omega))
/-! locals -/
def lvr (G : Gx) (L : Array Slot) (n : Nat) (ls : List Value) : Prop := L.size = n ∧ lv_wf L ∧ ls.length = n ∧ ∀ (i : Nat) (v : Value), ls[i]? = some v → v ≠ unk → L[i]? = some (.val (vz G v))
def kn (G : Gx) (ls : List Value) : List (Nat × Value) := (List.range ls.length).filterMap (fun i => match ls[i]? with
  | some v => if v = unk then none else some (i, vz G v)
  | none => none)
theorem mem_kn {G : Gx} {ls : List Value} {q : Nat × Value} : q ∈ kn G ls ↔ ∃ v, ls[q.1]? = some v ∧ v ≠ unk ∧ q.2 = vz G v := by
  unfold kn
  simp only [List.mem_filterMap, List.mem_range]
  constructor
  · rintro ⟨i, hi, hm⟩
    cases hv : ls[i]? with
    | none => rw [hv] at hm; cases hm
    | some v =>
      rw [hv] at hm
      simp only at hm
      by_cases hu : v = unk
      · rw [if_pos hu] at hm; cases hm
      · rw [if_neg hu] at hm
        cases hm
        exact ⟨v, hv, hu, rfl⟩
  · rintro ⟨v, hv, hu, he⟩
    refine ⟨q.1, (List.getElem?_eq_some_iff.mp hv).1, ?_⟩
    rw [hv]
    simp only
    rw [if_neg hu, ← he]
theorem lvr_has {G : Gx} {L : Array Slot} {n : Nat} {ls : List Value} (h : lvr G L n ls) : lv_has L n (kn G ls) := by
  refine ⟨h.1, h.2.1, fun q hq => ?_⟩
  obtain ⟨v, hv, hu, he⟩ := mem_kn.mp hq
  rw [he]
  exact h.2.2.2 q.1 v hv hu
theorem lvr_kls {G : Gx} {L : Array Slot} {n : Nat} (ks : List Nat) : ∀ {ls : List Value}, lvr G L n ls → lvr G L n (kls ks ls) := by
  induction ks with
  | nil => intro ls h; exact h
  | cons k t ih =>
    intro ls h
    refine ih (ls := ls.set k unk) ⟨h.1, h.2.1, by rw [List.length_set]; exact h.2.2.1, fun i v hv hu => ?_⟩
    rw [List.getElem?_set] at hv
    by_cases hk : k = i
    · rw [if_pos hk] at hv
      by_cases hl : k < ls.length
      · rw [if_pos hl] at hv; cases hv; exact absurd rfl hu
      · rw [if_neg hl] at hv; cases hv
    · rw [if_neg hk] at hv
      exact h.2.2.2 i v hv hu
theorem kil_get {ls : List Value} {i j : Nat} {v : Value} (hv : (kil ls i)[j]? = some v) (hu : v ≠ unk) : ls[j]? = some v ∧ ¬ (j + 1 = i ∧ v.category = 2) := by
  cases i with
  | zero => exact ⟨hv, fun z => by omega⟩
  | succ i =>
    simp only [kil] at hv
    cases hx : ls[i]? with
    | none =>
      rw [hx] at hv
      refine ⟨hv, fun z => ?_⟩
      have e : i = j := by omega
      subst e
      simp only at hv
      rw [hx] at hv; cases hv
    | some w =>
      rw [hx] at hv
      simp only at hv
      by_cases hw : w.category = 2
      · rw [if_pos hw, List.getElem?_set] at hv
        by_cases hij : i = j
        · rw [if_pos hij] at hv
          by_cases hl : i < ls.length
          · rw [if_pos hl] at hv; cases hv; exact absurd rfl hu
          · rw [if_neg hl] at hv; cases hv
        · rw [if_neg hij] at hv
          exact ⟨hv, fun z => by omega⟩
      · rw [if_neg hw] at hv
        refine ⟨hv, fun z => ?_⟩
        have e : i = j := by omega
        subst e
        rw [hx] at hv
        cases hv
        exact hw z.2
theorem kil_len (ls : List Value) (i : Nat) : (kil ls i).length = ls.length := by
  cases i with
  | zero => rfl
  | succ i =>
    simp only [kil]
    cases ls[i]? with
    | none => rfl
    | some w =>
      simp only
      split
      · rw [List.length_set]
      · rfl
theorem lvr_sto1 {G : Gx} {L L' : Array Slot} {n i : Nat} {ls : List Value} {w : Value} (hc : (gw G).category = 1) (h : lvr G L n ls) (hh : lv_has L' n ((i, vz G w) :: (kn G ls).filter (fun q => !(q.1 == i) && !(q.1 + 1 == i && q.2.category == 2)))) : lvr G L' n (sto1 ls i w) := by
  refine ⟨hh.1, hh.2.1, by unfold sto1; rw [List.length_set, kil_len]; exact h.2.2.1, fun j v hv hu => ?_⟩
  unfold sto1 at hv
  rw [List.getElem?_set] at hv
  by_cases hij : i = j
  · rw [if_pos hij] at hv
    subst hij
    by_cases hl : i < (kil ls i).length
    · rw [if_pos hl] at hv
      cases hv
      exact hh.2.2 (i, vz G w) List.mem_cons_self
    · rw [if_neg hl] at hv; cases hv
  · rw [if_neg hij] at hv
    obtain ⟨g1, g2⟩ := kil_get hv hu
    refine hh.2.2 (j, vz G v) (List.mem_cons_of_mem _ (List.mem_filter.mpr ⟨mem_kn.mpr ⟨v, g1, hu, rfl⟩, ?_⟩))
    have hne : (j == i) = false := by simp; omega
    simp only [hne, Bool.not_false, Bool.true_and, Bool.not_eq_true', Bool.and_eq_false_iff, beq_eq_false_iff_ne]
    by_cases hj : j + 1 = i
    · right
      intro z
      rw [vz_cat hc] at z
      exact g2 ⟨hj, z⟩
    · exact Or.inl hj
theorem lvr_sto2 {G : Gx} {L L' : Array Slot} {n i : Nat} {ls : List Value} {w : Value} (hc : (gw G).category = 1) (h : lvr G L n ls) (hh : lv_has L' n ((i, vz G w) :: (kn G ls).filter (fun q => !(q.1 == i) && (!(q.1 == i + 1) && !(q.1 + 1 == i && q.2.category == 2))))) : lvr G L' n (sto2 ls i w) := by
  refine ⟨hh.1, hh.2.1, by unfold sto2; rw [List.length_set, List.length_set, kil_len]; exact h.2.2.1, fun j v hv hu => ?_⟩
  unfold sto2 at hv
  rw [List.getElem?_set] at hv
  by_cases hij1 : i + 1 = j
  · rw [if_pos hij1] at hv
    split at hv
    · cases hv; exact absurd rfl hu
    · cases hv
  rw [if_neg hij1] at hv
  rw [List.getElem?_set] at hv
  by_cases hij : i = j
  · rw [if_pos hij] at hv
    subst hij
    by_cases hl : i < (kil ls i).length
    · rw [if_pos hl] at hv
      cases hv
      exact hh.2.2 (i, vz G w) List.mem_cons_self
    · rw [if_neg hl] at hv; cases hv
  · rw [if_neg hij] at hv
    obtain ⟨g1, g2⟩ := kil_get hv hu
    refine hh.2.2 (j, vz G v) (List.mem_cons_of_mem _ (List.mem_filter.mpr ⟨mem_kn.mpr ⟨v, g1, hu, rfl⟩, ?_⟩))
    have hne : (j == i) = false := by simp; omega
    have hne2 : (j == i + 1) = false := by simp; omega
    simp only [hne, hne2, Bool.not_false, Bool.true_and, Bool.not_eq_true', Bool.and_eq_false_iff, beq_eq_false_iff_ne]
    by_cases hj : j + 1 = i
    · right
      intro z
      rw [vz_cat hc] at z
      exact g2 ⟨hj, z⟩
    · exact Or.inl hj
