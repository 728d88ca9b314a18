/-! what a heap shows, in whole numbers; what a call leaves as it was -/
def ia (h : Hp) (a : Nat) (z : Int) : Int := ((iA h a).getD z.toNat 0).toInt
def la (h : Hp) (a : Nat) (z : Int) : Int := ((lA h a).getD z.toNat 0).toInt
def fi (h : Hp) (a k : Nat) : Int := (fI h a k).toInt
def fl (h : Hp) (a k : Nat) : Int := (fL h a k).toInt
def wA (h : Hp) (a : Nat) (z v : Int) : Hp := sIA h a ((iA h a).set z.toNat (J v))
def wL (h : Hp) (a : Nat) (z v : Int) : Hp := sLA h a ((lA h a).set z.toNat (K v))
def wF (h : Hp) (a k : Nat) (v : Int) : Hp := sFI h a k (J v)
def wG (h : Hp) (a k : Nat) (v : Int) : Hp := sFL h a k (K v)
theorem getD_e {α : Type} {l : List α} {i : Nat} {d : α} (h : i < l.length) : l.getD i d = l[i]'h := by
  rw [List.getD_eq_getElem?_getD, List.getElem?_eq_getElem h]; rfl
theorem ix_J {z : Int} {n : Nat} (h0 : 0 ≤ z) (h1 : z < n) (h2 : z < 2147483648) : ix (J z) n = some z.toNat := ix_e (by rw [J_to (by omega) h2]; omega) (by omega)
theorem gI_J {h : Hp} {a ci k : Nat} (hk : kd h a = ci) : gI h a ci k = some (J (fi h a k)) := by rw [gI_e hk]; unfold fi; rw [J_of]
theorem gL_J {h : Hp} {a ci k : Nat} (hk : kd h a = ci) : gL h a ci k = some (K (fl h a k)) := by rw [gL_e hk]; unfold fl; rw [K_of]
theorem pI_J {h : Hp} {a ci k : Nat} {v : Int} (hk : kd h a = ci) : pI h a ci k (J v) = some (wF h a k v) := pI_e hk
theorem pL_J {h : Hp} {a ci k : Nat} {v : Int} (hk : kd h a = ci) : pL h a ci k (K v) = some (wG h a k v) := pL_e hk
theorem aI_J {h : Hp} {kk a : Nat} {z : Int} (hk : kd h a = kk) (h0 : 0 ≤ z) (h1 : z < (iA h a).length) (h2 : z < 2147483648) : aI h kk a (J z) = some (J (ia h a z)) := by
  have h3 : z.toNat < (iA h a).length := by omega
  rw [aI_e (i := z.toNat) hk (by rw [J_to (by omega) h2]; omega) h3]
  unfold ia
  rw [J_of, getD_e h3]
theorem aL_J {h : Hp} {a : Nat} {z : Int} (hk : kd h a = 102) (h0 : 0 ≤ z) (h1 : z < (lA h a).length) (h2 : z < 2147483648) : aL h a (J z) = some (K (la h a z)) := by
  have h3 : z.toNat < (lA h a).length := by omega
  rw [aL_e (i := z.toNat) hk (by rw [J_to (by omega) h2]; omega) h3]
  unfold la
  rw [K_of, getD_e h3]
theorem sI_J {h : Hp} {kk a : Nat} {z v : Int} (hk : kd h a = kk) (ha : a < 1000000) (h0 : 0 ≤ z) (h1 : z < (iA h a).length) (h2 : z < 2147483648) : sI h kk a (J z) (J v) = some (wA h a z v) := by
  have h3 : z.toNat < (iA h a).length := by omega
  rw [sI_e (i := z.toNat) hk ha (by rw [J_to (by omega) h2]; omega) h3]
  rfl
theorem sL_J {h : Hp} {a : Nat} {z v : Int} (hk : kd h a = 102) (ha : a < 1000000) (h0 : 0 ≤ z) (h1 : z < (lA h a).length) (h2 : z < 2147483648) : sL h a (J z) (K v) = some (wL h a z v) := by
  have h3 : z.toNat < (lA h a).length := by omega
  rw [sL_e (i := z.toNat) hk ha (by rw [J_to (by omega) h2]; omega) h3]
  rfl
theorem ia_same {h : Hp} {a : Nat} {z v : Int} (h0 : 0 ≤ z) (h1 : z < (iA h a).length) (h3 : -2147483648 ≤ v) (h4 : v < 2147483648) : ia (wA h a z v) a z = v := by
  have h5 : z.toNat < (iA h a).length := by omega
  unfold ia wA
  rw [iA_at, if_pos rfl, getD_e (by rw [List.length_set]; exact h5), List.getElem_set_self, J_to h3 h4]
theorem ia_ne {h : Hp} {a : Nat} {z v y : Int} (h0 : 0 ≤ z) (h1 : 0 ≤ y) (h2 : y ≠ z) : ia (wA h a z v) a y = ia h a y := by
  have h5 : z.toNat ≠ y.toNat := by omega
  unfold ia wA
  rw [iA_at, if_pos rfl]
  simp only [List.getD_eq_getElem?_getD, List.getElem?_set_ne h5]
theorem ia_wA {h : Hp} {a b : Nat} {z v : Int} (hb : b ≠ a) : ia (wA h a z v) b = ia h b := by
  funext y
  unfold ia wA
  rw [iA_at, if_neg hb]
theorem ia_if {h : Hp} {a : Nat} {z v y : Int} (h0 : 0 ≤ z) (h1 : 0 ≤ y) (h2 : z < (iA h a).length) (h3 : -2147483648 ≤ v) (h4 : v < 2147483648) : ia (wA h a z v) a y = if y = z then v else ia h a y := by
  by_cases hy : y = z
  · rw [if_pos hy, hy]; exact ia_same h0 h2 h3 h4
  · rw [if_neg hy]; exact ia_ne h0 h1 hy
theorem la_same {h : Hp} {a : Nat} {z v : Int} (h0 : 0 ≤ z) (h1 : z < (lA h a).length) (h3 : -9223372036854775808 ≤ v) (h4 : v < 9223372036854775808) : la (wL h a z v) a z = v := by
  have h5 : z.toNat < (lA h a).length := by omega
  unfold la wL
  rw [lA_at, if_pos rfl, getD_e (by rw [List.length_set]; exact h5), List.getElem_set_self, K_to h3 h4]
theorem la_ne {h : Hp} {a : Nat} {z v y : Int} (h0 : 0 ≤ z) (h1 : 0 ≤ y) (h2 : y ≠ z) : la (wL h a z v) a y = la h a y := by
  have h5 : z.toNat ≠ y.toNat := by omega
  unfold la wL
  rw [lA_at, if_pos rfl]
  simp only [List.getD_eq_getElem?_getD, List.getElem?_set_ne h5]
theorem fi_same {h : Hp} {a k : Nat} {v : Int} (h3 : -2147483648 ≤ v) (h4 : v < 2147483648) : fi (wF h a k v) a k = v := by
  unfold fi wF
  rw [fI_sFI, if_pos ⟨rfl, rfl⟩, J_to h3 h4]
theorem fi_ne {h : Hp} {a b k j : Nat} {v : Int} (hn : b ≠ a ∨ j ≠ k) : fi (wF h a k v) b j = fi h b j := by
  unfold fi wF
  rw [fI_sFI, if_neg]
  rintro ⟨h1, h2⟩
  cases hn with
  | inl hn => exact hn h1
  | inr hn => exact hn h2
theorem fl_same {h : Hp} {a k : Nat} {v : Int} (h3 : -9223372036854775808 ≤ v) (h4 : v < 9223372036854775808) : fl (wG h a k v) a k = v := by
  unfold fl wG
  rw [fL_sFL, if_pos ⟨rfl, rfl⟩, K_to h3 h4]
theorem fl_ne {h : Hp} {a b k j : Nat} {v : Int} (hn : b ≠ a ∨ j ≠ k) : fl (wG h a k v) b j = fl h b j := by
  unfold fl wG
  rw [fL_sFL, if_neg]
  rintro ⟨h1, h2⟩
  cases hn with
  | inl hn => exact hn h1
  | inr hn => exact hn h2
theorem ia_rg (h : Hp) (a : Nat) (z : Int) : -2147483648 ≤ ia h a z ∧ ia h a z < 2147483648 := J_rg _
theorem fi_rg (h : Hp) (a k : Nat) : -2147483648 ≤ fi h a k ∧ fi h a k < 2147483648 := J_rg _
/-- only cells from lo up to hi may have changed; kinds, references, lengths and room never -/
def Fm (lo hi : Nat) (h h' : Hp) : Prop := kd h' = kd h ∧ fR h' = fR h ∧ cn h' = cn h ∧ wd h' = wd h ∧ (∀ a, (iA h' a).length = (iA h a).length) ∧ (∀ a, (lA h' a).length = (lA h a).length) ∧ (∀ a, a < lo ∨ hi ≤ a → fI h' a = fI h a ∧ fL h' a = fL h a ∧ iA h' a = iA h a ∧ lA h' a = lA h a)
theorem fm_rf (lo hi : Nat) (h : Hp) : Fm lo hi h h := ⟨rfl, rfl, rfl, rfl, fun _ => rfl, fun _ => rfl, fun _ _ => ⟨rfl, rfl, rfl, rfl⟩⟩
theorem fm_tr {lo hi : Nat} {h h1 h2 : Hp} (x : Fm lo hi h h1) (y : Fm lo hi h1 h2) : Fm lo hi h h2 := by
  obtain ⟨a1, a2, a3, a4, a5, a6, a7⟩ := x
  obtain ⟨b1, b2, b3, b4, b5, b6, b7⟩ := y
  refine ⟨b1.trans a1, b2.trans a2, b3.trans a3, b4.trans a4, fun a => (b5 a).trans (a5 a), fun a => (b6 a).trans (a6 a), fun a ha => ?_⟩
  obtain ⟨c1, c2, c3, c4⟩ := a7 a ha
  obtain ⟨d1, d2, d3, d4⟩ := b7 a ha
  exact ⟨d1.trans c1, d2.trans c2, d3.trans c3, d4.trans c4⟩
theorem fm_wd {lo hi lo' hi' : Nat} {h h' : Hp} (x : Fm lo hi h h') (h1 : lo' ≤ lo) (h2 : hi ≤ hi') : Fm lo' hi' h h' := by
  obtain ⟨a1, a2, a3, a4, a5, a6, a7⟩ := x
  exact ⟨a1, a2, a3, a4, a5, a6, fun a ha => a7 a (by omega)⟩
theorem fm_wA {lo hi a : Nat} {h : Hp} {z v : Int} (h1 : lo ≤ a) (h2 : a < hi) : Fm lo hi h (wA h a z v) := by
  refine ⟨rfl, rfl, rfl, rfl, fun b => ?_, fun _ => rfl, fun b hb => ⟨rfl, rfl, ?_, rfl⟩⟩
  · unfold wA
    rw [iA_at]
    by_cases hb : b = a
    · rw [if_pos hb, List.length_set, hb]
    · rw [if_neg hb]
  · unfold wA
    rw [iA_at, if_neg (by omega)]
theorem fm_wL {lo hi a : Nat} {h : Hp} {z v : Int} (h1 : lo ≤ a) (h2 : a < hi) : Fm lo hi h (wL h a z v) := by
  refine ⟨rfl, rfl, rfl, rfl, fun _ => rfl, fun b => ?_, fun b hb => ⟨rfl, rfl, rfl, ?_⟩⟩
  · unfold wL
    rw [lA_at]
    by_cases hb : b = a
    · rw [if_pos hb, List.length_set, hb]
    · rw [if_neg hb]
  · unfold wL
    rw [lA_at, if_neg (by omega)]
theorem fm_sFI {lo hi a k : Nat} {h : Hp} {v : Int32} (h1 : lo ≤ a) (h2 : a < hi) : Fm lo hi h (sFI h a k v) := by
  refine ⟨rfl, rfl, rfl, rfl, fun _ => rfl, fun _ => rfl, fun b hb => ⟨?_, rfl, rfl, rfl⟩⟩
  funext j
  rw [fI_sFI, if_neg]
  rintro ⟨h3, _⟩
  omega
theorem fm_wF {lo hi a k : Nat} {h : Hp} {v : Int} (h1 : lo ≤ a) (h2 : a < hi) : Fm lo hi h (wF h a k v) := fm_sFI h1 h2
theorem fm_wG {lo hi a k : Nat} {h : Hp} {v : Int} (h1 : lo ≤ a) (h2 : a < hi) : Fm lo hi h (wG h a k v) := by
  refine ⟨rfl, rfl, rfl, rfl, fun _ => rfl, fun _ => rfl, fun b hb => ⟨rfl, ?_, rfl, rfl⟩⟩
  funext j
  unfold wG
  rw [fL_sFL, if_neg]
  rintro ⟨h3, _⟩
  omega
theorem fm_kd {lo hi : Nat} {h h' : Hp} (x : Fm lo hi h h') (a : Nat) : kd h' a = kd h a := by rw [x.1]
theorem fm_fR {lo hi : Nat} {h h' : Hp} (x : Fm lo hi h h') (a k : Nat) : fR h' a k = fR h a k := by rw [x.2.1]
theorem fm_len {lo hi : Nat} {h h' : Hp} (x : Fm lo hi h h') (a : Nat) : (iA h' a).length = (iA h a).length := x.2.2.2.2.1 a
theorem fm_lln {lo hi : Nat} {h h' : Hp} (x : Fm lo hi h h') (a : Nat) : (lA h' a).length = (lA h a).length := x.2.2.2.2.2.1 a
theorem fm_ia {lo hi : Nat} {h h' : Hp} (x : Fm lo hi h h') {a : Nat} (ha : a < lo ∨ hi ≤ a) (z : Int) : ia h' a z = ia h a z := by
  unfold ia; rw [(x.2.2.2.2.2.2 a ha).2.2.1]
theorem fm_la {lo hi : Nat} {h h' : Hp} (x : Fm lo hi h h') {a : Nat} (ha : a < lo ∨ hi ≤ a) (z : Int) : la h' a z = la h a z := by
  unfold la; rw [(x.2.2.2.2.2.2 a ha).2.2.2]
theorem fm_fi {lo hi : Nat} {h h' : Hp} (x : Fm lo hi h h') {a : Nat} (ha : a < lo ∨ hi ≤ a) (k : Nat) : fi h' a k = fi h a k := by
  unfold fi; rw [(x.2.2.2.2.2.2 a ha).1]
theorem fm_fl {lo hi : Nat} {h h' : Hp} (x : Fm lo hi h h') {a : Nat} (ha : a < lo ∨ hi ≤ a) (k : Nat) : fl h' a k = fl h a k := by
  unfold fl; rw [(x.2.2.2.2.2.2 a ha).2.1]
