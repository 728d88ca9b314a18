/-! what a step of the abstract machine was -/
theorem go_inj {pc : Nat} {ls st : List Value} {h : Hp} {x' : Sx} (e : go pc ls st h = some (.inr (.inl x'))) : (pc, ls, st, h) = x' := by
  unfold go at e
  exact Sum.inl.inj (Sum.inr.inj (Option.some.inj e))
theorem bi2_inv {pc : Nat} {ls st : List Value} {h : Hp} {x' : Sx} {f : Int32 → Int32 → Int32} (e : bi2 pc ls st h f = some (.inr (.inl x'))) : ∃ x y r, st = .int y :: .int x :: r ∧ x' = (pc + 1, ls, .int (f x y) :: r, h) := by
  unfold bi2 at e
  split at e
  next y x r => exact ⟨x, y, r, rfl, (go_inj e).symm⟩
  next => cases e
theorem bl2_inv {pc : Nat} {ls st : List Value} {h : Hp} {x' : Sx} {f : Int64 → Int64 → Int64} (e : bl2 pc ls st h f = some (.inr (.inl x'))) : ∃ x y r, st = .long y :: .long x :: r ∧ x' = (pc + 1, ls, .long (f x y) :: r, h) := by
  unfold bl2 at e
  split at e
  next y x r => exact ⟨x, y, r, rfl, (go_inj e).symm⟩
  next => cases e
theorem tg_s {pc t : Nat} {off : Int} (h : tg pc off = some t) : (pc : Int) + off = (t : Int) := by
  unfold tg at h
  by_cases hc : 0 ≤ (pc : Int) + off
  · rw [if_pos hc] at h
    have := Option.some.inj h
    omega
  · rw [if_neg hc] at h; cases h
theorem br1_inv {pc : Nat} {ls st : List Value} {h : Hp} {x' : Sx} {off : Int} {f : Int32 → Bool} (e : br1 pc ls st h off f = some (.inr (.inl x'))) : ∃ (x : Int32) (r : List Value) (t : Nat), st = .int x :: r ∧ (pc : Int) + off = (t : Int) ∧ x' = (cond (f x) t (pc + 3), ls, r, h) := by
  unfold br1 at e
  split at e
  next x r =>
    cases ht : tg pc off with
    | none => rw [ht] at e; cases e
    | some t =>
      rw [ht] at e
      exact ⟨x, r, t, rfl, tg_s ht, (go_inj e).symm⟩
  next => cases e
theorem br2_inv {pc : Nat} {ls st : List Value} {h : Hp} {x' : Sx} {off : Int} {f : Int32 → Int32 → Bool} (e : br2 pc ls st h off f = some (.inr (.inl x'))) : ∃ (x y : Int32) (r : List Value) (t : Nat), st = .int y :: .int x :: r ∧ (pc : Int) + off = (t : Int) ∧ x' = (cond (f x y) t (pc + 3), ls, r, h) := by
  unfold br2 at e
  split at e
  next y x r =>
    cases ht : tg pc off with
    | none => rw [ht] at e; cases e
    | some t =>
      rw [ht] at e
      exact ⟨x, y, r, t, rfl, tg_s ht, (go_inj e).symm⟩
  next => cases e
theorem ldI_inv {pc i : Nat} {ls st : List Value} {h : Hp} {x' : Sx} (e : ldI pc ls st h i = some (.inr (.inl x'))) : ∃ x, ls[i]? = some (.int x) ∧ x' = (pc, ls, .int x :: st, h) := by
  unfold ldI at e
  split at e
  next x hx => exact ⟨x, hx, (go_inj e).symm⟩
  next => cases e
theorem ldL_inv {pc i : Nat} {ls st : List Value} {h : Hp} {x' : Sx} (e : ldL pc ls st h i = some (.inr (.inl x'))) : ∃ x, ls[i]? = some (.long x) ∧ x' = (pc, ls, .long x :: st, h) := by
  unfold ldL at e
  split at e
  next x hx => exact ⟨x, hx, (go_inj e).symm⟩
  next => cases e
theorem ldA_inv {pc i : Nat} {ls st : List Value} {h : Hp} {x' : Sx} (e : ldA pc ls st h i = some (.inr (.inl x'))) : ∃ x, ls[i]? = some (.ref x) ∧ x' = (pc, ls, .ref x :: st, h) := by
  unfold ldA at e
  split at e
  next x hx => exact ⟨x, hx, (go_inj e).symm⟩
  next => cases e
theorem stI_inv {pc i : Nat} {ls st : List Value} {h : Hp} {x' : Sx} (e : stI pc ls st h i = some (.inr (.inl x'))) : ∃ x r, st = .int x :: r ∧ i < ls.length ∧ x' = (pc, sto1 ls i (.int x), r, h) := by
  unfold stI at e
  split at e
  next x r =>
    by_cases hi : i < ls.length
    · rw [if_pos hi] at e; exact ⟨x, r, rfl, hi, (go_inj e).symm⟩
    · rw [if_neg hi] at e; cases e
  next => cases e
theorem stL_inv {pc i : Nat} {ls st : List Value} {h : Hp} {x' : Sx} (e : stL pc ls st h i = some (.inr (.inl x'))) : ∃ x r, st = .long x :: r ∧ i + 1 < ls.length ∧ x' = (pc, sto2 ls i (.long x), r, h) := by
  unfold stL at e
  split at e
  next x r =>
    by_cases hi : i + 1 < ls.length
    · rw [if_pos hi] at e; exact ⟨x, r, rfl, hi, (go_inj e).symm⟩
    · rw [if_neg hi] at e; cases e
  next => cases e
theorem stA_inv {pc i : Nat} {ls st : List Value} {h : Hp} {x' : Sx} (e : stA pc ls st h i = some (.inr (.inl x'))) : ∃ x r, st = .ref x :: r ∧ i < ls.length ∧ x' = (pc, sto1 ls i (.ref x), r, h) := by
  unfold stA at e
  split at e
  next x r =>
    by_cases hi : i < ls.length
    · rw [if_pos hi] at e; exact ⟨x, r, rfl, hi, (go_inj e).symm⟩
    · rw [if_neg hi] at e; cases e
  next => cases e
theorem ob_s {α β : Type} {o : Option α} {f : α → Option β} {r : β} (h : o.bind f = some r) : ∃ x, o = some x ∧ f x = some r := by
  cases o with
  | none => cases h
  | some x => exact ⟨x, rfl, h⟩
theorem gF_inv {h : Hp} {a ci j : Nat} {v : Value} (e : gF h a ci j = some v) : kd h a = ci ∧ v = fval h ci a j := by
  unfold gF at e
  unfold fval
  split at e <;> rename_i ht <;> (try (cases e; done)) <;> rw [ht] <;> simp only [gI, gL, gQ] at e <;> (by_cases hc : kd h a = ci <;> simp [hc] at e <;> exact ⟨hc, e.symm⟩)
theorem pF_inv {h h' : Hp} {a ci j : Nat} {v : Value} (e : pF h a ci j v = some h') : kd h a = ci ∧ Df h h' a ∧ fval h' ci a j = v ∧ (∀ k, k ≠ j → fval h' ci a k = fval h ci a k) ∧ ((ftk ci j = 1 ∧ ∃ x, v = .int x) ∨ (ftk ci j = 2 ∧ ∃ x, v = .long x) ∨ (ftk ci j = 3 ∧ ∃ x, v = .ref x) ∨ (ftk ci j = 4 ∧ ∃ x, v = .int x ∧ isB x = true)) := by
  unfold pF at e
  split at e
  next x ht =>
    unfold pI at e
    by_cases hc : kd h a = ci
    · rw [if_pos hc] at e; cases e
      exact ⟨hc, Df_I _ _ _ _, (fval_I (Or.inl ht)).1, (fval_I (Or.inl ht)).2, Or.inl ⟨ht, x, rfl⟩⟩
    · rw [if_neg hc] at e; cases e
  next x ht =>
    unfold pL at e
    by_cases hc : kd h a = ci
    · rw [if_pos hc] at e; cases e
      exact ⟨hc, Df_L _ _ _ _, (fval_L ht).1, (fval_L ht).2, Or.inr (Or.inl ⟨ht, x, rfl⟩)⟩
    · rw [if_neg hc] at e; cases e
  next x ht =>
    unfold pR at e
    by_cases hc : kd h a = ci
    · rw [if_pos hc] at e; cases e
      exact ⟨hc, Df_R _ _ _ _, (fval_R ht).1, (fval_R ht).2, Or.inr (Or.inr (Or.inl ⟨ht, x, rfl⟩))⟩
    · rw [if_neg hc] at e; cases e
  next x ht =>
    unfold pZ at e
    by_cases hc : kd h a = ci ∧ isB x = true
    · rw [if_pos hc] at e; cases e
      exact ⟨hc.1, Df_I _ _ _ _, (fval_I (Or.inr ht)).1, (fval_I (Or.inr ht)).2, Or.inr (Or.inr (Or.inr ⟨ht, x, rfl, hc.2⟩))⟩
    · rw [if_neg hc] at e; cases e
  next => cases e
theorem ix_s {j : Int32} {n i : Nat} (h : ix j n = some i) : vp_in j n ∧ i = j.toNatClampNeg ∧ i < n := by
  unfold ix at h
  by_cases h1 : j < 0
  · rw [if_pos h1] at h; cases h
  · rw [if_neg h1] at h
    by_cases h2 : j.toNatClampNeg < n
    · rw [if_pos h2] at h
      cases h
      exact ⟨fun z => z.elim h1 (fun z => by omega), rfl, h2⟩
    · rw [if_neg h2] at h; cases h
theorem aI_inv {h : Hp} {kk a : Nat} {j x : Int32} (e : aI h kk a j = some x) : kd h a = kk ∧ vp_in j (iA h a).length ∧ (iA h a).getD j.toNatClampNeg 0 = x := by
  unfold aI at e
  by_cases hc : kd h a = kk
  · rw [if_pos hc] at e
    obtain ⟨i, hi, e⟩ := ob_s e
    obtain ⟨h1, rfl, h3⟩ := ix_s hi
    exact ⟨hc, h1, by rw [List.getD_eq_getElem?_getD, e]; rfl⟩
  · rw [if_neg hc] at e; cases e
theorem aL_inv {h : Hp} {a : Nat} {j : Int32} {x : Int64} (e : aL h a j = some x) : kd h a = 102 ∧ vp_in j (lA h a).length ∧ (lA h a).getD j.toNatClampNeg 0 = x := by
  unfold aL at e
  by_cases hc : kd h a = 102
  · rw [if_pos hc] at e
    obtain ⟨i, hi, e⟩ := ob_s e
    obtain ⟨h1, rfl, h3⟩ := ix_s hi
    exact ⟨hc, h1, by rw [List.getD_eq_getElem?_getD, e]; rfl⟩
  · rw [if_neg hc] at e; cases e
theorem om_s {α β : Type} {o : Option α} {f : α → β} {r : β} (h : o.map f = some r) : ∃ x, o = some x ∧ f x = r := by
  cases o with
  | none => cases h
  | some x => exact ⟨x, rfl, Option.some.inj h⟩
theorem sI_inv {h h' : Hp} {kk a : Nat} {j x : Int32} (e : sI h kk a j x = some h') : kd h a = kk ∧ a < 1000000 ∧ vp_in j (iA h a).length ∧ j.toNatClampNeg < (iA h a).length ∧ h' = sIA h a ((iA h a).set j.toNatClampNeg x) := by
  unfold sI at e
  by_cases hc : kd h a = kk ∧ a < 1000000
  · rw [if_pos hc] at e
    obtain ⟨i, hi, e⟩ := om_s e
    obtain ⟨h1, rfl, h3⟩ := ix_s hi
    exact ⟨hc.1, hc.2, h1, h3, e.symm⟩
  · rw [if_neg hc] at e; cases e
theorem sL_inv {h h' : Hp} {a : Nat} {j : Int32} {x : Int64} (e : sL h a j x = some h') : kd h a = 102 ∧ a < 1000000 ∧ vp_in j (lA h a).length ∧ j.toNatClampNeg < (lA h a).length ∧ h' = sLA h a ((lA h a).set j.toNatClampNeg x) := by
  unfold sL at e
  by_cases hc : kd h a = 102 ∧ a < 1000000
  · rw [if_pos hc] at e
    obtain ⟨i, hi, e⟩ := om_s e
    obtain ⟨h1, rfl, h3⟩ := ix_s hi
    exact ⟨hc.1, hc.2, h1, h3, e.symm⟩
  · rw [if_neg hc] at e; cases e
theorem cpI_inv {h h' : Hp} {a b : Nat} {sp dp n : Int32} (e : cpI h a sp b dp n = some h') : kd h a = 100 ∧ kd h b = 100 ∧ a < 1000000 ∧ b < 1000000 ∧ ¬ sp < 0 ∧ ¬ dp < 0 ∧ ¬ n < 0 ∧ sp.toNatClampNeg + n.toNatClampNeg ≤ (iA h a).length ∧ dp.toNatClampNeg + n.toNatClampNeg ≤ (iA h b).length ∧ h' = sIA h b (cpy (iA h a) (iA h b) sp.toNatClampNeg dp.toNatClampNeg n.toNatClampNeg) := by
  unfold cpI at e
  split at e
  next hc =>
    obtain ⟨h1, h2, h3, h4, h5, h6, h7, h8, h9⟩ := hc
    exact ⟨h1, h2, h3, h4, h5, h6, h7, h8, h9, (Option.some.inj e).symm⟩
  next => cases e
theorem iA_sIA (h : Hp) (a : Nat) (x : List Int32) : iA (sIA h a x) a = x := by simp [sIA, iA, up1]
theorem lA_sLA (h : Hp) (a : Nat) (x : List Int64) : lA (sLA h a x) a = x := by simp [sLA, lA, up1]
theorem kd_sIA (h : Hp) (a : Nat) (x : List Int32) : kd (sIA h a x) = kd h := rfl
theorem kd_sLA (h : Hp) (a : Nat) (x : List Int64) : kd (sLA h a x) = kd h := rfl
/-! the classes' words -/
theorem u_good (C : String) (T : u_T) (k : Nat) : goodWord (u_lay C T k) = true := by
  unfold u_lay
  split <;> rfl
theorem u_tw {C : String} {T : u_T} {N : Nat} (h : ∀ w ∈ u_ws C T N, w ∈ lw_tbl) : ∀ w ∈ u_ws C T N, w ∈ tw := by
  intro w hw
  refine List.mem_filter.mpr ⟨h w hw, ?_⟩
  unfold u_ws at hw
  obtain ⟨k, -, rfl⟩ := List.mem_map.mp hw
  exact u_good C T k
def Vk (ci : Nat) (r : vw_C) : Prop := (∀ w ∈ u_ws r.1 r.2.1 r.2.2, w ∈ tw) ∧ (∀ a, a < r.2.2 → ∀ b, b < r.2.2 → a ≠ b → (r.2.1 a).2.1 ≠ (r.2.1 b).2.1) ∧ ∃ ty : Nat → FieldType, (∀ k, k < r.2.2 → parseFieldDescriptor (r.2.1 k).2.2.1 = some (ty k)) ∧ cty[ci]? = some ((List.range r.2.2).map ty)
theorem vk_0 : Vk 0 (RX0, TX0, 1) := ⟨u_tw inX0, nmX0, tyX0, tyX0_ok, rfl⟩
theorem vk_1 : Vk 1 (RX1, TX1, 7) := ⟨u_tw inX1, nmX1, tyX1, tyX1_ok, rfl⟩
theorem vk_2 : Vk 2 (RX2, TX2, 4) := ⟨u_tw inX2, nmX2, tyX2, tyX2_ok, rfl⟩
theorem vk_3 : Vk 3 (RX3, TX3, 5) := ⟨u_tw inX3, nmX3, tyX3, tyX3_ok, rfl⟩
theorem vk_4 : Vk 4 (RX4, TX4, 5) := ⟨u_tw inX4, nmX4, tyX4, tyX4_ok, rfl⟩
theorem vk_5 : Vk 5 (RX5, TX5, 9) := ⟨u_tw inX5, nmX5, tyX5, tyX5_ok, rfl⟩
theorem vk_6 : Vk 6 (RX6, TX6, 4) := ⟨u_tw inX6, nmX6, tyX6, tyX6_ok, rfl⟩
theorem vk_7 : Vk 7 (RX7, TX7, 10) := ⟨u_tw inX7, nmX7, tyX7, tyX7_ok, rfl⟩
theorem vk_8 : Vk 8 (RX8, TX8, 5) := ⟨u_tw inX8, nmX8, tyX8, tyX8_ok, rfl⟩
theorem vk_9 : Vk 9 (RX9, TX9, 7) := ⟨u_tw inX9, nmX9, tyX9, tyX9_ok, rfl⟩
theorem vk_10 : Vk 10 (RX10, TX10, 19) := ⟨u_tw inX10, nmX10, tyX10, tyX10_ok, rfl⟩
theorem vk_11 : Vk 11 (RX11, TX11, 13) := ⟨u_tw inX11, nmX11, tyX11, tyX11_ok, rfl⟩
theorem vk_12 : Vk 12 (RX12, TX12, 30) := ⟨u_tw inX12, nmX12, tyX12, tyX12_ok, rfl⟩
theorem vk_13 : Vk 13 (RX13, TX13, 37) := ⟨u_tw inX13, nmX13, tyX13, tyX13_ok, rfl⟩
theorem vk_all {ci : Nat} {r : vw_C} (h : vwCl[ci]? = some r) : ci < 14 ∧ Vk ci r := by
  match ci, h with
  | 0, h => cases h; exact ⟨by decide, vk_0⟩
  | 1, h => cases h; exact ⟨by decide, vk_1⟩
  | 2, h => cases h; exact ⟨by decide, vk_2⟩
  | 3, h => cases h; exact ⟨by decide, vk_3⟩
  | 4, h => cases h; exact ⟨by decide, vk_4⟩
  | 5, h => cases h; exact ⟨by decide, vk_5⟩
  | 6, h => cases h; exact ⟨by decide, vk_6⟩
  | 7, h => cases h; exact ⟨by decide, vk_7⟩
  | 8, h => cases h; exact ⟨by decide, vk_8⟩
  | 9, h => cases h; exact ⟨by decide, vk_9⟩
  | 10, h => cases h; exact ⟨by decide, vk_10⟩
  | 11, h => cases h; exact ⟨by decide, vk_11⟩
  | 12, h => cases h; exact ⟨by decide, vk_12⟩
  | 13, h => cases h; exact ⟨by decide, vk_13⟩
  | n + 14, h => cases h
theorem cty_ftk {ci : Nat} {r : vw_C} {ty : Nat → FieldType} {k : Nat} (h50 : ¬ ci = 50) (h : cty[ci]? = some ((List.range r.2.2).map ty)) (hk : k < r.2.2) : ftk ci k = tk (ty k) := by
  unfold ftk
  rw [if_neg h50, h]
  simp [hk]
