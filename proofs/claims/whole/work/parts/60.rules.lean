/-! rules for the small programs: they answer, and with what -/
def Ok {α : Type} (o : Option α) (Q : α → Prop) : Prop := ∃ x, o = some x ∧ Q x
theorem ok_some {α : Type} {x : α} {Q : α → Prop} (h : Q x) : Ok (some x) Q := ⟨x, rfl, h⟩
theorem ok_mono {α : Type} {o : Option α} {Q R : α → Prop} (h : Ok o Q) (hm : ∀ x, Q x → R x) : Ok o R := by
  obtain ⟨x, h1, h2⟩ := h
  exact ⟨x, h1, hm x h2⟩
theorem ok_bn {α β : Type} {o : Option α} {f : α → Option β} {Q : α → Prop} {R : β → Prop} (h : Ok o Q) (hf : ∀ x, Q x → Ok (f x) R) : Ok (bn o f) R := by
  obtain ⟨x, rfl, h2⟩ := h
  exact hf x h2
theorem ok_bd {α β : Type} {o : Option (α × Hp)} {f : α → Hp → Option β} {Q : α × Hp → Prop} {R : β → Prop} (h : Ok o Q) (hf : ∀ x h', Q (x, h') → Ok (f x h') R) : Ok (bd o f) R := by
  obtain ⟨⟨x, h'⟩, rfl, h2⟩ := h
  exact hf x h' h2
theorem bn_e {α β : Type} {o : Option α} {f : α → Option β} {x : α} (h : o = some x) : bn o f = f x := by subst h; rfl
theorem bd_e {α β : Type} {o : Option (α × Hp)} {f : α → Hp → Option β} {x : α} {h' : Hp} (h : o = some (x, h')) : bd o f = f x h' := by subst h; rfl
theorem ck_e {β : Type} {h : Hp} {a ci : Nat} {o : Option β} (hk : kd h a = ci) : ck h a ci o = o := by unfold ck; rw [if_pos hk]
theorem ok_if {α : Type} {c : Prop} [Decidable c] {o p : Option α} {Q : α → Prop} (h1 : c → Ok o Q) (h2 : ¬ c → Ok p Q) : Ok (if c then o else p) Q := by
  by_cases hc : c
  · rw [if_pos hc]; exact h1 hc
  · rw [if_neg hc]; exact h2 hc
/-- a loop answers: an invariant, a measure below the rounds -/
theorem ok_lp {σ ρ : Type} {b : σ → Hp → Option ((σ ⊕ ρ) × Hp)} (I : σ → Hp → Prop) (mu : σ → Hp → Nat) (Q : ρ → Hp → Prop) (hb : ∀ s h, I s h → Ok (b s h) (fun q => ei q.1 (fun s' => I s' q.2 ∧ mu s' q.2 < mu s h) (fun x => Q x q.2))) : ∀ (n : Nat) (s : σ) (h : Hp), I s h → mu s h < n → Ok (lp b n s h) (fun q => Q q.1 q.2) := by
  intro n
  induction n with
  | zero => intro s h _ hm; omega
  | succ n ih =>
    intro s h hI hm
    obtain ⟨⟨y, h'⟩, e, hq⟩ := hb s h hI
    unfold lp
    rw [e]
    cases y with
    | inl s' =>
      replace hq : I s' h' ∧ mu s' h' < mu s h := hq
      exact ih s' h' hq.1 (by omega)
    | inr x => exact ⟨(x, h'), rfl, hq⟩
theorem ok_lq {σ ρ : Type} {b : σ → Option (σ ⊕ ρ)} (I : σ → Prop) (mu : σ → Nat) (Q : ρ → Prop) (hb : ∀ s, I s → Ok (b s) (fun q => ei q (fun s' => I s' ∧ mu s' < mu s) Q)) : ∀ (n : Nat) (s : σ), I s → mu s < n → Ok (lq b n s) Q := by
  intro n
  induction n with
  | zero => intro s _ hm; omega
  | succ n ih =>
    intro s hI hm
    obtain ⟨y, e, hq⟩ := hb s hI
    unfold lq
    rw [e]
    cases y with
    | inl s' =>
      replace hq : I s' ∧ mu s' < mu s := hq
      exact ih s' hq.1 (by omega)
    | inr x => exact ⟨x, rfl, hq⟩
/-! reads and writes -/
theorem gI_e {h : Hp} {a ci k : Nat} (hk : kd h a = ci) : gI h a ci k = some (fI h a k) := by unfold gI; rw [if_pos hk]
theorem gL_e {h : Hp} {a ci k : Nat} (hk : kd h a = ci) : gL h a ci k = some (fL h a k) := by unfold gL; rw [if_pos hk]
theorem gR_e {h : Hp} {a ci k x : Nat} (hk : kd h a = ci) (hx : fR h a k = some x) : gR h a ci k = some x := by unfold gR; rw [if_pos hk]; exact hx
theorem pI_e {h : Hp} {a ci k : Nat} {v : Int32} (hk : kd h a = ci) : pI h a ci k v = some (sFI h a k v) := by unfold pI; rw [if_pos hk]
theorem pL_e {h : Hp} {a ci k : Nat} {v : Int64} (hk : kd h a = ci) : pL h a ci k v = some (sFL h a k v) := by unfold pL; rw [if_pos hk]
theorem pR_e {h : Hp} {a ci k : Nat} {v : Option Nat} (hk : kd h a = ci) : pR h a ci k v = some (sFR h a k v) := by unfold pR; rw [if_pos hk]
theorem pZ_e {h : Hp} {a ci k : Nat} {v : Int32} (hk : kd h a = ci) (hv : isB v = true) : pZ h a ci k v = some (sFI h a k v) := by unfold pZ; rw [if_pos ⟨hk, hv⟩]
theorem ix_e {j : Int32} {n i : Nat} (hj : j.toInt = i) (hi : i < n) : ix j n = some i := by
  have h1 : ¬ j < 0 := by
    rw [Int32.lt_iff_toInt_lt, hj]
    exact Int.not_lt.mpr (Int.natCast_nonneg i)
  have h2 : j.toNatClampNeg = i := by
    show j.toInt.toNat = i
    rw [hj]; rfl
  unfold ix
  rw [if_neg h1, h2, if_pos hi]
theorem aI_e {h : Hp} {kk a i : Nat} {j : Int32} (hk : kd h a = kk) (hj : j.toInt = i) (hi : i < (iA h a).length) : aI h kk a j = some ((iA h a)[i]'hi) := by
  unfold aI
  rw [if_pos hk, ix_e hj hi]
  exact List.getElem?_eq_getElem hi
theorem aL_e {h : Hp} {a i : Nat} {j : Int32} (hk : kd h a = 102) (hj : j.toInt = i) (hi : i < (lA h a).length) : aL h a j = some ((lA h a)[i]'hi) := by
  unfold aL
  rw [if_pos hk, ix_e hj hi]
  exact List.getElem?_eq_getElem hi
theorem sI_e {h : Hp} {kk a i : Nat} {j v : Int32} (hk : kd h a = kk) (ha : a < 1000000) (hj : j.toInt = i) (hi : i < (iA h a).length) : sI h kk a j v = some (sIA h a ((iA h a).set i v)) := by
  unfold sI
  rw [if_pos ⟨hk, ha⟩, ix_e hj hi]
  rfl
theorem sL_e {h : Hp} {a i : Nat} {j : Int32} {v : Int64} (hk : kd h a = 102) (ha : a < 1000000) (hj : j.toInt = i) (hi : i < (lA h a).length) : sL h a j v = some (sLA h a ((lA h a).set i v)) := by
  unfold sL
  rw [if_pos ⟨hk, ha⟩, ix_e hj hi]
  rfl
theorem fI_sFI (h : Hp) (a k b j : Nat) (v : Int32) : fI (sFI h a k v) b j = if b = a ∧ j = k then v else fI h b j := rfl
theorem fL_sFL (h : Hp) (a k b j : Nat) (v : Int64) : fL (sFL h a k v) b j = if b = a ∧ j = k then v else fL h b j := rfl
theorem fR_sFR (h : Hp) (a k b j : Nat) (v : Option Nat) : fR (sFR h a k v) b j = if b = a ∧ j = k then v else fR h b j := rfl
theorem iA_at (h : Hp) (a b : Nat) (v : List Int32) : iA (sIA h a v) b = if b = a then v else iA h b := rfl
theorem lA_at (h : Hp) (a b : Nat) (v : List Int64) : lA (sLA h a v) b = if b = a then v else lA h b := rfl
