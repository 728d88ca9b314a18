/-! numbers of the code -/
theorem j_0 : (0 : Int32) = J 0 := by decide +kernel
theorem j_1 : (1 : Int32) = J 1 := by decide +kernel
theorem j_2 : (2 : Int32) = J 2 := by decide +kernel
theorem j_3 : (3 : Int32) = J 3 := by decide +kernel
theorem j_4 : (4 : Int32) = J 4 := by decide +kernel
theorem j_5 : (5 : Int32) = J 5 := by decide +kernel
theorem j_6 : (6 : Int32) = J 6 := by decide +kernel
theorem j_7 : (7 : Int32) = J 7 := by decide +kernel
theorem j_8 : (8 : Int32) = J 8 := by decide +kernel
theorem j_9 : (9 : Int32) = J 9 := by decide +kernel
theorem j_10 : (10 : Int32) = J 10 := by decide +kernel
theorem j_11 : (11 : Int32) = J 11 := by decide +kernel
theorem j_12 : (12 : Int32) = J 12 := by decide +kernel
theorem j_13 : (13 : Int32) = J 13 := by decide +kernel
theorem j_14 : (14 : Int32) = J 14 := by decide +kernel
theorem j_15 : (15 : Int32) = J 15 := by decide +kernel
theorem j_16 : (16 : Int32) = J 16 := by decide +kernel
theorem j_17 : (17 : Int32) = J 17 := by decide +kernel
theorem j_18 : (18 : Int32) = J 18 := by decide +kernel
theorem j_19 : (19 : Int32) = J 19 := by decide +kernel
theorem j_20 : (20 : Int32) = J 20 := by decide +kernel
theorem j_21 : (21 : Int32) = J 21 := by decide +kernel
theorem j_22 : (22 : Int32) = J 22 := by decide +kernel
theorem j_23 : (23 : Int32) = J 23 := by decide +kernel
theorem j_24 : (24 : Int32) = J 24 := by decide +kernel
theorem j_25 : (25 : Int32) = J 25 := by decide +kernel
theorem j_26 : (26 : Int32) = J 26 := by decide +kernel
theorem j_27 : (27 : Int32) = J 27 := by decide +kernel
theorem j_28 : (28 : Int32) = J 28 := by decide +kernel
theorem j_29 : (29 : Int32) = J 29 := by decide +kernel
theorem j_30 : (30 : Int32) = J 30 := by decide +kernel
theorem j_31 : (31 : Int32) = J 31 := by decide +kernel
theorem j_32 : (32 : Int32) = J 32 := by decide +kernel
theorem j_33 : (33 : Int32) = J 33 := by decide +kernel
theorem j_34 : (34 : Int32) = J 34 := by decide +kernel
theorem j_35 : (35 : Int32) = J 35 := by decide +kernel
theorem j_36 : (36 : Int32) = J 36 := by decide +kernel
theorem j_37 : (37 : Int32) = J 37 := by decide +kernel
theorem j_38 : (38 : Int32) = J 38 := by decide +kernel
theorem j_39 : (39 : Int32) = J 39 := by decide +kernel
theorem j_40 : (40 : Int32) = J 40 := by decide +kernel
theorem j_41 : (41 : Int32) = J 41 := by decide +kernel
theorem j_42 : (42 : Int32) = J 42 := by decide +kernel
theorem j_43 : (43 : Int32) = J 43 := by decide +kernel
theorem j_44 : (44 : Int32) = J 44 := by decide +kernel
theorem j_45 : (45 : Int32) = J 45 := by decide +kernel
theorem j_46 : (46 : Int32) = J 46 := by decide +kernel
theorem j_47 : (47 : Int32) = J 47 := by decide +kernel
theorem j_48 : (48 : Int32) = J 48 := by decide +kernel
theorem j_49 : (49 : Int32) = J 49 := by decide +kernel
theorem j_50 : (50 : Int32) = J 50 := by decide +kernel
theorem j_51 : (51 : Int32) = J 51 := by decide +kernel
theorem j_52 : (52 : Int32) = J 52 := by decide +kernel
theorem j_57 : (57 : Int32) = J 57 := by decide +kernel
theorem j_59 : (59 : Int32) = J 59 := by decide +kernel
theorem j_63 : (63 : Int32) = J 63 := by decide +kernel
theorem j_74 : (74 : Int32) = J 74 := by decide +kernel
theorem j_75 : (75 : Int32) = J 75 := by decide +kernel
theorem j_93 : (93 : Int32) = J 93 := by decide +kernel
theorem j_97 : (97 : Int32) = J 97 := by decide +kernel
theorem j_99 : (99 : Int32) = J 99 := by decide +kernel
theorem j_100 : (100 : Int32) = J 100 := by decide +kernel
theorem j_122 : (122 : Int32) = J 122 := by decide +kernel
theorem j_200 : (200 : Int32) = J 200 := by decide +kernel
theorem j_255 : (255 : Int32) = J 255 := by decide +kernel
theorem j_300 : (300 : Int32) = J 300 := by decide +kernel
theorem j_465 : (465 : Int32) = J 465 := by decide +kernel
theorem j_496 : (496 : Int32) = J 496 := by decide +kernel
theorem j_900 : (900 : Int32) = J 900 := by decide +kernel
theorem j_999 : (999 : Int32) = J 999 := by decide +kernel
theorem j_1000 : (1000 : Int32) = J 1000 := by decide +kernel
theorem j_65536 : (65536 : Int32) = J 65536 := by decide +kernel
theorem j_65537 : (65537 : Int32) = J 65537 := by decide +kernel
theorem j_99999 : (99999 : Int32) = J 99999 := by decide +kernel
theorem j_252645135 : (252645135 : Int32) = J 252645135 := by decide +kernel
theorem j_858993459 : (858993459 : Int32) = J 858993459 := by decide +kernel
theorem j_1431655765 : (1431655765 : Int32) = J 1431655765 := by decide +kernel
theorem k_0 : (0 : Int64) = K 0 := by decide +kernel
theorem k_1 : (1 : Int64) = K 1 := by decide +kernel
theorem k_27 : (27 : Int64) = K 27 := by decide +kernel
theorem k_32 : (32 : Int64) = K 32 := by decide +kernel
theorem k_74 : (74 : Int64) = K 74 := by decide +kernel
theorem k_75 : (75 : Int64) = K 75 := by decide +kernel
theorem k_100 : (100 : Int64) = K 100 := by decide +kernel
theorem k_1000 : (1000 : Int64) = K 1000 := by decide +kernel
theorem k_65537 : (65537 : Int64) = K 65537 := by decide +kernel

theorem bn_s1 {α β : Type} {x : α} {f : α → Option β} : bn (some x) f = f x := bn_e rfl
theorem bd_s1 {α β : Type} {x : α} {h : Hp} {f : α → Hp → Option β} : bd (some (x, h)) f = f x h := bd_e rfl
theorem ei_l1 {α β γ : Type} {a : α} {f : α → γ} {g : β → γ} : ei (.inl a) f g = f a := id rfl
theorem ei_r1 {α β γ : Type} {a : β} {f : α → γ} {g : β → γ} : ei (.inr a) f g = g a := id rfl
theorem gR_J {h : Hp} {a ci k : Nat} (hk : kd h a = ci) : gR h a ci k = fR h a k := by unfold gR; rw [if_pos hk]
theorem kd_wA (h : Hp) (a : Nat) (z v : Int) : kd (wA h a z v) = kd h := rfl
theorem kd_wF (h : Hp) (a k : Nat) (v : Int) : kd (wF h a k v) = kd h := rfl
theorem fR_wA (h : Hp) (a : Nat) (z v : Int) : fR (wA h a z v) = fR h := rfl
theorem fR_wF (h : Hp) (a k : Nat) (v : Int) : fR (wF h a k v) = fR h := rfl
theorem J_c (n : Nat) : J ((n + 1 : Nat) : Int) = J ((n : Int) + 1) := rfl
theorem nJ0 : J ((0 : Nat) : Int) = (0 : Int32) := rfl
theorem lq_for {σ ρ : Type} {b : σ → Option (σ ⊕ ρ)} (I : Nat → σ) (n : Nat) {r : ρ} {f : Nat} {s : σ} (hf : n < f) (h0 : s = I 0) (h1 : ∀ i, i < n → b (I i) = some (.inl (I (i + 1)))) (h2 : b (I n) = some (.inr r)) : lq b f s = some r := by
  have key : ∀ (m i : Nat) (f : Nat), i + m = n → m < f → lq b f (I i) = some r := by
    intro m
    induction m with
    | zero =>
      intro i f hi hf
      obtain ⟨f, rfl⟩ : ∃ g, f = g + 1 := ⟨f - 1, by omega⟩
      have : i = n := by omega
      unfold lq
      rw [this, h2]
    | succ m ih =>
      intro i f hi hf
      obtain ⟨f, rfl⟩ : ∃ g, f = g + 1 := ⟨f - 1, by omega⟩
      unfold lq
      rw [h1 i (by omega)]
      exact ih (i + 1) f (by omega) (by omega)
  rw [h0]
  exact key n 0 f (by omega) hf
theorem lp_for {σ ρ : Type} {b : σ → Hp → Option ((σ ⊕ ρ) × Hp)} (I : Nat → σ → Hp → Prop) (Q : ρ → Hp → Prop) (n : Nat) {f : Nat} {s : σ} {h : Hp} (hf : n < f) (h0 : I 0 s h) (h1 : ∀ i s h, i < n → I i s h → ∃ s' h', b s h = some (.inl s', h') ∧ I (i + 1) s' h') (h2 : ∀ s h, I n s h → ∃ r h', b s h = some (.inr r, h') ∧ Q r h') : ∃ r h', lp b f s h = some (r, h') ∧ Q r h' := by
  have key : ∀ (m i : Nat) (f : Nat) (s : σ) (h : Hp), i + m = n → m < f → I i s h → ∃ r h', lp b f s h = some (r, h') ∧ Q r h' := by
    intro m
    induction m with
    | zero =>
      intro i f s h hi hf hI
      obtain ⟨f, rfl⟩ : ∃ g, f = g + 1 := ⟨f - 1, by omega⟩
      have hI : I n s h := by have : i = n := by omega
                              rw [← this]; exact hI
      obtain ⟨r, h', e, hq⟩ := h2 s h hI
      unfold lp
      rw [e]
      exact ⟨r, h', rfl, hq⟩
    | succ m ih =>
      intro i f s h hi hf hI
      obtain ⟨f, rfl⟩ : ∃ g, f = g + 1 := ⟨f - 1, by omega⟩
      obtain ⟨s', h', e, hq⟩ := h1 i s h (by omega) hI
      unfold lp
      rw [e]
      exact ih (i + 1) f s' h' (by omega) (by omega) hq
  exact key n 0 f s h (by omega) hf h0
theorem bitJ {n k : Nat} (hn : n < 32) (hk : k < 5) : (J n >>> (J k &&& J 31)) &&& J 1 = J (if n.testBit k = true then 1 else 0) := bit_J n hn k hk
theorem shlJ {k : Nat} (hk : k < 5) : J 1 <<< (J k &&& J 31) = J ((2 ^ k : Nat) : Int) := shl_J k hk
theorem orJ {n m : Nat} (hn : n < 32) (hm : m < 32) : J n ||| J m = J ((n ||| m : Nat) : Int) := or_J n hn m hm
theorem lp_fin {σ ρ : Type} {b : σ → Hp → Option ((σ ⊕ ρ) × Hp)} (I : Nat → σ) (n : Nat) {r : ρ} {f : Nat} {s : σ} {h h' : Hp} (hf : n < f) (h0 : s = I 0) (h1 : ∀ i, i < n → b (I i) h = some (.inl (I (i + 1)), h)) (h2 : b (I n) h = some (.inr r, h')) : lp b f s h = some (r, h') := by
  have key : ∀ (m i : Nat) (f : Nat), i + m = n → m < f → lp b f (I i) h = some (r, h') := by
    intro m
    induction m with
    | zero =>
      intro i f hi hf
      obtain ⟨f, rfl⟩ : ∃ g, f = g + 1 := ⟨f - 1, by omega⟩
      have : i = n := by omega
      unfold lp
      rw [this, h2]
    | succ m ih =>
      intro i f hi hf
      obtain ⟨f, rfl⟩ : ∃ g, f = g + 1 := ⟨f - 1, by omega⟩
      unfold lp
      rw [h1 i (by omega)]
      exact ih (i + 1) f (by omega) (by omega)
  rw [h0]
  exact key n 0 f (by omega) hf
