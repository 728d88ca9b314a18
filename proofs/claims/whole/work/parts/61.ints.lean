/-! ints as whole numbers: J z is the int of z; K z the long -/
def J (z : Int) : Int32 := Int32.ofInt z
def K (z : Int) : Int64 := Int64.ofInt z
theorem J_of (x : Int32) : J x.toInt = x := Int32.ofInt_toInt x
theorem K_of (x : Int64) : K x.toInt = x := Int64.ofInt_toInt x
theorem J_to {z : Int} (h1 : -2147483648 ≤ z) (h2 : z < 2147483648) : (J z).toInt = z := Int32.toInt_ofInt_of_le h1 h2
theorem K_to {z : Int} (h1 : -9223372036854775808 ≤ z) (h2 : z < 9223372036854775808) : (K z).toInt = z := Int64.toInt_ofInt_of_le h1 h2
theorem J_rg (x : Int32) : -2147483648 ≤ x.toInt ∧ x.toInt < 2147483648 := ⟨Int32.le_toInt x, Int32.toInt_lt x⟩
theorem K_rg (x : Int64) : -9223372036854775808 ≤ x.toInt ∧ x.toInt < 9223372036854775808 := ⟨Int64.le_toInt x, Int64.toInt_lt x⟩
theorem J_add (a b : Int) : J a + J b = J (a + b) := (Int32.ofInt_add a b).symm
theorem J_sub (a b : Int) : J a - J b = J (a - b) := (Int32.ofInt_sub a b).symm
theorem J_mul (a b : Int) : J a * J b = J (a * b) := (Int32.ofInt_mul a b).symm
theorem J_neg (a : Int) : -J a = J (-a) := (Int32.ofInt_neg a).symm
theorem K_add (a b : Int) : K a + K b = K (a + b) := (Int64.ofInt_add a b).symm
theorem K_sub (a b : Int) : K a - K b = K (a - b) := (Int64.ofInt_sub a b).symm
theorem K_mul (a b : Int) : K a * K b = K (a * b) := (Int64.ofInt_mul a b).symm
theorem J_lt {a b : Int} (h1 : -2147483648 ≤ a) (h2 : a < 2147483648) (h3 : -2147483648 ≤ b) (h4 : b < 2147483648) : (J a < J b) = (a < b) := by
  rw [Int32.lt_iff_toInt_lt, J_to h1 h2, J_to h3 h4]
theorem J_le {a b : Int} (h1 : -2147483648 ≤ a) (h2 : a < 2147483648) (h3 : -2147483648 ≤ b) (h4 : b < 2147483648) : (J a ≤ J b) = (a ≤ b) := by
  rw [Int32.le_iff_toInt_le, J_to h1 h2, J_to h3 h4]
theorem J_eq {a b : Int} (h1 : -2147483648 ≤ a) (h2 : a < 2147483648) (h3 : -2147483648 ≤ b) (h4 : b < 2147483648) : (J a = J b) = (a = b) := by
  rw [← Int32.toInt_inj, J_to h1 h2, J_to h3 h4]
theorem K_lt {a b : Int} (h1 : -9223372036854775808 ≤ a) (h2 : a < 9223372036854775808) (h3 : -9223372036854775808 ≤ b) (h4 : b < 9223372036854775808) : (K a < K b) = (a < b) := by
  rw [Int64.lt_iff_toInt_lt, K_to h1 h2, K_to h3 h4]
theorem K_le {a b : Int} (h1 : -9223372036854775808 ≤ a) (h2 : a < 9223372036854775808) (h3 : -9223372036854775808 ≤ b) (h4 : b < 9223372036854775808) : (K a ≤ K b) = (a ≤ b) := by
  rw [Int64.le_iff_toInt_le, K_to h1 h2, K_to h3 h4]
theorem K_eq {a b : Int} (h1 : -9223372036854775808 ≤ a) (h2 : a < 9223372036854775808) (h3 : -9223372036854775808 ≤ b) (h4 : b < 9223372036854775808) : (K a = K b) = (a = b) := by
  rw [← Int64.toInt_inj, K_to h1 h2, K_to h3 h4]
theorem J_div {a b : Int} (h1 : -2147483648 ≤ a) (h2 : a < 2147483648) (h3 : 0 < b) (h4 : b < 2147483648) : J a / J b = J (a.tdiv b) := by
  have hb : J b ≠ -1 := by
    intro h
    have h' : (J b).toInt = (-1 : Int32).toInt := by rw [h]
    rw [J_to (by omega) h4] at h'
    have e : (-1 : Int32).toInt = -1 := by decide
    omega
  rw [← J_of (J a / J b), Int32.toInt_div_of_ne_right _ _ hb, J_to h1 h2, J_to (by omega) h4]
theorem K_div {a b : Int} (h1 : -9223372036854775808 ≤ a) (h2 : a < 9223372036854775808) (h3 : 0 < b) (h4 : b < 9223372036854775808) : K a / K b = K (a.tdiv b) := by
  have hb : K b ≠ -1 := by
    intro h
    have h' : (K b).toInt = (-1 : Int64).toInt := by rw [h]
    rw [K_to (by omega) h4] at h'
    have e : (-1 : Int64).toInt = -1 := by decide
    omega
  rw [← K_of (K a / K b), Int64.toInt_div_of_ne_right _ _ hb, K_to h1 h2, K_to (by omega) h4]
theorem dv_J {a b : Int} (h1 : -2147483648 ≤ a) (h2 : a < 2147483648) (h3 : 0 < b) (h4 : b < 2147483648) : dv (J a) (J b) = some (J (a.tdiv b)) := by
  have hb : ¬ J b = 0 := by
    show ¬ J b = J 0
    rw [J_eq (by omega) h4 (by omega) (by omega)]; omega
  unfold dv
  rw [if_neg hb, J_div h1 h2 h3 h4]
theorem rm_J {a b : Int} (h1 : -2147483648 ≤ a) (h2 : a < 2147483648) (h3 : 0 < b) (h4 : b < 2147483648) : rm32 (J a) (J b) = some (J (a.tmod b)) := by
  have hb : ¬ J b = 0 := by
    show ¬ J b = J 0
    rw [J_eq (by omega) h4 (by omega) (by omega)]; omega
  unfold rm32
  rw [if_neg hb, J_div h1 h2 h3 h4, J_mul, J_sub]
  congr 2
  have := Int.mul_tdiv_add_tmod a b
  rw [Int.mul_comm b] at this
  omega
theorem dv_K {a b : Int} (h1 : -9223372036854775808 ≤ a) (h2 : a < 9223372036854775808) (h3 : 0 < b) (h4 : b < 9223372036854775808) : dv64 (K a) (K b) = some (K (a.tdiv b)) := by
  have hb : ¬ K b = 0 := by
    show ¬ K b = K 0
    rw [K_eq (by omega) h4 (by omega) (by omega)]; omega
  unfold dv64
  rw [if_neg hb, K_div h1 h2 h3 h4]
theorem rm_K {a b : Int} (h1 : -9223372036854775808 ≤ a) (h2 : a < 9223372036854775808) (h3 : 0 < b) (h4 : b < 9223372036854775808) : rm64 (K a) (K b) = some (K (a.tmod b)) := by
  have hb : ¬ K b = 0 := by
    show ¬ K b = K 0
    rw [K_eq (by omega) h4 (by omega) (by omega)]; omega
  unfold rm64
  rw [if_neg hb, K_div h1 h2 h3 h4, K_mul, K_sub]
  congr 2
  have := Int.mul_tdiv_add_tmod a b
  rw [Int.mul_comm b] at this
  omega
theorem J_long {a : Int} (h1 : -2147483648 ≤ a) (h2 : a < 2147483648) : (J a).toInt64 = K a := by
  rw [← K_of (J a).toInt64, Int32.toInt_toInt64, J_to h1 h2]
/-! sets of at most five as bits -/
theorem bit_J : ∀ n, n < 32 → ∀ k, k < 5 → ((J (n : Nat) >>> (J (k : Nat) &&& 31)) &&& 1) = J (if n.testBit k then 1 else 0) := by decide +kernel
theorem shl_J : ∀ k, k < 5 → (J 1 <<< (J (k : Nat) &&& 31)) = J ((2 ^ k : Nat) : Int) := by decide +kernel
theorem or_J : ∀ n, n < 32 → ∀ m, m < 32 → (J (n : Nat) ||| J (m : Nat)) = J ((n ||| m : Nat) : Int) := by decide +kernel
theorem and_J : ∀ n, n < 32 → ∀ m, m < 32 → (J (n : Nat) &&& J (m : Nat)) = J ((n &&& m : Nat) : Int) := by decide +kernel
def pc5 (n : Nat) : Nat := (if n.testBit 0 then 1 else 0) + (if n.testBit 1 then 1 else 0) + (if n.testBit 2 then 1 else 0) + (if n.testBit 3 then 1 else 0) + (if n.testBit 4 then 1 else 0)
theorem bc_J : ∀ n, n < 32 → F_in_bitCount (J (n : Nat)) = some (J (pc5 n : Nat)) := by decide +kernel
/-! loops that count -/
theorem lq_run {σ ρ : Type} {b : σ → Option (σ ⊕ ρ)} {Q : ρ → Prop} (I : Nat → σ → Prop) (n : Nat) (h1 : ∀ i s, i < n → I i s → Ok (b s) (fun q => ei q (fun s' => I (i + 1) s') Q)) (h2 : ∀ s, I n s → Ok (b s) (fun q => ei q (fun _ => False) Q)) {f : Nat} {s : σ} (hf : n < f) (h0 : I 0 s) : Ok (lq b f s) Q := by
  have key : ∀ (m i : Nat) (f : Nat) (s : σ), i + m = n → m < f → I i s → Ok (lq b f s) Q := by
    intro m
    induction m with
    | zero =>
      intro i f s hi hf hI
      obtain ⟨f, rfl⟩ : ∃ g, f = g + 1 := ⟨f - 1, by omega⟩
      have hI : I n s := by have : i = n := by omega
                            rw [← this]; exact hI
      obtain ⟨y, e, hq⟩ := h2 s hI
      unfold lq
      rw [e]
      cases y with
      | inl s' => exact False.elim hq
      | inr x => exact ⟨x, rfl, hq⟩
    | succ m ih =>
      intro i f s hi hf hI
      obtain ⟨f, rfl⟩ : ∃ g, f = g + 1 := ⟨f - 1, by omega⟩
      obtain ⟨y, e, hq⟩ := h1 i s (by omega) hI
      unfold lq
      rw [e]
      cases y with
      | inl s' => exact ih (i + 1) f s' (by omega) (by omega) hq
      | inr x => exact ⟨x, rfl, hq⟩
  exact key n 0 f s (by omega) hf h0
theorem lp_run {σ ρ : Type} {b : σ → Hp → Option ((σ ⊕ ρ) × Hp)} {Q : ρ → Hp → Prop} (I : Nat → σ → Hp → Prop) (n : Nat) (h1 : ∀ i s h, i < n → I i s h → Ok (b s h) (fun q => ei q.1 (fun s' => I (i + 1) s' q.2) (fun r => Q r q.2))) (h2 : ∀ s h, I n s h → Ok (b s h) (fun q => ei q.1 (fun _ => False) (fun r => Q r q.2))) {f : Nat} {s : σ} {h : Hp} (hf : n < f) (h0 : I 0 s h) : Ok (lp b f s h) (fun q => Q q.1 q.2) := by
  have key : ∀ (m i : Nat) (f : Nat) (s : σ) (h : Hp), i + m = n → m < f → I i s h → Ok (lp b f s h) (fun q => Q q.1 q.2) := by
    intro m
    induction m with
    | zero =>
      intro i f s h hi hf hI
      obtain ⟨f, rfl⟩ : ∃ g, f = g + 1 := ⟨f - 1, by omega⟩
      have hI : I n s h := by have : i = n := by omega
                              rw [← this]; exact hI
      obtain ⟨⟨y, h'⟩, e, hq⟩ := h2 s h hI
      unfold lp
      rw [e]
      cases y with
      | inl s' => exact False.elim hq
      | inr x => exact ⟨(x, h'), rfl, hq⟩
    | succ m ih =>
      intro i f s h hi hf hI
      obtain ⟨f, rfl⟩ : ∃ g, f = g + 1 := ⟨f - 1, by omega⟩
      obtain ⟨⟨y, h'⟩, e, hq⟩ := h1 i s h (by omega) hI
      unfold lp
      rw [e]
      cases y with
      | inl s' => exact ih (i + 1) f s' h' (by omega) (by omega) hq
      | inr x => exact ⟨(x, h'), rfl, hq⟩
  exact key n 0 f s h (by omega) hf h0
/-! sums -/
def sm (n : Nat) (f : Nat → Int) : Int := match n with
  | 0 => 0
  | n + 1 => sm n f + f n
theorem sm_e {n : Nat} {f g : Nat → Int} (h : ∀ i, i < n → f i = g i) : sm n f = sm n g := by
  induction n with
  | zero => rfl
  | succ n ih => show sm n f + f n = sm n g + g n; rw [ih (fun i hi => h i (by omega)), h n (by omega)]
theorem sm_b {n : Nat} {f : Nat → Int} {a b : Int} (h : ∀ i, i < n → a ≤ f i ∧ f i ≤ b) : n * a ≤ sm n f ∧ sm n f ≤ n * b := by
  induction n with
  | zero => unfold sm; omega
  | succ n ih =>
    have h1 := ih (fun i hi => h i (by omega))
    have h2 := h n (by omega)
    have e1 : ((n + 1 : Nat) : Int) * a = n * a + a := by rw [Int.natCast_add, Int.add_mul]; omega
    have e2 : ((n + 1 : Nat) : Int) * b = n * b + b := by rw [Int.natCast_add, Int.add_mul]; omega
    unfold sm
    omega
