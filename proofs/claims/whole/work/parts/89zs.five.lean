/-! five different numbers below five leave none over -/
theorem five_d : ∀ a : Fin 5, ∀ b : Fin 5, a ≠ b → ∀ c : Fin 5, c ≠ a → c ≠ b → ∀ d : Fin 5, d ≠ a → d ≠ b → d ≠ c → ∀ e : Fin 5, e ≠ a → e ≠ b → e ≠ c → e ≠ d → ∀ x : Fin 5, x = a ∨ x = b ∨ x = c ∨ x = d ∨ x = e := by decide +kernel
theorem five_e {f : Int → Int} {x : Int} (hf : ∀ i, 0 ≤ i → i < 5 → 0 ≤ f i ∧ f i < 5) (hd : ∀ i j, 0 ≤ i → i < j → j < 5 → ¬ f j = f i) (hx : 0 ≤ x ∧ x < 5) : ∃ i, 0 ≤ i ∧ i < 5 ∧ f i = x := by
  have g : ∀ y : Int, 0 ≤ y → y < 5 → ∃ a : Fin 5, (a.val : Int) = y := fun y y0 y1 => ⟨⟨y.toNat, by omega⟩, by show ((y.toNat : Nat) : Int) = y; omega⟩
  have ne : ∀ (a b : Fin 5) (y z : Int), (a.val : Int) = y → (b.val : Int) = z → ¬ y = z → a ≠ b := fun a b y z h1 h2 h3 e => h3 (by rw [← h1, ← h2, e])
  obtain ⟨a, ha⟩ := g (f 0) (hf 0 (by omega) (by omega)).1 (hf 0 (by omega) (by omega)).2
  obtain ⟨b, hb⟩ := g (f 1) (hf 1 (by omega) (by omega)).1 (hf 1 (by omega) (by omega)).2
  obtain ⟨c, hc⟩ := g (f 2) (hf 2 (by omega) (by omega)).1 (hf 2 (by omega) (by omega)).2
  obtain ⟨d, hd'⟩ := g (f 3) (hf 3 (by omega) (by omega)).1 (hf 3 (by omega) (by omega)).2
  obtain ⟨e, he⟩ := g (f 4) (hf 4 (by omega) (by omega)).1 (hf 4 (by omega) (by omega)).2
  obtain ⟨y, hy⟩ := g x hx.1 hx.2
  have k := five_d a b (Ne.symm (ne _ _ _ _ hb ha (hd 0 1 (by omega) (by omega) (by omega)))) c (ne _ _ _ _ hc ha (hd 0 2 (by omega) (by omega) (by omega))) (ne _ _ _ _ hc hb (hd 1 2 (by omega) (by omega) (by omega))) d (ne _ _ _ _ hd' ha (hd 0 3 (by omega) (by omega) (by omega))) (ne _ _ _ _ hd' hb (hd 1 3 (by omega) (by omega) (by omega))) (ne _ _ _ _ hd' hc (hd 2 3 (by omega) (by omega) (by omega))) e (ne _ _ _ _ he ha (hd 0 4 (by omega) (by omega) (by omega))) (ne _ _ _ _ he hb (hd 1 4 (by omega) (by omega) (by omega))) (ne _ _ _ _ he hc (hd 2 4 (by omega) (by omega) (by omega))) (ne _ _ _ _ he hd' (hd 3 4 (by omega) (by omega) (by omega))) y
  rcases k with k | k | k | k | k
  · exact ⟨0, by omega, by omega, by rw [← ha, ← hy, k]⟩
  · exact ⟨1, by omega, by omega, by rw [← hb, ← hy, k]⟩
  · exact ⟨2, by omega, by omega, by rw [← hc, ← hy, k]⟩
  · exact ⟨3, by omega, by omega, by rw [← hd', ← hy, k]⟩
  · exact ⟨4, by omega, by omega, by rw [← he, ← hy, k]⟩
