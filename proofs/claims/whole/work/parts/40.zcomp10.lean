theorem zdiv_rng {x y r : Int} (h : r = x / ((Int.gcd x y : Nat) : Int)) (hx : 0 ≤ x ∧ x ≤ 99) : 0 ≤ r ∧ r ≤ 99 := by
  have h1 := Int.ediv_nonneg hx.1 (show (0 : Int) ≤ ((Int.gcd x y : Nat) : Int) by omega)
  have h2 := Int.ediv_le_self ((Int.gcd x y : Nat) : Int) hx.1
  omega
theorem zFound_rng {W : Int → Prop} {r : Int} {ch : Int → Int} (h : zFound W r ch) : r = -9 ∨ (0 ≤ r ∧ r ≤ 3) := h.elim (fun q => Or.inl q.1) (fun q => Or.inr q.1)
def zBackP (W : Int → Prop) (k r : Int) : Prop := ((∀ y, 0 ≤ y → y < 1331 → ¬ W y) ∧ r = -9) ∨ ∃ R, zMinRow W R ∧ ((k = -1 ∧ r = zlen R) ∨ (k ≠ -1 ∧ zlen R ≤ k ∧ r = -9) ∨ ((0 ≤ k ∧ k < zlen R) ∧ ((k = 0 ∧ r = zda R) ∨ (k = 1 ∧ r = zdb R) ∨ (k = 2 ∧ r = zdc R))))
theorem zBack_size {W : Int → Prop} {k r : Int} {ch : Int → Int} (h : zFound W r ch) (hk : k = -1 ∨ r = -9) : zBackP W k r := by
  rcases h with ⟨h1, h2⟩ | ⟨h1, R, h2, h3, h4, h5, h6⟩
  · exact Or.inl ⟨h2, h1⟩
  · exact Or.inr ⟨R, h2, Or.inl ⟨by omega, h3.symm⟩⟩
theorem zBack_over {W : Int → Prop} {k r : Int} {ch : Int → Int} (h : zFound W r ch) (hk : k ≠ -1 ∧ r ≠ -9 ∧ r ≤ k) : zBackP W k (-9) := by
  rcases h with ⟨h1, h2⟩ | ⟨h1, R, h2, h3, h4, h5, h6⟩
  · exact absurd h1 hk.2.1
  · exact Or.inr ⟨R, h2, Or.inr (Or.inl ⟨hk.1, by omega, rfl⟩)⟩
theorem zBack_at {W : Int → Prop} {k r : Int} {ch : Int → Int} (h : zFound W r ch) (hk : 0 ≤ k ∧ k < r ∧ k ≤ 2) : zBackP W k (ch k) := by
  rcases h with ⟨h1, h2⟩ | ⟨h1, R, h2, h3, h4, h5, h6⟩
  · omega
  · refine Or.inr ⟨R, h2, Or.inr (Or.inr ⟨by omega, ?_⟩)⟩
    have hk3 : k = 0 ∨ k = 1 ∨ k = 2 := by omega
    rcases hk3 with e | e | e
    · subst e; exact Or.inl ⟨rfl, h4 (by omega)⟩
    · subst e; exact Or.inr (Or.inl ⟨rfl, h5 (by omega)⟩)
    · subst e; exact Or.inr (Or.inr ⟨rfl, h6 (by omega)⟩)
