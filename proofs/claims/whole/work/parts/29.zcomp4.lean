def zFi (t : Int → Int) (n p r : Int) : Prop := (zDg t n p ∧ r = t p - 48) ∨ (¬ zDg t n p ∧ r = -1)
theorem zFi_rng {t : Int → Int} {n p r : Int} (h : zFi t n p r) : -1 ≤ r ∧ r ≤ 9 := h.elim (fun q => by have := q.1.2; omega) (fun q => by omega)
theorem zFi_is {t : Int → Int} {n p r : Int} (h : zFi t n p r) (hd : p < n ∧ 48 ≤ t p ∧ t p ≤ 57) : r = t p - 48 := h.elim (fun q => q.2) (fun q => absurd hd q.1)
theorem zFi_pos {t : Int → Int} {n p r : Int} (h : zFi t n p r) (hr : 0 ≤ r) : 48 ≤ t p ∧ t p ≤ 57 := h.elim (fun q => q.1.2) (fun q => by omega)
theorem zFi_neg {t : Int → Int} {n p r : Int} (h : zFi t n p r) (hr : r < 0) (hp : p < n) : ¬ (48 ≤ t p ∧ t p ≤ 57) := h.elim (fun q => by have := q.1.2; omega) (fun q z => q.1 ⟨hp, z⟩)
def zPG (t : Int → Int) (b k : Int) : Prop := (k % 2 = 0 → (k = 4 → 10 * (t (b + k) - 48) ≤ 98) ∧ (k = 6 → 10 * (t (b + 4) - 48) + (t (b + 4 + 1) - 48) < 10 * (t (b + k) - 48) + 9)) ∧ (k % 2 = 1 → (k = 3 → 1 ≤ 10 * (t (b + k - 1) - 48) + (t (b + k) - 48)) ∧ (k = 5 → 10 * (t (b + k - 1) - 48) + (t (b + k) - 48) ≤ 98) ∧ (k = 7 → 10 * (t (b + 4) - 48) + (t (b + 4 + 1) - 48) < 10 * (t (b + k - 1) - 48) + (t (b + k) - 48)))
theorem zGo_k0 {t : Int → Int} {p : Int} (h : p % 9 = 0) : zGo t p ↔ (t p = 110 ∨ t p = 108 ∨ t p = 102) := by
  rw [zGo_at (b := p) (k := 0) (by omega) h (by omega)]
  unfold zG
  omega
theorem zGo_k1 {t : Int → Int} {p : Int} (h : p % 9 = 1) : zGo t p ↔ (t p = 48 ∨ t p = 49) := by
  rw [zGo_at (b := p - 1) (k := 1) (by omega) (by omega) (by omega)]
  unfold zG
  rw [show p - 1 + 1 = p by omega]
  omega
theorem zGo_k8 {t : Int → Int} {p : Int} (h : p % 9 = 8) : zGo t p ↔ (t p = 59 ∧ p < 89) := by
  rw [zGo_at (b := p - 8) (k := 8) (by omega) (by omega) (by omega)]
  unfold zG
  rw [show p - 8 + 8 = p by omega]
  omega
theorem zGo_kd {t : Int → Int} {p : Int} (h : 2 ≤ p % 9 ∧ p % 9 ≤ 7) : zGo t p ↔ ((48 ≤ t p ∧ t p ≤ 57) ∧ zPG t (p - p % 9) (p % 9)) := by
  obtain ⟨b, hb⟩ : ∃ b, b = p - p % 9 := ⟨_, rfl⟩
  obtain ⟨k, hk⟩ : ∃ k, k = p % 9 := ⟨_, rfl⟩
  have hp : p = b + k := by omega
  have hb9 : b % 9 = 0 := by omega
  rw [zGo_at (b := b) (k := k) hp hb9 (by omega), ← hb, ← hk]
  unfold zG zPG
  have hk6 : k = 2 ∨ k = 3 ∨ k = 4 ∨ k = 5 ∨ k = 6 ∨ k = 7 := by omega
  rcases hk6 with e | e | e | e | e | e <;> (rw [e] at hp ⊢; rw [hp]; (try rw [show b + 3 - 1 = b + 2 by omega]); (try rw [show b + 5 - 1 = b + 4 by omega]); (try rw [show b + 7 - 1 = b + 6 by omega]); (try rw [show b + 4 + 1 = b + 5 by omega])) <;> omega
theorem zGo_dig {t : Int → Int} {p : Int} (h : zGo t p) (hk : 2 ≤ p % 9 ∧ p % 9 ≤ 7) : 48 ≤ t p ∧ t p ≤ 57 := ((zGo_kd hk).mp h).1
theorem zAll_dig {t : Int → Int} {p : Int} (ha : zAllGo t p) (hp : 0 ≤ p) (h2 : 2 ≤ p % 9 ∧ p % 9 ≤ 7) (hd : 48 ≤ t p ∧ t p ≤ 57) : ∀ y, p - p % 9 + 2 ≤ y → y ≤ p - p % 9 + p % 9 → 48 ≤ t y ∧ t y ≤ 57 := fun y h3 h4 => by
  by_cases e : y = p
  · rw [e]; exact hd
  · exact zGo_dig (ha y (by omega) (by omega)) (by omega)
theorem zG_cong {t t' : Int → Int} {b k : Int} (h : ∀ y, b ≤ y → y ≤ b + k → t y = t' y) (hk : 0 ≤ k) : zG t b k → zG t' b k := by
  intro ⟨g0, g1, g2, g3, g4, g5, g6, g7, g8⟩
  refine ⟨fun e => ?_, fun e => ?_, fun e => ?_, fun e => ?_, fun e => ?_, fun e => ?_, fun e => ?_, fun e => ?_, fun e => ?_⟩
  · rw [← h b (by omega) (by omega)]; exact g0 e
  · rw [← h (b + 1) (by omega) (by omega)]; exact g1 e
  · rw [← h (b + 2) (by omega) (by omega)]; exact g2 e
  · rw [← h (b + 2) (by omega) (by omega), ← h (b + 3) (by omega) (by omega)]; exact g3 e
  · rw [← h (b + 4) (by omega) (by omega)]; exact g4 e
  · rw [← h (b + 4) (by omega) (by omega), ← h (b + 5) (by omega) (by omega)]; exact g5 e
  · rw [← h (b + 4) (by omega) (by omega), ← h (b + 5) (by omega) (by omega), ← h (b + 6) (by omega) (by omega)]; exact g6 e
  · rw [← h (b + 4) (by omega) (by omega), ← h (b + 5) (by omega) (by omega), ← h (b + 6) (by omega) (by omega), ← h (b + 7) (by omega) (by omega)]; exact g7 e
  · rw [← h (b + 8) (by omega) (by omega)]; exact g8 e
theorem zGo_cong {t t' : Int → Int} {n p : Int} (h : ∀ y, 0 ≤ y → y < n → t y = t' y) (hp : 0 ≤ p ∧ p < n) : zGo t p ↔ zGo t' p :=
  ⟨zG_cong (fun y h1 h2 => h y (by omega) (by omega)) (by omega), zG_cong (fun y h1 h2 => (h y (by omega) (by omega)).symm) (by omega)⟩
theorem zAllGo_cong {t t' : Int → Int} {n p : Int} (h : ∀ y, 0 ≤ y → y < n → t y = t' y) (hp : p ≤ n) (ha : zAllGo t p) : zAllGo t' p := fun y h1 h2 => (zGo_cong h ⟨h1, by omega⟩).mp (ha y h1 h2)
theorem zParse_cong {t t' : Int → Int} {n r : Int} (h : ∀ y, 0 ≤ y → y < n → t y = t' y) (hp : zParse t n r) : zParse t' n r := by
  rcases hp with ⟨h1, h2, h3⟩ | ⟨p, h1, h2, h3, h4⟩ | ⟨h1, h2, h3⟩
  · exact Or.inl ⟨h1, h2, zAllGo_cong h (Int.le_refl _) h3⟩
  · refine Or.inr (Or.inl ⟨p, h1, fun q => h2 ((zGo_cong h h1).mpr q), zAllGo_cong h (by omega) h3, ?_⟩)
    unfold zSec at *
    rw [← h p h1.1 h1.2]
    exact h4
  · exact Or.inr (Or.inr ⟨h1, zAllGo_cong h (Int.le_refl _) h2, h3⟩)
