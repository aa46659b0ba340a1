/-! a number more -/
def zPlus (c : Int → Prop) (a : Int) : Int → Prop := fun x => c x ∨ x = a
theorem zSay_plus {c : Int → Prop} {a : Int} (ha : 1 ≤ a ∧ a ≤ 99) : ∀ {w : Nat} {q : Int}, zSay (zPlus c a) w q → zSay c w q ∨ ∃ v : Nat, w = v + 1 ∧ zSay (zPlus c a) v (q - a)
  | 0, q, h => Or.inl h
  | w + 1, q, ⟨b, h1, h2, h3⟩ => by
    rcases h2 with h2 | h2
    · rcases zSay_plus ha h3 with g | ⟨v, g1, g2⟩
      · exact Or.inl ⟨b, h1, h2, g⟩
      · refine Or.inr ⟨w, rfl, ?_⟩
        rw [g1]
        exact ⟨b, h1, Or.inl h2, by rw [show q - a - b = q - b - a by omega]; exact g2⟩
    · rw [h2] at h3
      exact Or.inr ⟨w, rfl, h3⟩
theorem zSay_in {c : Int → Prop} {a : Int} {w : Nat} {q : Int} (h : zSay c w q) : zSay (zPlus c a) w q := zSay_mono (fun _ _ _ z => Or.inl z) h
theorem zTab_add0 {c : Int → Prop} {t : Int → Int} {B nv a : Int} (ha : 1 ≤ a ∧ a ≤ 99) (h : zTab c t B nv) (hB : a - 1 ≤ B) : zTab (zPlus c a) t (a - 1) nv := by
  have key : ∀ {w : Nat} {q : Int}, q < a → (zSay (zPlus c a) w q ↔ zSay c w q) := fun {w} {q} hq => ⟨fun z => (zSay_plus ha z).elim id (fun ⟨v, _, g⟩ => absurd (zSay_nn g) (by omega)), zSay_in⟩
  intro q h1 h2
  rcases h q h1 (by omega) with ⟨w, h3, h4⟩ | ⟨h3, h4⟩
  · exact Or.inl ⟨w, ⟨(key (by omega)).mpr h3.1, fun k hk z => h3.2 k hk ((key (by omega)).mp z)⟩, h4⟩
  · exact Or.inr ⟨fun w z => h3 w ((key (by omega)).mp z), h4⟩
theorem zTab_add1 {c : Int → Prop} {t f : Int → Int} {B nv a q r : Int} (ha : 1 ≤ a ∧ a ≤ 99) (h : zTab c t B nv) (hf : zTab (zPlus c a) f (q - 1) nv) (hq : a ≤ q ∧ q ≤ B) (hB : B < nv) (hr : (r = t q ∧ t q ≤ f (q - a) + 1) ∨ (r = f (q - a) + 1 ∧ f (q - a) + 1 < t q)) : zTab (zPlus c a) (zu f q r) q nv := by
  intro x h1 h2
  rcases Int.lt_or_eq_of_le h2 with e | e
  · rw [zu_n (by omega)]
    exact hf x h1 (by omega)
  · subst e
    rw [zu_s]
    have hf2 := hf (x - a) (by omega) (by omega)
    have ht := h x h1 (by omega)
    -- the fewest by the old ones, by one more of the new one
    rcases ht with ⟨w, p1, p2⟩ | ⟨p1, p2⟩
    · have pw := zSay_nn p1.1
      rcases hf2 with ⟨v, q1, q2⟩ | ⟨q1, q2⟩
      · by_cases hle : w ≤ v + 1
        · refine Or.inl ⟨w, ⟨zSay_in p1.1, fun k hk z => ?_⟩, by omega⟩
          rcases zSay_plus ha z with g | ⟨m, g1, g2⟩
          · exact p1.2 k hk g
          · exact q1.2 m (by omega) g2
        · refine Or.inl ⟨v + 1, ⟨⟨a, ha, Or.inr rfl, q1.1⟩, fun k hk z => ?_⟩, by omega⟩
          rcases zSay_plus ha z with g | ⟨m, g1, g2⟩
          · exact p1.2 k (by omega) g
          · exact q1.2 m (by omega) g2
      · refine Or.inl ⟨w, ⟨zSay_in p1.1, fun k hk z => ?_⟩, by omega⟩
        rcases zSay_plus ha z with g | ⟨m, g1, g2⟩
        · exact p1.2 k hk g
        · exact q1 m g2
    · rcases hf2 with ⟨v, q1, q2⟩ | ⟨q1, q2⟩
      · have qw := zSay_nn q1.1
        refine Or.inl ⟨v + 1, ⟨⟨a, ha, Or.inr rfl, q1.1⟩, fun k hk z => ?_⟩, by omega⟩
        rcases zSay_plus ha z with g | ⟨m, g1, g2⟩
        · exact p1 k g
        · exact q1.2 m (by omega) g2
      · refine Or.inr ⟨fun k z => ?_, by omega⟩
        rcases zSay_plus ha z with g | ⟨m, g1, g2⟩
        · exact p1 k g
        · exact q1 m g2
theorem zTab_none {f : Int → Int} (h : ∀ y, 0 ≤ y → y < 1000 → (y = 0 ∧ f y = 0) ∨ (y ≠ 0 ∧ f y = 1000000)) : zTab (fun _ => False) f 999 1000000 := by
  intro q h1 h2
  rcases h q h1 (by omega) with ⟨e, g⟩ | ⟨e, g⟩
  · subst e
    exact Or.inl ⟨0, ⟨rfl, fun k hk => absurd hk (Nat.not_lt_zero k)⟩, by omega⟩
  · refine Or.inr ⟨fun w z => ?_, g⟩
    cases w with
    | zero => exact e z
    | succ w =>
      obtain ⟨b, b1, b2, b3⟩ := z
      exact b2
/-- the first n of more numbers, too -/
def zMore (c : Int → Prop) (mo : Int → Int) (n : Int) : Int → Prop := fun a => c a ∨ ∃ i, (0 ≤ i ∧ i < n) ∧ mo i = a
theorem zMore_0 {c : Int → Prop} {mo : Int → Int} {n : Int} (hn : n ≤ 0) (a : Int) : zMore c mo n a ↔ c a := ⟨fun h => h.elim id (fun ⟨i, h1, _⟩ => by omega), Or.inl⟩
theorem zMore_next {c : Int → Prop} {mo : Int → Int} {n : Int} (hn : 1 ≤ n) (a : Int) : zMore c mo n a ↔ zPlus (zMore c mo (n - 1)) (mo (n - 1)) a := by
  constructor
  · rintro (h | ⟨i, h1, h2⟩)
    · exact Or.inl (Or.inl h)
    · by_cases e : i = n - 1
      · subst e; exact Or.inr h2.symm
      · exact Or.inl (Or.inr ⟨i, by omega, h2⟩)
  · rintro ((h | ⟨i, h1, h2⟩) | h)
    · exact Or.inl h
    · exact Or.inr ⟨i, by omega, h2⟩
    · exact Or.inr ⟨n - 1, by omega, h.symm⟩
theorem zSay_times {c : Int → Prop} {a : Int} (ha : 1 ≤ a ∧ a ≤ 99) : ∀ {w : Nat} {q : Int}, zSay (zPlus c a) w q → ∃ t : Nat, t ≤ w ∧ zSay c (w - t) (q - t * a)
  | 0, q, h => ⟨0, Nat.le_refl _, by have h : q = 0 := h; show q - ((0 : Nat) : Int) * a = 0; rw [h]; simp⟩
  | w + 1, q, h => by
    rcases zSay_plus ha h with g | ⟨v, g1, g2⟩
    · exact ⟨0, by omega, by simpa using g⟩
    · obtain ⟨t, t1, t2⟩ := zSay_times ha (w := v) g2
      refine ⟨t + 1, by omega, ?_⟩
      rw [show w + 1 - (t + 1) = v - t by omega, show q - ((t + 1 : Nat) : Int) * a = q - a - (t : Int) * a by rw [Int.natCast_add, Int.add_mul]; simp only [Int.natCast_one, Int.one_mul]; omega]
      exact t2
theorem zSay_back {c : Int → Prop} {a : Int} (ha : 1 ≤ a ∧ a ≤ 99) : ∀ (t : Nat) {w : Nat} {q : Int}, zSay c w (q - t * a) → zSay (zPlus c a) (t + w) q
  | 0, w, q, h => by rw [Nat.zero_add]; exact zSay_in (by simpa using h)
  | t + 1, w, q, h => by
    rw [show t + 1 + w = (t + w) + 1 by omega]
    refine ⟨a, ha, Or.inr rfl, zSay_back ha t ?_⟩
    rw [show q - a - (t : Int) * a = q - ((t + 1 : Nat) : Int) * a by rw [Int.natCast_add, Int.add_mul]; simp only [Int.natCast_one, Int.one_mul]; omega]
    exact h
theorem zIn_times {c : Int → Prop} {a w q : Int} (ha : 1 ≤ a ∧ a ≤ 99) : zIn (zPlus c a) w q ↔ ∃ t : Int, (0 ≤ t ∧ t ≤ w) ∧ zIn c (w - t) (q - t * a) := by
  constructor
  · rintro ⟨k, h1, h2⟩
    obtain ⟨t, t1, t2⟩ := zSay_times ha h2
    exact ⟨t, by omega, k - t, by omega, t2⟩
  · rintro ⟨t, h1, k, h2, h3⟩
    refine ⟨t.toNat + k, by omega, zSay_back ha t.toNat ?_⟩
    rw [show ((t.toNat : Nat) : Int) = t by omega]
    exact h3
theorem zIn_neg {c : Int → Prop} {w q : Int} (h : q < 0) : ¬ zIn c w q := fun ⟨k, _, h2⟩ => by have := zSay_nn h2; omega
theorem zIn_w0 {c : Int → Prop} {w q : Int} (h : w < 0) : ¬ zIn c w q := fun ⟨k, h1, _⟩ => by omega
