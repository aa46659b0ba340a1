theorem zSaid_fw {c : Int → Prop} {q k f : Int} (h : zFewest c q f) (hk : k = -1 ∨ f = -9) : zSaid c q k f := by
  rcases h with ⟨h1, h2⟩ | ⟨w, h1, h2⟩
  · exact Or.inl ⟨h1, h2⟩
  · exact Or.inr ⟨w, h1, Or.inl ⟨by omega, h2⟩⟩
theorem zFewest_min {c : Int → Prop} {q f : Int} (h : zFewest c q f) (hf : f ≠ -9) : ∃ w : Nat, f = w ∧ zMin c q w := by
  rcases h with ⟨h1, h2⟩ | ⟨w, h1, h2⟩
  · exact absurd h2 hf
  · exact ⟨w, h2, h1⟩
def zArgK (f : Int → Int) (m best most : Int) : Prop := (m = 1 ∧ best = -9 ∧ most = -1) ∨ (2 ≤ m ∧ zArgI f m best most)
theorem zArgK_0 {f : Int → Int} : zArgK f 1 (-9) (-1) := Or.inl ⟨rfl, rfl, rfl⟩
theorem zArgK_new {f : Int → Int} {m b mo r : Int} (h : zArgK f m b mo) (hm : 1 ≤ m) (h0 : r = f m ∧ 0 ≤ r) (hf : mo < r) : zArgK f (m + 1) m r := by
  obtain ⟨e, h0⟩ := h0
  subst e
  rcases h with ⟨g1, g2, g3⟩ | ⟨g1, g2⟩
  · subst g1
    exact Or.inr ⟨by omega, zArgI_new (b := 0) (mo := -9) (Or.inl ⟨rfl, rfl, rfl⟩) (by omega) (by omega)⟩
  · exact Or.inr ⟨by omega, zArgI_new g2 hm hf⟩
theorem zArgK_keep {f : Int → Int} {m b mo r : Int} (h : zArgK f m b mo) (h0 : r = f m ∧ 0 ≤ r) (hf : r ≤ mo) : zArgK f (m + 1) b mo := by
  obtain ⟨e, h0⟩ := h0
  subst e
  rcases h with ⟨g1, g2, g3⟩ | ⟨g1, g2⟩
  · omega
  · exact Or.inr ⟨by omega, zArgI_keep g2 hf h0⟩
theorem zArgK_end {f : Int → Int} {m b mo : Int} (h : zArgK f m b mo) (hm : m = 100) : zArg f b mo := by
  subst hm
  rcases h with ⟨g1, g2, g3⟩ | ⟨g1, g2⟩
  · omega
  · exact zArgI_end g2
theorem zRel_renew {la si ss sl : Int → Int} {k lane n : Int} (h : zRel la si ss sl) (hl : 0 ≤ lane ∧ lane ≤ 2) (hn : 0 ≤ n ∧ n ≤ 100) : zRel (zu la k lane) (zu si k n) (zu ss k n) (zu sl k lane) := fun x h1 h2 => by
  by_cases e : x = k
  · subst e; rw [zu_s, zu_s, zu_s, zu_s]; omega
  · rw [zu_n e, zu_n e, zu_n e, zu_n e]; exact h x h1 h2
theorem zRel_clear {la si ss sl : Int → Int} {k : Int} (h : zRel la si ss sl) : zRel (zu la k (-1)) (zu si k 0) (zu ss k (-1)) sl := fun x h1 h2 => by
  by_cases e : x = k
  · subst e; rw [zu_s, zu_s, zu_s]; omega
  · rw [zu_n e, zu_n e, zu_n e]; exact h x h1 h2
theorem zRel_same {la si ss sl : Int → Int} {k : Int} (h : zRel la si ss sl) (hk : la k = -1) : zRel la si (zu ss k (-1)) sl := fun x h1 h2 => by
  by_cases e : x = k
  · subst e; have := h x h1 h2; rw [zu_s]; omega
  · rw [zu_n e]; exact h x h1 h2
