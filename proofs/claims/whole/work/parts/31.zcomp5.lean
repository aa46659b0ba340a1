def zOns (n : Int) (on : Nat → Option Nat) (an : Int → Nat) : Prop := ∀ x, 0 ≤ x → x < n → on x.toNat = some (an x)
theorem zCanW_no {nb : Int → Int} {lv : Int → Prop} {wo x : Int} (hx : x = wo ∨ ¬ lv x) (a : Int) : zCanW nb lv wo x a ↔ zCanW nb lv wo (x + 1) a :=
  ⟨fun ⟨y, h1, h2⟩ => ⟨y, by omega, h2⟩, fun ⟨y, h1, h2, h3, h4⟩ => ⟨y, ⟨h1.1, by
    rcases Int.lt_or_eq_of_le (show y ≤ x by omega) with e | e
    · exact e
    · subst e
      rcases hx with z | z
      · exact absurd z h2
      · exact absurd h4 z⟩, h2, h3, h4⟩⟩
theorem zCanW_yes {nb : Int → Int} {lv : Int → Prop} {wo x : Int} (h0 : 0 ≤ x) (hx : x ≠ wo) (hl : lv x) (a : Int) : zPlus (zCanW nb lv wo x) (nb x) a ↔ zCanW nb lv wo (x + 1) a := by
  constructor
  · rintro (⟨y, h1, h2⟩ | h)
    · exact ⟨y, by omega, h2⟩
    · exact ⟨x, by omega, hx, h.symm, hl⟩
  · rintro ⟨y, h1, h2, h3, h4⟩
    by_cases e : y = x
    · subst e; exact Or.inr h3.symm
    · exact Or.inl ⟨y, by omega, h2, h3, h4⟩
theorem zCanW_0 {nb : Int → Int} {lv : Int → Prop} {wo : Int} (a : Int) : False ↔ zCanW nb lv wo 0 a := ⟨fun h => h.elim, fun ⟨y, h1, _⟩ => by omega⟩
/-- what a quantity's table says, out of it too -/
def zOf (t : Int → Int) (q : Int) : Int := if 0 ≤ q ∧ q ≤ 999 then t q else 1000000
theorem zOf_is {t : Int → Int} {q r : Int} (h : ((0 ≤ q ∧ q ≤ 999) ∧ r = t q) ∨ ((q < 0 ∨ 999 < q) ∧ r = 1000000)) : r = zOf t q := by
  unfold zOf
  rcases h with ⟨h1, h2⟩ | ⟨h1, h2⟩
  · rw [if_pos h1, h2]
  · rw [if_neg (by omega), h2]
theorem zOf_rng {c : Int → Prop} {t : Int → Int} (h : zTab c t 999 1000000) (q : Int) : 0 ≤ zOf t q ∧ zOf t q ≤ 1000000 := by
  unfold zOf
  by_cases h1 : 0 ≤ q ∧ q ≤ 999
  · rw [if_pos h1]
    have := zTab_rng h h1.1 h1.2
    omega
  · rw [if_neg h1]; omega
def zMat (t : Int → Int) (rest a : Int) : Prop := zOf t (rest - a) = zOf t rest - 1
def zGS (nb : Int → Int) (lv : Int → Prop) (t : Int → Int) (rest n g : Int) : Prop := ((g = 0) ∨ ∃ y, (0 ≤ y ∧ y < n) ∧ lv y ∧ nb y = g ∧ zMat t rest g) ∧ ∀ y, 0 ≤ y → y < n → lv y → zMat t rest (nb y) → nb y ≤ g
theorem zGS_0 {nb : Int → Int} {lv : Int → Prop} {t : Int → Int} {rest : Int} : zGS nb lv t rest 0 0 := ⟨Or.inl rfl, zall_0⟩
theorem zGS_no {nb : Int → Int} {lv : Int → Prop} {t : Int → Int} {rest x g : Int} (h : zGS nb lv t rest x g) (hx : nb x ≤ g ∨ ¬ lv x ∨ ¬ zMat t rest (nb x)) : zGS nb lv t rest (x + 1) g := by
  refine ⟨h.1.elim Or.inl (fun ⟨y, h1, h2⟩ => Or.inr ⟨y, by omega, h2⟩), zall_step h.2 (fun h1 h2 => ?_)⟩
  rcases hx with z | z | z
  · exact z
  · exact absurd h1 z
  · exact absurd h2 z
theorem zGS_yes {nb : Int → Int} {lv : Int → Prop} {t : Int → Int} {rest x g : Int} (h : zGS nb lv t rest x g) (h0 : 0 ≤ x) (hx : g < nb x) (hl : lv x) (hm : zMat t rest (nb x)) : zGS nb lv t rest (x + 1) (nb x) :=
  ⟨Or.inr ⟨x, by omega, hl, rfl, hm⟩, zall_step (fun y h1 h2 h3 h4 => by have := h.2 y h1 h2 h3 h4; omega) (fun _ _ => Int.le_refl _)⟩
theorem zGS_St {nb : Int → Int} {lv : Int → Prop} {t : Int → Int} {rest n g : Int} {w : Nat} (h : zGS nb lv t rest n g) (hT : zTab (zCan nb lv n) t 999 1000000) (hr : 0 ≤ rest ∧ rest ≤ 999) (hm : zMin (zCan nb lv n) rest (w + 1)) (hn : ∀ x, 0 ≤ x → x < n → 1 ≤ nb x ∧ nb x ≤ 99) : zSt (zCan nb lv n) rest g ∧ (1 ≤ g ∧ g ≤ 99 ∧ g ≤ rest) ∧ zMin (zCan nb lv n) (rest - g) w := by
  have hrest : zOf t rest = (w + 1 : Nat) := by unfold zOf; rw [if_pos hr]; exact zTab_of hT hr hm
  have hw := zSay_nn hm.1
  have key : ∀ a, 1 ≤ a → (zMat t rest a ↔ zMin (zCan nb lv n) (rest - a) w) := fun a ha => by
    unfold zMat
    rw [hrest]
    by_cases h1 : a ≤ rest
    · have e : zOf t (rest - a) = t (rest - a) := by unfold zOf; rw [if_pos (by omega)]
      rw [e]
      constructor
      · intro z; exact zTab_is hT (by omega) (by omega) (by omega)
      · intro z; rw [zTab_of hT (by omega) z]; omega
    · have e : zOf t (rest - a) = 1000000 := by unfold zOf; rw [if_neg (by omega)]
      rw [e]
      constructor
      · intro z; omega
      · intro z; have := zSay_nn z.1; omega
  obtain ⟨a, ha, ⟨a1, a2⟩, a3, a4⟩ := zSt_ex hm
  obtain ⟨y, y1, y2, y3⟩ := id a3
  have ga : a ≤ g := by rw [← y2]; exact h.2 y y1.1 y1.2 y3 ((key _ (by omega)).mpr (by rw [y2]; exact a4))
  rcases h.1 with e | ⟨x, x1, x2, x3, x4⟩
  · omega
  · have hx := hn x x1.1 x1.2
    have g4 : zMin (zCan nb lv n) (rest - g) w := (key g (by omega)).mp x4
    have hg := zSay_nn g4.1
    refine ⟨zSt_of hm (by omega) ⟨x, x1, x3, x2⟩ g4 (fun b b1 b2 b3 b4 => ?_), by omega, g4⟩
    obtain ⟨z, z1, z2, z3⟩ := b3
    have := h.2 z z1.1 z1.2 z3 ((key _ (by omega)).mpr (by rw [z2]; exact b4))
    omega
