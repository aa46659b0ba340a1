/-! the text of a roll -/
def zDg (t : Int → Int) (n a : Int) : Prop := a < n ∧ 48 ≤ t a ∧ t a ≤ 57
def zFig (t : Int → Int) (n a r : Int) : Prop := (zDg t n a ∧ r = t a - 48) ∨ (¬ zDg t n a ∧ r = -9)
theorem zFig_neg {t : Int → Int} {n a r : Int} (h : zFig t n a r) (hr : r < 0) : ¬ zDg t n a := h.elim (fun q => by have := q.1.2; have := q.2; omega) (fun q => q.1)
theorem zFig_pos {t : Int → Int} {n a r : Int} (h : zFig t n a r) (hr : 0 ≤ r) : zDg t n a ∧ r = t a - 48 ∧ r ≤ 9 := h.elim (fun q => ⟨q.1, q.2, by have := q.1.2; omega⟩) (fun q => by omega)
theorem zFig_rng {t : Int → Int} {n a r : Int} (h : zFig t n a r) : -9 ≤ r ∧ r ≤ 9 := h.elim (fun q => by have := q.1.2; omega) (fun q => by omega)
def zTwo (t : Int → Int) (n A lo mo r u : Int) : Prop := ((¬ zDg t n A ∨ (zDg t n A ∧ (mo < 10 * (t A - 48) ∨ 10 * (t A - 48) + 9 < lo))) ∧ r = -9 ∧ u = A) ∨ ((10 * (t A - 48) ≤ mo ∧ lo ≤ 10 * (t A - 48) + 9) ∧ zDg t n A ∧ ¬ zDg t n (A + 1) ∧ r = -9 ∧ u = A + 1) ∨ ((10 * (t A - 48) ≤ mo ∧ lo ≤ 10 * (t A - 48) + 9) ∧ zDg t n A ∧ zDg t n (A + 1) ∧ ((lo ≤ 10 * (t A - 48) + (t (A + 1) - 48) ∧ 10 * (t A - 48) + (t (A + 1) - 48) ≤ mo ∧ r = 10 * (t A - 48) + (t (A + 1) - 48) ∧ u = A + 2) ∨ ((10 * (t A - 48) + (t (A + 1) - 48) < lo ∨ mo < 10 * (t A - 48) + (t (A + 1) - 48)) ∧ r = -9 ∧ u = A)))
def zG (t : Int → Int) (b k : Int) : Prop := (k = 0 → t b = 110 ∨ t b = 108 ∨ t b = 102) ∧ (k = 1 → t (b + 1) = 48 ∨ t (b + 1) = 49) ∧ (k = 2 → 48 ≤ t (b + 2) ∧ t (b + 2) ≤ 57) ∧ (k = 3 → (48 ≤ t (b + 3) ∧ t (b + 3) ≤ 57) ∧ 1 ≤ 10 * (t (b + 2) - 48) + (t (b + 3) - 48)) ∧ (k = 4 → 48 ≤ t (b + 4) ∧ t (b + 4) ≤ 57) ∧ (k = 5 → (48 ≤ t (b + 5) ∧ t (b + 5) ≤ 57) ∧ 10 * (t (b + 4) - 48) + (t (b + 5) - 48) ≤ 98) ∧ (k = 6 → (48 ≤ t (b + 6) ∧ t (b + 6) ≤ 57) ∧ 10 * (t (b + 4) - 48) + (t (b + 5) - 48) < 10 * (t (b + 6) - 48) + 9) ∧ (k = 7 → (48 ≤ t (b + 7) ∧ t (b + 7) ≤ 57) ∧ 10 * (t (b + 4) - 48) + (t (b + 5) - 48) < 10 * (t (b + 6) - 48) + (t (b + 7) - 48)) ∧ (k = 8 → t (b + 8) = 59 ∧ b < 81)
def zGo (t : Int → Int) (p : Int) : Prop := zG t (p - p % 9) (p % 9)
def zSec (t : Int → Int) (p : Int) : Prop := (p % 9 = 3 ∨ p % 9 = 5 ∨ p % 9 = 7) ∧ 48 ≤ t p ∧ t p ≤ 57
def zAllGo (t : Int → Int) (n : Int) : Prop := ∀ y, 0 ≤ y → y < n → zGo t y
def zParse (t : Int → Int) (n r : Int) : Prop := (r = -1 ∧ n % 9 = 8 ∧ zAllGo t n) ∨ (∃ p, (0 ≤ p ∧ p < n) ∧ ¬ zGo t p ∧ zAllGo t p ∧ ((zSec t p ∧ r = p - 1) ∨ (¬ zSec t p ∧ r = p))) ∨ (n % 9 ≠ 8 ∧ zAllGo t n ∧ r = n)
theorem zGo_at {t : Int → Int} {p b k : Int} (hp : p = b + k) (hb : b % 9 = 0) (hk : 0 ≤ k ∧ k ≤ 8) : zGo t p ↔ zG t b k := by
  have e1 : p % 9 = k := by omega
  have e2 : p - k = b := by omega
  unfold zGo
  rw [e1, e2]
theorem zParse_at {t : Int → Int} {n p : Int} (ha : zAllGo t p) (hp : 0 ≤ p ∧ p < n) (hg : ¬ zGo t p) (hs : ¬ zSec t p) : zParse t n p := Or.inr (Or.inl ⟨p, hp, hg, ha, Or.inr ⟨hs, rfl⟩⟩)
theorem zParse_sec {t : Int → Int} {n p q : Int} (ha : zAllGo t p) (hp : 0 ≤ p ∧ p < n) (hg : ¬ zGo t p) (hs : zSec t p) (hq : q = p - 1) : zParse t n q := Or.inr (Or.inl ⟨p, hp, hg, ha, Or.inl ⟨hs, hq⟩⟩)
theorem zParse_end {t : Int → Int} {n : Int} (ha : zAllGo t n) (hn : n % 9 ≠ 8) : zParse t n n := Or.inr (Or.inr ⟨hn, ha, rfl⟩)
theorem zParse_one {t : Int → Int} {n a b : Int} (h : zParse t n a) (h2 : zParse t n b) : a = b := by
  rcases h with ⟨h1, h3, h4⟩ | ⟨p, p1, p2, p3, p4⟩ | ⟨h1, h3, h4⟩ <;> rcases h2 with ⟨g1, g3, g4⟩ | ⟨q, q1, q2, q3, q4⟩ | ⟨g1, g3, g4⟩
  · omega
  · exact absurd (h4 q q1.1 q1.2) q2
  · exact absurd h3 g1
  · exact absurd (g4 p p1.1 p1.2) p2
  · have e : p = q := by
      rcases Int.lt_trichotomy p q with z | z | z
      · exact absurd (q3 p p1.1 z) p2
      · exact z
      · exact absurd (p3 q q1.1 z) q2
    subst e
    rcases p4 with ⟨z1, z2⟩ | ⟨z1, z2⟩ <;> rcases q4 with ⟨y1, y2⟩ | ⟨y1, y2⟩
    · omega
    · exact absurd z1 y1
    · exact absurd y1 z1
    · omega
  · exact absurd (g3 p p1.1 p1.2) p2
  · exact absurd g3 h1
  · exact absurd (h3 q q1.1 q1.2) q2
  · omega
theorem zAllGo_next {t : Int → Int} {p : Int} (h : zAllGo t p) (hg : zGo t p) : zAllGo t (p + 1) := zall_step h hg
theorem zTwo_step {t : Int → Int} {n A b k lo mo r u : Int} (h : zTwo t n A lo mo r u) (hA : A = b + k) (hb : b % 9 = 0 ∧ 0 ≤ b) (hAn : A ≤ n) (ha : zAllGo t A)
    (hk : (k = 2 ∧ lo = 1 ∧ mo = 99) ∨ (k = 4 ∧ lo = 0 ∧ mo = 98) ∨ (k = 6 ∧ lo = 10 * (t (b + 4) - 48) + (t (b + 5) - 48) + 1 ∧ mo = 99)) :
    (0 ≤ r ∧ u = A + 2 ∧ u ≤ n ∧ r = 10 * (t A - 48) + (t (A + 1) - 48) ∧ r ≤ 99 ∧ zAllGo t (A + 2)) ∨ (r = -9 ∧ (0 ≤ u ∧ u ≤ n) ∧ zParse t n u) := by
  subst hA
  have hk3 : k = 2 ∨ k = 4 ∨ k = 6 := by omega
  have g1 := zGo_at (t := t) (p := b + k) (b := b) (k := k) rfl hb.1 (by omega)
  have g2 := zGo_at (t := t) (p := b + k + 1) (b := b) (k := k + 1) (by omega) hb.1 (by omega)
  have ns : ¬ zSec t (b + k) := fun q => by have := q.1; omega
  have dead : ∀ {p : Int}, 0 ≤ p → p < n → zAllGo t p → ¬ zGo t p → ¬ zSec t p → zParse t n p := fun h1 h2 h3 h4 h5 => zParse_at h3 ⟨h1, h2⟩ h4 h5
  -- the first digit
  have first : ¬ zDg t n (b + k) → (0 ≤ b + k ∧ b + k ≤ n) ∧ zParse t n (b + k) := fun hd => by
    refine ⟨by omega, ?_⟩
    by_cases e : b + k = n
    · rw [e] at ha ⊢
      exact zParse_end ha (by omega)
    · refine dead (by omega) (by omega) ha (fun q => hd ⟨by omega, ?_⟩) ns
      have q := g1.mp q
      unfold zG at q
      rcases hk3 with rfl | rfl | rfl
      · exact q.2.2.1 rfl
      · exact q.2.2.2.2.1 rfl
      · exact (q.2.2.2.2.2.2.1 rfl).1
  rcases h with ⟨h1 | ⟨h1, h2⟩, h3, h4⟩ | ⟨h0, h1, h2, h3, h4⟩ | ⟨h0, h1, h2, h3⟩
  · rw [h4]; exact Or.inr ⟨h3, first h1⟩
  · have hd := h1
    unfold zDg at hd
    refine Or.inr ⟨h3, by omega, ?_⟩
    rw [h4]
    refine dead (by omega) (by omega) ha (fun q => ?_) ns
    have q := g1.mp q
    unfold zG at q
    rcases hk3 with rfl | rfl | rfl
    · omega
    · omega
    · have := q.2.2.2.2.2.2.1 rfl; omega
  · have hd := h1
    unfold zDg at hd h2
    have hgo : zGo t (b + k) := g1.mpr (by
      unfold zG
      rcases hk3 with rfl | rfl | rfl <;> omega)
    have ha2 := zAllGo_next ha hgo
    refine Or.inr ⟨h3, by omega, ?_⟩
    rw [h4]
    by_cases e : b + k + 1 = n
    · rw [e] at ha2 ⊢
      exact zParse_end ha2 (by omega)
    · refine dead (by omega) (by omega) ha2 (fun q => ?_) (fun q => ?_)
      · have q := g2.mp q
        unfold zG at q
        rcases hk3 with rfl | rfl | rfl
        · have := (q.2.2.2.1 rfl).1; rw [show b + 2 + 1 = b + 3 by omega] at h2; omega
        · have := (q.2.2.2.2.2.1 rfl).1; rw [show b + 4 + 1 = b + 5 by omega] at h2; omega
        · have := (q.2.2.2.2.2.2.2.1 rfl).1; rw [show b + 6 + 1 = b + 7 by omega] at h2; omega
      · have := q.2; omega
  · have hd := h1
    have hd2 := h2
    unfold zDg at hd hd2
    have hgo : zGo t (b + k) := g1.mpr (by
      unfold zG
      rcases hk3 with rfl | rfl | rfl <;> omega)
    have ha2 := zAllGo_next ha hgo
    rcases h3 with ⟨y1, y2, y3, y4⟩ | ⟨y1, y2, y3⟩
    · refine Or.inl ⟨by omega, y4, by omega, y3, by omega, ?_⟩
      rw [show b + k + 2 = b + k + 1 + 1 by omega]
      refine zAllGo_next ha2 (g2.mpr ?_)
      unfold zG
      rcases hk3 with rfl | rfl | rfl
      · rw [show b + 2 + 1 = b + 3 by omega] at *; omega
      · rw [show b + 4 + 1 = b + 5 by omega] at *; omega
      · rw [show b + 6 + 1 = b + 7 by omega] at *; omega
    · refine Or.inr ⟨y2, by omega, ?_⟩
      refine zParse_sec ha2 (by omega) (fun q => ?_) ⟨by omega, by omega⟩ (by omega)
      have q := g2.mp q
      unfold zG at q
      rcases hk3 with rfl | rfl | rfl
      · have := (q.2.2.2.1 rfl).2; rw [show b + 2 + 1 = b + 3 by omega] at *; omega
      · have := (q.2.2.2.2.2.1 rfl).2; rw [show b + 4 + 1 = b + 5 by omega] at *; omega
      · have := (q.2.2.2.2.2.2.2.1 rfl).2; rw [show b + 6 + 1 = b + 7 by omega] at *; omega
def zKd (t : Int → Int) (x : Int) : Int := if t (9 * x) = 110 then 0 else if t (9 * x) = 108 then 1 else 2
def zVl (t : Int → Int) (x : Int) : Int := t (9 * x + 1) - 48
def zNb (t : Int → Int) (x : Int) : Int := 10 * (t (9 * x + 2) - 48) + (t (9 * x + 3) - 48)
def zFr (t : Int → Int) (x : Int) : Int := 10 * (t (9 * x + 4) - 48) + (t (9 * x + 5) - 48)
def zTl (t : Int → Int) (x : Int) : Int := 10 * (t (9 * x + 6) - 48) + (t (9 * x + 7) - 48)
def zRead (t : Int → Int) (n : Int) (kd vl nb fr tl : Int → Int) : Prop := ∀ x, 0 ≤ x → x < n → kd x = zKd t x ∧ vl x = zVl t x ∧ nb x = zNb t x ∧ fr x = zFr t x ∧ tl x = zTl t x
