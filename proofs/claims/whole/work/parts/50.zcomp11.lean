/-- a new one of the people: its class and its numbers, as the text says them -/
def zOneR (t : Int → Int) (x : Int) (ci : Nat) (vl nb fr tl : Int) : Prop := ((ci = 3 ∧ zKd t x = 0) ∨ (ci = 2 ∧ zKd t x = 1) ∨ (ci = 1 ∧ zKd t x = 2)) ∧ vl = zVl t x ∧ nb = zNb t x ∧ fr = zFr t x ∧ tl = zTl t x
theorem zOneR_is {t : Int → Int} {n x : Int} {ci : Nat} {vl nb fr tl : Int} (hx : 0 ≤ x ∧ 9 * x + 8 ≤ n) (hgo : zAllGo t n) (h1 : zFi t n (x * 9 + 1) vl)
    (h2 : zDg t n (x * 9 + 2) → zDg t n (x * 9 + 2 + 1) → nb = 10 * (t (x * 9 + 2) - 48) + (t (x * 9 + 2 + 1) - 48)) (h3 : zDg t n (x * 9 + 4) → zDg t n (x * 9 + 4 + 1) → fr = 10 * (t (x * 9 + 4) - 48) + (t (x * 9 + 4 + 1) - 48)) (h4 : zDg t n (x * 9 + 6) → zDg t n (x * 9 + 6 + 1) → tl = 10 * (t (x * 9 + 6) - 48) + (t (x * 9 + 6 + 1) - 48))
    (hci : (ci = 3 ∧ t (x * 9) ≠ 102 ∧ t (x * 9) ≠ 108) ∨ (ci = 2 ∧ t (x * 9) = 108) ∨ (ci = 1 ∧ t (x * 9) = 102)) : zOneR t x ci vl nb fr tl := by
  have hd : ∀ j, 2 ≤ j → j ≤ 7 → zDg t n (x * 9 + j) := fun j a b => ⟨by omega, zGo_dig (hgo (x * 9 + j) (by omega) (by omega)) (by omega)⟩
  have d3 : zDg t n (x * 9 + 2 + 1) := by rw [show x * 9 + 2 + 1 = x * 9 + 3 by omega]; exact hd 3 (by omega) (by omega)
  have d5 : zDg t n (x * 9 + 4 + 1) := by rw [show x * 9 + 4 + 1 = x * 9 + 5 by omega]; exact hd 5 (by omega) (by omega)
  have d7 : zDg t n (x * 9 + 6 + 1) := by rw [show x * 9 + 6 + 1 = x * 9 + 7 by omega]; exact hd 7 (by omega) (by omega)
  have e2 := h2 (hd 2 (by omega) (by omega)) d3
  have e3 := h3 (hd 4 (by omega) (by omega)) d5
  have e4 := h4 (hd 6 (by omega) (by omega)) d7
  have g0 := (zGo_k0 (t := t) (p := x * 9) (by omega)).mp (hgo (x * 9) (by omega) (by omega))
  have g1 := (zGo_k1 (t := t) (p := x * 9 + 1) (by omega)).mp (hgo (x * 9 + 1) (by omega) (by omega))
  have e1 := zFi_is h1 (by omega)
  refine ⟨?_, ?_, ?_, ?_, ?_⟩
  · unfold zKd
    rw [show 9 * x = x * 9 by omega]
    split
    · omega
    · split <;> omega
  · unfold zVl; rw [e1, show x * 9 + 1 = 9 * x + 1 by omega]
  · unfold zNb; rw [e2, show x * 9 + 2 + 1 = 9 * x + 3 by omega, show x * 9 + 2 = 9 * x + 2 by omega]
  · unfold zFr; rw [e3, show x * 9 + 4 + 1 = 9 * x + 5 by omega, show x * 9 + 4 = 9 * x + 4 by omega]
  · unfold zTl; rw [e4, show x * 9 + 6 + 1 = 9 * x + 7 by omega, show x * 9 + 6 = 9 * x + 6 by omega]
