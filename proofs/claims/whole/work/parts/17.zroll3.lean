section ZRolls
variable {t : Int → Int} {n b rA rP : Int} {rk rv rn rf rt : Int → Int}
theorem zRolls_1 (h : zRolls t n b rA rP rk rv rn rf rt) (hb : b ≠ 0) : rA = 9 * rP - 1 ∧ 1 ≤ rP ∧ rP ≤ 10 ∧ rA ≤ n := h.elim (fun q => q.2.1) (fun q => absurd q.1 hb)
theorem zRolls_2 (h : zRolls t n b rA rP rk rv rn rf rt) (hb : b ≠ 0) : zAllGo t rA := h.elim (fun q => q.2.2.1) (fun q => absurd q.1 hb)
theorem zRolls_3 (h : zRolls t n b rA rP rk rv rn rf rt) (hb : b ≠ 0) : zRead t rP rk rv rn rf rt := h.elim (fun q => q.2.2.2) (fun q => absurd q.1 hb)
theorem zRolls_4 (h : zRolls t n b rA rP rk rv rn rf rt) : 0 ≤ rA ∧ rA ≤ n := h.elim (fun q => by have := q.2.1; omega) (fun q => q.2.1)
theorem zRead_cp {kd vl nb fr tl kd' vl' nb' fr' tl' : Int → Int} {x : Int} (h : zRead t x kd vl nb fr tl) (h2 : kd' x = zKd t x ∧ vl' x = zVl t x ∧ nb' x = zNb t x ∧ fr' x = zFr t x ∧ tl' x = zTl t x) : zRead t (x + 1) (zu kd x (kd' x)) (zu vl x (vl' x)) (zu nb x (nb' x)) (zu fr x (fr' x)) (zu tl x (tl' x)) := by
  rw [h2.1, h2.2.1, h2.2.2.1, h2.2.2.2.1, h2.2.2.2.2]
  exact zRead_next h
end ZRolls
