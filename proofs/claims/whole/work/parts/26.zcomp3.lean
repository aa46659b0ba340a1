/-- cells that a method reads alone -/
theorem zRO {E : zE} {A : Nat → Prop} {w : va_W} {s : State} {H : Heap} {locs : List Loc} (h : zP E w s.heap) (hS : va_S A s.heap H locs) (hNA : ∀ (k : Nat) (q : Nat × va_E), w[k]? = some q → ¬ A q.1) : zP E w H :=
  h.kept fun k q hk => hS.2.1 q.1 (h k q hk).lt (hNA k q hk)
theorem zRO_1 {E : zE} {A : Nat → Prop} {ws : va_W} {s : State} {h : Nat} {e : va_E} (hG : zP E [(h, e)] s.heap) (hAe : va_A ws s.heap.size = A) (ha : ∀ (k : Nat) (x : va_E), ws[k]? ≠ some (h, x)) : ∀ (k : Nat) (q : Nat × va_E), ([(h, e)] : va_W)[k]? = some q → ¬ A q.1 := by
  intro k q hk
  have hk0 : k = 0 := by
    have := (List.getElem?_eq_some_iff.mp hk).1
    simpa using this
  subst hk0
  cases hk
  rw [← hAe]
  rintro (⟨j, x, hj⟩ | hj)
  · exact ha j x hj
  · exact absurd (hG 0 _ rfl).lt (Nat.not_lt.mpr hj)
def zlv (kd vl fr tl v d : Int) : Prop := (kd = 2 ∨ vl = v) ∧ fr ≤ d ∧ ((kd = 0 ∧ d < tl) ∨ (kd ≠ 0 ∧ d < tl + 10))
/-- people at their cells: n of them, an their addresses -/
def zkc (kd : Int) : Nat := (3 - kd).toNat
def zNm (E : zE) (n : Int) (an : Int → Nat) (kd vl nb fr tl : Int → Int) (H : Heap) : Prop := ∀ x, 0 ≤ x → x < n → zP E [(an x, .inr (zkc (kd x), [.int (jI (vl x)), .int (jI (nb x)), .int (jI (fr x)), .int (jI (tl x))]))] H
theorem zNm_k {E : zE} {n : Int} {an : Int → Nat} {kd vl nb fr tl : Int → Int} {H : Heap} (h : zNm E n an kd vl nb fr tl H) {x K : Int} {ci : Nat} (hx : 0 ≤ x ∧ x < n) (hk : kd x = K) (hc : zkc K = ci) : zP E [(an x, .inr (ci, [.int (jI (vl x)), .int (jI (nb x)), .int (jI (fr x)), .int (jI (tl x))]))] H := by
  have := h x hx.1 hx.2
  rw [hk, hc] at this
  exact this
theorem zNm_keep {E : zE} {n : Int} {an : Int → Nat} {kd vl nb fr tl : Int → Int} {A : Nat → Prop} {s : State} {H : Heap} {locs : List Loc} (h : zNm E n an kd vl nb fr tl s.heap) (hS : va_S A s.heap H locs) (hNA : ∀ x, 0 ≤ x → x < n → ¬ A (an x)) : zNm E n an kd vl nb fr tl H := fun x h1 h2 => (h x h1 h2).kept fun k q hk => by
  have hl := (h x h1 h2 k q hk).lt
  have e : q.1 = an x := by
    have hk0 : k = 0 := by
      have := (List.getElem?_eq_some_iff.mp hk).1
      simpa using this
    subst hk0
    cases hk
    rfl
  exact hS.2.1 q.1 hl (by rw [e]; exact hNA x h1 h2)
def zAp (ws : va_W) (n : Int) (an : Int → Nat) : Prop := ∀ x, 0 ≤ x → x < n → ∀ (k : Nat) (e : va_E), ws[k]? ≠ some (an x, e)
theorem zNm_lt {E : zE} {n : Int} {an : Int → Nat} {kd vl nb fr tl : Int → Int} {H : Heap} (h : zNm E n an kd vl nb fr tl H) {x : Int} (h1 : 0 ≤ x) (h2 : x < n) : an x < H.size := (h x h1 h2 0 _ rfl).lt
theorem zNm_A {E : zE} {n : Int} {an : Int → Nat} {kd vl nb fr tl : Int → Int} {A : Nat → Prop} {ws : va_W} {s : State} (h : zNm E n an kd vl nb fr tl s.heap) (hAe : va_A ws s.heap.size = A) (ha : zAp ws n an) : ∀ x, 0 ≤ x → x < n → ¬ A (an x) := fun x h1 h2 => by
  rw [← hAe]
  rintro (⟨j, e, hj⟩ | hj)
  · exact ha x h1 h2 j e hj
  · exact absurd (zNm_lt h h1 h2) (Nat.not_lt.mpr hj)
theorem zAp_sub {ws wc : va_W} {n : Int} {an : Int → Nat} (h : zAp ws n an) (is : List Nat) (hs : is.map (fun i => ws[i]?) = wc.map some) : zAp wc n an := fun x h1 h2 k e hk => by
  have q1 : (is.map (fun i => ws[i]?))[k]? = some (some (an x, e)) := by rw [hs, List.getElem?_map, hk]; rfl
  rw [List.getElem?_map] at q1
  cases hi : is[k]? with
  | none => rw [hi] at q1; cases q1
  | some i => rw [hi] at q1; exact h x h1 h2 i e (Option.some.inj q1)
/-- only the addresses count -/
theorem zAp_adr {ws wc : va_W} {n : Int} {an : Int → Nat} (h : zAp ws n an) (hs : ws.map (fun q => q.1) = wc.map (fun q => q.1)) : zAp wc n an := fun x h1 h2 k e hk => by
  have q1 : (wc.map (fun q => q.1))[k]? = some (an x) := by rw [List.getElem?_map, hk]; rfl
  rw [← hs, List.getElem?_map] at q1
  cases hi : ws[k]? with
  | none => rw [hi] at q1; cases q1
  | some q =>
    obtain ⟨a, e2⟩ := q
    rw [hi] at q1
    have e3 : a = an x := Option.some.inj q1
    exact h x h1 h2 k e2 (by rw [← e3]; exact hi)
theorem zNe_1 {t0 h : Nat} {e : va_E} (ha : h ≠ t0) : ∀ (k : Nat) (x : va_E), ([(t0, e)] : va_W)[k]? ≠ some (h, x) := by
  intro k x hk
  have hk0 : k = 0 := by
    have := (List.getElem?_eq_some_iff.mp hk).1
    simpa using this
  subst hk0
  cases hk
  exact ha rfl
