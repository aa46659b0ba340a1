def zRel (la si ss sl : Int → Int) : Prop := ∀ k, 0 ≤ k → k ≤ 3 → (la k = -1 ∧ si k = 0 ∧ ss k = -1) ∨ ((0 ≤ la k ∧ la k ≤ 2) ∧ (0 ≤ si k ∧ si k ≤ 100) ∧ ss k = si k ∧ sl k = la k)
theorem zRel_ls {la si ss sl : Int → Int} (h : zRel la si ss sl) : zLs la si := fun k h1 h2 => by
  have := h k h1 h2
  omega
theorem zCanW_m1 {nb : Int → Int} {lv : Int → Prop} {n num : Int} : zCanW nb lv (-1) n num ↔ zCan nb lv n num :=
  ⟨fun ⟨x, a, b, d⟩ => ⟨x, a, d⟩, fun ⟨x, a, d⟩ => ⟨x, a, by omega, d⟩⟩
theorem zgcd_hit {x y d : Int} (hx : 0 ≤ x ∧ x ≤ 99) (hy : 0 ≤ y ∧ y ≤ 99) (hp : 0 < x ∨ 0 < y) (hd : 1 ≤ d) (h1 : x % d = 0) (h2 : y % d = 0) (hno : ∀ z, d < z → z ≤ 99 → ¬ (x % z = 0 ∧ y % z = 0)) : ((Int.gcd x y : Nat) : Int) = d := by
  have g1 : d ∣ ((Int.gcd x y : Nat) : Int) := Int.dvd_coe_gcd (Int.dvd_of_emod_eq_zero h1) (Int.dvd_of_emod_eq_zero h2)
  have g2 : ((Int.gcd x y : Nat) : Int) ∣ x := Int.gcd_dvd_left x y
  have g3 : ((Int.gcd x y : Nat) : Int) ∣ y := Int.gcd_dvd_right x y
  have pos : 0 < ((Int.gcd x y : Nat) : Int) := by
    rcases Int.lt_or_le 0 ((Int.gcd x y : Nat) : Int) with z | z
    · exact z
    · exfalso
      have e : ((Int.gcd x y : Nat) : Int) = 0 := by omega
      rw [e] at g2 g3
      have := Int.zero_dvd.mp g2
      have := Int.zero_dvd.mp g3
      omega
  have le : ((Int.gcd x y : Nat) : Int) ≤ 99 := by
    rcases hp with z | z
    · have := Int.le_of_dvd z g2; omega
    · have := Int.le_of_dvd z g3; omega
  have ge : d ≤ ((Int.gcd x y : Nat) : Int) := Int.le_of_dvd pos g1
  rcases Int.lt_or_eq_of_le ge with z | z
  · exact absurd ⟨Int.emod_eq_zero_of_dvd g2, Int.emod_eq_zero_of_dvd g3⟩ (hno _ z le)
  · exact z.symm
theorem zRefs_rng {ss sl : Int → Int} {v k lane i n r u : Int} {ok : Prop} (h : ((v < 0 ∨ 1 < v) ∧ r = -1 ∧ u = 0) ∨ ((0 ≤ v ∧ v ≤ 1) ∧ zBar ss sl k lane i n ok r u)) : -14 ≤ r ∧ r ≤ 0 := h.elim (fun q => by omega) (fun q => zBar_rng q.2)

theorem zBar_fa {la si ss sl : Int → Int} {k lane i n r : Int} {ok : Prop} (hrel : zRel la si ss sl) (hk : 0 ≤ k ∧ k ≤ 3) (hl : 0 ≤ lane ∧ lane ≤ 2) (ho : ok) (h : (la k = -1 ∧ r = 1) ∨ ((la k ≠ -1 ∧ la k = lane) ∧ r = 0) ∨ ((la k ≠ -1 ∧ la k ≠ lane) ∧ r = 2)) (h0 : r ≠ 0) : zBar ss sl k lane i n ok (-10 - r) r := by
  have hrk := hrel k hk.1 hk.2
  rcases h with ⟨q, e⟩ | ⟨q, e⟩ | ⟨q, e⟩
  · subst e; exact zBar_n hk hl ho (by omega)
  · exact absurd e h0
  · subst e; exact zBar_c hk hl ho (by omega)
theorem zRefs_ok {ss sl : Int → Int} {v k lane i n r u : Int} {ok : Prop} (h : ((v < 0 ∨ 1 < v) ∧ r = -1 ∧ u = 0) ∨ ((0 ≤ v ∧ v ≤ 1) ∧ zBar ss sl k lane i n ok r u)) (hr : 0 ≤ r) : (0 ≤ v ∧ v ≤ 1) ∧ zBar ss sl k lane i n ok 0 0 ∧ (u = 0 ∧ r = 0) ∧ ok ∧ ((0 ≤ k ∧ k ≤ 3) ∧ (0 ≤ lane ∧ lane ≤ 2) ∧ (0 ≤ n ∧ 0 ≤ i ∧ i + n ≤ ss k)) := by
  rcases h with ⟨q1, q2, q3⟩ | ⟨q1, q2⟩
  · omega
  · have q3 := q2
    rcases q2 with q | ⟨a, q | ⟨⟨b1, b2, b3⟩, q | q | ⟨c1, q | q | ⟨d1, d2, d3⟩⟩⟩⟩
    · omega
    · omega
    · omega
    · omega
    · omega
    · omega
    · subst d2; subst d3
      exact ⟨q1, q3, ⟨rfl, rfl⟩, b3, a, ⟨b1, b2⟩, d1⟩
theorem zRefs_no {ppl : Int} {ss sl sh : Int → Int} {v k lane i n r u : Int} {ok : Prop} (h : ((v < 0 ∨ 1 < v) ∧ r = -1 ∧ u = 0) ∨ ((0 ≤ v ∧ v ≤ 1) ∧ zBar ss sl k lane i n ok r u)) (hr : r < 0) : zRow ppl ss sl sh v k lane i n ok r u := h.elim Or.inl (fun q => Or.inr ⟨q.1, Or.inl ⟨hr, q.2⟩⟩)
theorem zMore_1 {c : Int → Prop} {mo : Int → Int} {num : Int} (h : mo 0 = num) (a : Int) : zMore c mo 1 a ↔ (c a ∨ a = num) := by
  constructor
  · rintro (q | ⟨i, q1, q2⟩)
    · exact Or.inl q
    · rw [show i = 0 by omega, h] at q2; exact Or.inr q2.symm
  · rintro (q | q)
    · exact Or.inl q
    · exact Or.inr ⟨0, by omega, h.trans q.symm⟩
theorem zRow_ok2 {ppl : Int} {la si ss sl sh : Int → Int} {v k lane i n r f : Int} {ok : Prop} (hrel : zRel la si ss sl) (h : zRow ppl ss sl sh v k lane i n ok r f) (hr : 0 ≤ r) : ((0 ≤ v ∧ v ≤ 1) ∧ (0 ≤ k ∧ k ≤ 3) ∧ (0 ≤ n ∧ n ≤ 20) ∧ (0 ≤ i ∧ i + n ≤ ss k)) ∧ (ss k = si k ∧ si k ≤ 100) ∧ ok ∧ (r = 0 ∧ f = 0) ∧ zPpl ppl (fun j => sh (100 * k + i + j)) n := by
  have hr2 := zRow_rng h
  have e : r = 0 := by omega
  subst e
  obtain ⟨q1, q2, q3, q4⟩ := zRow_ok h
  have hrk := hrel k (by omega) (by omega)
  exact ⟨⟨q1.1, q1.2.1, q1.2.2.2.1, q1.2.2.2.2⟩, by omega, q2, ⟨rfl, q4⟩, q3⟩
