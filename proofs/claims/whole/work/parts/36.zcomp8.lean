def zRel (la si ss sl : Int → Int) : Prop := ∀ k, 0 ≤ k → k ≤ 3 → (la k = -1 ∧ si k = 0 ∧ ss k = -1) ∨ ((0 ≤ la k ∧ la k ≤ 2) ∧ (0 ≤ si k ∧ si k ≤ 100) ∧ ss k = si k ∧ sl k = la k)
theorem zRel_ls {la si ss sl : Int → Int} (h : zRel la si ss sl) : zLs la si := fun k h1 h2 => by
  have := h k h1 h2
  omega
theorem zCanW_m1 {nb : Int → Int} {lv : Int → Prop} {n num : Int} : zCanW nb lv (-1) n num ↔ zCan nb lv n num :=
  ⟨fun ⟨x, a, b, d⟩ => ⟨x, a, d⟩, fun ⟨x, a, d⟩ => ⟨x, a, by omega, d⟩⟩
theorem zgcd_hit {x y d : Int} (hx : 0 ≤ x ∧ x ≤ 99) (hy : 0 ≤ y ∧ y ≤ 99) (hp : 0 < x ∨ 0 < y) (hd : 1 ≤ d) (h1 : x % d = 0) (h2 : y % d = 0) (hno : ∀ z, d < z → z ≤ 99 → ¬ (x % z = 0 ∧ y % z = 0)) : ((Int.gcd x y : Nat) : Int) = d := by
  have g1 : d ∣ ((Int.gcd x y : Nat) : Int) := Int.dvd_coe_gcd (Int.dvd_of_emod_eq_zero h1) (Int.dvd_of_emod_eq_zero h2)
  have g2 : ((Int.gcd x y : Nat) : Int) ∣ x := Int.gcd_dvd_left x y
  have g3 : ((Int.gcd x y : Nat) : Int) ∣ y := Int.gcd_dvd_right x y
  have pos : 0 < ((Int.gcd x y : Nat) : Int) := by
    rcases Int.lt_or_le 0 ((Int.gcd x y : Nat) : Int) with z | z
    · exact z
    · exfalso
      have e : ((Int.gcd x y : Nat) : Int) = 0 := by omega
      rw [e] at g2 g3
      have := Int.zero_dvd.mp g2
      have := Int.zero_dvd.mp g3
      omega
  have le : ((Int.gcd x y : Nat) : Int) ≤ 99 := by
    rcases hp with z | z
    · have := Int.le_of_dvd z g2; omega
    · have := Int.le_of_dvd z g3; omega
  have ge : d ≤ ((Int.gcd x y : Nat) : Int) := Int.le_of_dvd pos g1
  rcases Int.lt_or_eq_of_le ge with z | z
  · exact absurd ⟨Int.emod_eq_zero_of_dvd g2, Int.emod_eq_zero_of_dvd g3⟩ (hno _ z le)
  · exact z.symm
theorem zRefs_rng {ss sl : Int → Int} {v k lane i n r u : Int} {ok : Prop} (h : ((v < 0 ∨ 1 < v) ∧ r = -1 ∧ u = 0) ∨ ((0 ≤ v ∧ v ≤ 1) ∧ zBar ss sl k lane i n ok r u)) : -14 ≤ r ∧ r ≤ 0 := h.elim (fun q => by omega) (fun q => zBar_rng q.2)
