theorem zTwo_a {t : Int → Int} {n A lo mo d : Int} (h : zFig t n A d) (hd : d < 0) : zTwo t n A lo mo (-9) A := Or.inl ⟨Or.inl (zFig_neg h hd), rfl, rfl⟩
theorem zTwo_b {t : Int → Int} {n A lo mo d : Int} (h : zFig t n A d) (hd : 0 ≤ d) (h2 : mo < 10 * d ∨ 10 * d + 9 < lo) : zTwo t n A lo mo (-9) A := by
  obtain ⟨q1, q2, q3⟩ := zFig_pos h hd
  exact Or.inl ⟨Or.inr ⟨q1, by omega⟩, rfl, rfl⟩
theorem zTwo_c {t : Int → Int} {n A lo mo d f : Int} (h : zFig t n A d) (hf : zFig t n (A + 1) f) (hd : 0 ≤ d ∧ f < 0) (h2 : 10 * d ≤ mo ∧ lo ≤ 10 * d + 9) : zTwo t n A lo mo (-9) (A + 1) := by
  obtain ⟨q1, q2, q3⟩ := zFig_pos h hd.1
  exact Or.inr (Or.inl ⟨by omega, q1, zFig_neg hf hd.2, rfl, rfl⟩)
theorem zTwo_d {t : Int → Int} {n A lo mo d f : Int} (h : zFig t n A d) (hf : zFig t n (A + 1) f) (hd : 0 ≤ d ∧ 0 ≤ f) (h2 : 10 * d ≤ mo ∧ lo ≤ 10 * d + 9) (h3 : lo ≤ 10 * d + f ∧ 10 * d + f ≤ mo) : zTwo t n A lo mo (10 * d + f) (A + 2) := by
  obtain ⟨q1, q2, q3⟩ := zFig_pos h hd.1
  obtain ⟨p1, p2, p3⟩ := zFig_pos hf hd.2
  exact Or.inr (Or.inr ⟨by omega, q1, p1, Or.inl ⟨by omega, by omega, by omega, rfl⟩⟩)
theorem zTwo_e {t : Int → Int} {n A lo mo d f : Int} (h : zFig t n A d) (hf : zFig t n (A + 1) f) (hd : 0 ≤ d ∧ 0 ≤ f) (h2 : 10 * d ≤ mo ∧ lo ≤ 10 * d + 9) (h3 : 10 * d + f < lo ∨ mo < 10 * d + f) : zTwo t n A lo mo (-9) (A + 0) := by
  obtain ⟨q1, q2, q3⟩ := zFig_pos h hd.1
  obtain ⟨p1, p2, p3⟩ := zFig_pos hf hd.2
  exact Or.inr (Or.inr ⟨by omega, q1, p1, Or.inr ⟨by omega, rfl, Int.add_zero A⟩⟩)
theorem zTwo_rng {t : Int → Int} {n A lo mo r u : Int} (h : zTwo t n A lo mo r u) : (-9 ≤ r ∧ r ≤ 99) ∧ (A ≤ u ∧ u ≤ A + 2) := by
  unfold zTwo zDg at h
  omega
theorem zGo_8 {t : Int → Int} {A x : Int} (hA : A = 9 * x - 1) (hx : 1 ≤ x ∧ x ≤ 9) (ht : t A = 59) : zGo t A := by
  refine (zGo_at (b := 9 * (x - 1)) (k := 8) (by omega) (by omega) (by omega)).mpr ?_
  unfold zG
  rw [show 9 * (x - 1) + 8 = A by omega]
  omega
theorem zPar_8 {t : Int → Int} {n A x : Int} (hA : A = 9 * x - 1) (hx : 1 ≤ x ∧ x ≤ 10) (hn : A < n) (ha : zAllGo t A) (ht : t A ≠ 59 ∨ x = 10) : (0 ≤ A ∧ A ≤ n) ∧ zParse t n A := by
  refine ⟨by omega, zParse_at ha (by omega) (fun q => ?_) (fun q => by have := q.1; omega)⟩
  have q := ((zGo_at (b := 9 * (x - 1)) (k := 8) (by omega) (by omega) (by omega)).mp q).2.2.2.2.2.2.2.2 rfl
  rw [show 9 * (x - 1) + 8 = A by omega] at q
  omega
theorem zGo_0 {t : Int → Int} {A x : Int} (hA : A = 9 * x) (ht : t A = 110 ∨ t A = 108 ∨ t A = 102) : zGo t A := by
  refine (zGo_at (b := 9 * x) (k := 0) (by omega) (by omega) (by omega)).mpr ?_
  unfold zG
  rw [← hA]
  omega
theorem zPar_0 {t : Int → Int} {n A x : Int} (hA : A = 9 * x) (hx : 0 ≤ x) (hn : A ≤ n) (ha : zAllGo t A) (ht : A < n → t A ≠ 110 ∧ t A ≠ 108 ∧ t A ≠ 102) : (0 ≤ A ∧ A ≤ n) ∧ zParse t n A := by
  refine ⟨by omega, ?_⟩
  by_cases e : A = n
  · rw [← e]; exact zParse_end ha (by omega)
  · refine zParse_at ha (by omega) (fun q => ?_) (fun q => by have := q.1; omega)
    have q := ((zGo_at (b := 9 * x) (k := 0) (by omega) (by omega) (by omega)).mp q).1 rfl
    rw [← hA] at q
    have := ht (by omega)
    omega
theorem zGo_1 {t : Int → Int} {n A x r : Int} (hA : A = 9 * x + 1) (h : zFig t n A r) (hr : 0 ≤ r ∧ r ≤ 1) : zGo t A ∧ A < n ∧ r = zVl t x := by
  obtain ⟨q1, q2, q3⟩ := zFig_pos h hr.1
  have q4 := q1.1
  refine ⟨(zGo_at (b := 9 * x) (k := 1) (by omega) (by omega) (by omega)).mpr ?_, q4, ?_⟩
  · unfold zG
    rw [← hA]
    omega
  · unfold zVl
    rw [← hA]
    exact q2
theorem zPar_1 {t : Int → Int} {n A x r : Int} (hA : A = 9 * x + 1) (hx : 0 ≤ x) (hn : A ≤ n) (ha : zAllGo t A) (h : zFig t n A r) (hr : r < 0 ∨ 1 < r) : (0 ≤ A ∧ A ≤ n) ∧ zParse t n A := by
  refine ⟨by omega, ?_⟩
  by_cases e : A = n
  · rw [← e]; exact zParse_end ha (by omega)
  · refine zParse_at ha (by omega) (fun q => ?_) (fun q => by have := q.1; omega)
    have q := ((zGo_at (b := 9 * x) (k := 1) (by omega) (by omega) (by omega)).mp q).2.1 rfl
    rw [← hA] at q
    unfold zFig zDg at h
    omega
theorem zKd_is {t : Int → Int} {a x r : Int} (ha : a = 9 * x) (h : (t a = 110 ∧ r = 0) ∨ (t a = 108 ∧ r = 1) ∨ (t a = 102 ∧ r = 2)) : r = zKd t x := by
  unfold zKd
  rw [← ha]
  rcases h with ⟨h, e⟩ | ⟨h, e⟩ | ⟨h, e⟩
  · rw [if_pos h, e]
  · rw [if_neg (by omega), if_pos h, e]
  · rw [if_neg (by omega), if_neg (by omega), e]
theorem zu_cong {f : Int → Int} {i v w : Int} (h : v = w) : zu f i v = zu f i w := by rw [h]
theorem zRead_0 {t kd vl nb fr tl : Int → Int} : zRead t 0 kd vl nb fr tl := fun x h1 h2 => absurd h2 (by omega)
theorem zRead_next {t kd vl nb fr tl : Int → Int} {x : Int} (h : zRead t x kd vl nb fr tl) : zRead t (x + 1) (zu kd x (zKd t x)) (zu vl x (zVl t x)) (zu nb x (zNb t x)) (zu fr x (zFr t x)) (zu tl x (zTl t x)) := by
  refine zall_step (fun y h1 h2 => ?_) ⟨zu_s, zu_s, zu_s, zu_s, zu_s⟩
  rw [zu_n (by omega), zu_n (by omega), zu_n (by omega), zu_n (by omega), zu_n (by omega)]
  exact h y h1 h2
def zms (b x : Int) : Int := if b = 0 then 0 else x
theorem zms_or (b x : Int) : (b = 0 ∧ zms b x = 0) ∨ (b ≠ 0 ∧ zms b x = x) := by
  unfold zms
  by_cases h : b = 0
  · rw [if_pos h]; exact Or.inl ⟨h, rfl⟩
  · rw [if_neg h]; exact Or.inr ⟨h, rfl⟩
def zOne (t : Int → Int) (n rP : Int) (rk rv rn rf rt : Int → Int) (r rA' rP' : Int) (rk' rv' rn' rf' rt' : Int → Int) : Prop := (r = 1 ∧ (rA' = 9 * rP + 8 ∧ rA' ≤ n ∧ rP ≤ 9) ∧ zAllGo t rA' ∧ rP' = rP + 1 ∧ rk' = zu rk rP (zKd t rP) ∧ rv' = zu rv rP (zVl t rP) ∧ rn' = zu rn rP (zNb t rP) ∧ rf' = zu rf rP (zFr t rP) ∧ rt' = zu rt rP (zTl t rP)) ∨ (r = 0 ∧ (0 ≤ rA' ∧ rA' ≤ n) ∧ zParse t n rA')
def zRolls (t : Int → Int) (n : Int) (b rA rP : Int) (rk rv rn rf rt : Int → Int) : Prop := (b = 1 ∧ (rA = 9 * rP - 1 ∧ 1 ≤ rP ∧ rP ≤ 10 ∧ rA ≤ n) ∧ zAllGo t rA ∧ zRead t rP rk rv rn rf rt) ∨ (b = 0 ∧ (0 ≤ rA ∧ rA ≤ n) ∧ zParse t n rA)
theorem zRolls_next {t : Int → Int} {n rP r rA' rP' : Int} {rk rv rn rf rt rk' rv' rn' rf' rt' : Int → Int} (h : zOne t n rP rk rv rn rf rt r rA' rP' rk' rv' rn' rf' rt') (hr : zRead t rP rk rv rn rf rt) (h0 : 0 ≤ rP) : zRolls t n r rA' rP' rk' rv' rn' rf' rt' := by
  rcases h with ⟨h1, h2, h3, h4, h5, h6, h7, h8, h9⟩ | ⟨h1, h2, h3⟩
  · subst h4; subst h5; subst h6; subst h7; subst h8; subst h9
    exact Or.inl ⟨h1, by omega, h3, zRead_next hr⟩
  · exact Or.inr ⟨h1, h2, h3⟩
def zA_roll (ss sl sh : Int → Int) (k lane i n r f : Int) (ppl : Int) (kd vl nb fr tl : Int → Int) (ppl' : Int) (kd' vl' nb' fr' tl' : Int → Int) : Prop := ∃ b g, zBar ss sl k lane i n True b g ∧ ((b < 0 ∧ r = b ∧ f = g ∧ ppl' = ppl ∧ kd' = kd ∧ vl' = vl ∧ nb' = nb ∧ fr' = fr ∧ tl' = tl) ∨ (b = 0 ∧ f = 0 ∧ ∃ p, zParse (fun j => sh (100 * k + i + j)) n p ∧ ((0 ≤ p ∧ r = -100 - p ∧ ppl' = ppl ∧ kd' = kd ∧ vl' = vl ∧ nb' = nb ∧ fr' = fr ∧ tl' = tl) ∨ (p = -1 ∧ r = ppl' ∧ n = 9 * ppl' - 1 ∧ (1 ≤ ppl' ∧ ppl' ≤ 10) ∧ zRead (fun j => sh (100 * k + i + j)) ppl' kd' vl' nb' fr' tl'))))
theorem jI_wrap (z : Int) (h : -4294967296 ≤ z ∧ z ≤ 2147483647) : ∃ w : Int, jI z = jI w ∧ (-2147483648 ≤ w ∧ w ≤ 2147483647) ∧ ((-2147483648 ≤ z ∧ w = z) ∨ (z < -2147483648 ∧ w = z + 4294967296)) := by
  by_cases h2 : -2147483648 ≤ z
  · exact ⟨z, rfl, ⟨h2, h.2⟩, Or.inl ⟨h2, rfl⟩⟩
  · refine ⟨z + 4294967296, ?_, by omega, Or.inr ⟨by omega, rfl⟩⟩
    rw [← jI_add, show jI 4294967296 = 0 by decide +kernel, Int32.add_zero]
