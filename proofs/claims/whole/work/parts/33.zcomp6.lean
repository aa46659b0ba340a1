/-! rows of people of one length, in their order -/
def zRowL (n L R : Int) : Prop := (0 ≤ R ∧ R < 1331) ∧ ((L = 0 ∧ zda R = 10 ∧ zdb R = 10 ∧ zdc R = 10) ∨ (L = 1 ∧ zda R < n ∧ zdb R = 10 ∧ zdc R = 10) ∨ (L = 2 ∧ zda R < zdb R ∧ zdb R < n ∧ zdc R = 10) ∨ (L = 3 ∧ zda R < zdb R ∧ zdb R < zdc R ∧ zdc R < n))
def zcg (L : Int) (ch : Int → Int) (i : Int) : Int := if i < L then ch i else 10
def zcd (L : Int) (ch : Int → Int) : Int := 121 * zcg L ch 0 + 11 * zcg L ch 1 + zcg L ch 2
theorem zcg_or (L : Int) (ch : Int → Int) (i : Int) : (i < L ∧ zcg L ch i = ch i) ∨ (L ≤ i ∧ zcg L ch i = 10) := by
  unfold zcg
  by_cases h : i < L
  · rw [if_pos h]; exact Or.inl ⟨h, rfl⟩
  · rw [if_neg h]; exact Or.inr ⟨by omega, rfl⟩
/-- a chosen row: it grows, below n -/
def zCh (n L : Int) (ch : Int → Int) : Prop := (0 ≤ L ∧ L ≤ 3) ∧ (1 ≤ L → 0 ≤ ch 0 ∧ ch 0 ≤ n - L) ∧ (2 ≤ L → ch 0 < ch 1 ∧ ch 1 ≤ n - L + 1) ∧ (3 ≤ L → ch 1 < ch 2 ∧ ch 2 ≤ n - L + 2)
theorem zcd_dig {n L : Int} {ch : Int → Int} (h : zCh n L ch) (hn : n ≤ 10) : (0 ≤ zcd L ch ∧ zcd L ch < 1331) ∧ zda (zcd L ch) = zcg L ch 0 ∧ zdb (zcd L ch) = zcg L ch 1 ∧ zdc (zcd L ch) = zcg L ch 2 := by
  obtain ⟨h0, h1, h2, h3⟩ := h
  have g0 := zcg_or L ch 0
  have g1 := zcg_or L ch 1
  have g2 := zcg_or L ch 2
  unfold zda zdb zdc zcd
  omega
theorem zCh_row {n L : Int} {ch : Int → Int} (h : zCh n L ch) (hn : n ≤ 10) : zRowL n L (zcd L ch) := by
  obtain ⟨d0, d1, d2, d3⟩ := zcd_dig h hn
  obtain ⟨h0, h1, h2, h3⟩ := h
  have g0 := zcg_or L ch 0
  have g1 := zcg_or L ch 1
  have g2 := zcg_or L ch 2
  refine ⟨d0, ?_⟩
  rw [d1, d2, d3]
  omega
theorem zdig (R : Int) : R = 121 * zda R + 11 * zdb R + zdc R ∧ (0 ≤ zdb R ∧ zdb R ≤ 10) ∧ (0 ≤ zdc R ∧ zdc R ≤ 10) := by
  unfold zda zdb zdc
  omega
def zc2 (x : Int) : Int := x * (x - 1) / 2
def zc3 (x : Int) : Int := x * (x - 1) * (x - 2) / 6
theorem zc2_n : ∀ m : Nat, m < 11 → zc2 ((m : Int) + 1) = zc2 m + m := by decide +kernel
theorem zc3_n : ∀ m : Nat, m < 11 → zc3 ((m : Int) + 1) = zc3 m + zc2 m := by decide +kernel
theorem zc2_b : ∀ m : Nat, m < 11 → 0 ≤ zc2 m ∧ zc2 m ≤ 45 := by decide +kernel
theorem zc3_b : ∀ m : Nat, m < 11 → 0 ≤ zc3 m ∧ zc3 m ≤ 120 := by decide +kernel
theorem zc2_s {x : Int} (h : 1 ≤ x ∧ x ≤ 10) : zc2 x = zc2 (x - 1) + (x - 1) := by
  have := zc2_n (x - 1).toNat (by omega)
  rw [show (((x - 1).toNat : Nat) : Int) = x - 1 by omega, show x - 1 + 1 = x by omega] at this
  exact this
theorem zc3_s {x : Int} (h : 1 ≤ x ∧ x ≤ 10) : zc3 x = zc3 (x - 1) + zc2 (x - 1) := by
  have := zc3_n (x - 1).toNat (by omega)
  rw [show (((x - 1).toNat : Nat) : Int) = x - 1 by omega, show x - 1 + 1 = x by omega] at this
  exact this
theorem zc2_r {x : Int} (h : 0 ≤ x ∧ x ≤ 10) : 0 ≤ zc2 x ∧ zc2 x ≤ 45 := by
  have := zc2_b x.toNat (by omega)
  rw [show ((x.toNat : Nat) : Int) = x by omega] at this
  exact this
theorem zc3_r {x : Int} (h : 0 ≤ x ∧ x ≤ 10) : 0 ≤ zc3 x ∧ zc3 x ≤ 120 := by
  have := zc3_b x.toNat (by omega)
  rw [show ((x.toNat : Nat) : Int) = x by omega] at this
  exact this
/-- how many rows of the length come after -/
def zRem (n L : Int) (ch : Int → Int) : Int := if L = 0 then 0 else if L = 1 then n - 1 - ch 0 else if L = 2 then (n - 1 - ch 1) + zc2 (n - 1 - ch 0) else (n - 1 - ch 2) + zc2 (n - 1 - ch 1) + zc3 (n - 1 - ch 0)
theorem zRem_is (n L : Int) (ch : Int → Int) (h : 0 ≤ L ∧ L ≤ 3) : (L = 0 ∧ zRem n L ch = 0) ∨ (L = 1 ∧ zRem n L ch = n - 1 - ch 0) ∨ (L = 2 ∧ zRem n L ch = (n - 1 - ch 1) + zc2 (n - 1 - ch 0)) ∨ (L = 3 ∧ zRem n L ch = (n - 1 - ch 2) + zc2 (n - 1 - ch 1) + zc3 (n - 1 - ch 0)) := by
  unfold zRem
  by_cases e0 : L = 0
  · rw [if_pos e0]; exact Or.inl ⟨e0, rfl⟩
  · rw [if_neg e0]
    by_cases e1 : L = 1
    · rw [if_pos e1]; exact Or.inr (Or.inl ⟨e1, rfl⟩)
    · rw [if_neg e1]
      by_cases e2 : L = 2
      · rw [if_pos e2]; exact Or.inr (Or.inr (Or.inl ⟨e2, rfl⟩))
      · rw [if_neg e2]; exact Or.inr (Or.inr (Or.inr ⟨by omega, rfl⟩))
/-- the first row -/
theorem zFirst_row {n L : Int} {ch : Int → Int} (hn : 0 ≤ n ∧ n ≤ 10) (hL : 0 ≤ L ∧ L ≤ 3 ∧ L ≤ n) (h : ∀ i, 0 ≤ i → i < L → ch i = i) : zCh n L ch ∧ zRem n L ch ≤ 119 ∧ ∀ y, zRowL n L y → zcd L ch ≤ y := by
  have c0 := h 0 (by omega)
  have c1 := h 1 (by omega)
  have c2 := h 2 (by omega)
  have g0 := zcg_or L ch 0
  have g1 := zcg_or L ch 1
  have g2 := zcg_or L ch 2
  refine ⟨⟨by omega, fun q => by omega, fun q => by omega, fun q => by omega⟩, ?_, fun y hy => ?_⟩
  · rcases zRem_is n L ch (by omega) with e | e | e | e
    · omega
    · omega
    · have := zc2_r (x := n - 1 - ch 0) (by omega)
      omega
    · rw [e.2, c0 (by omega), c1 (by omega), c2 (by omega)]
      have t1 := zc2_s (x := n - 1) (by omega)
      have t2 := zc3_s (x := n - 1 + 1) (by omega)
      have t3 := zc3_r (x := n - 1 + 1) (by omega)
      rw [show n - 1 + 1 - 1 = n - 1 by omega] at t2
      rw [show n - 1 - 0 = n - 1 by omega]
      omega
  · obtain ⟨y0, y1⟩ := hy
    have hd := zdig y
    unfold zcd
    omega
def zNx (n L : Int) (ch : Int → Int) (r : Int) (u : Int → Int) : Prop := (r = 0 ∧ (∀ b, 0 ≤ b → b < L → n - L + b ≤ ch b)) ∨ (r = 1 ∧ ∃ at1, (0 ≤ at1 ∧ at1 < L) ∧ ch at1 < n - L + at1 ∧ (∀ b, at1 < b → b < L → n - L + b ≤ ch b) ∧ (∀ b, 0 ≤ b → b < at1 → u b = ch b) ∧ ∀ b, at1 ≤ b → b < L → u b = ch at1 + 1 + (b - at1))
theorem zNx_no {n L r : Int} {ch u : Int → Int} (hn : 0 ≤ n ∧ n ≤ 10) (hc : zCh n L ch) (h : zNx n L ch r u) (hr : r = 0) : ∀ y, zRowL n L y → y ≤ zcd L ch := by
  rcases h with ⟨_, h⟩ | ⟨h, _⟩
  · intro y ⟨y0, y1⟩
    obtain ⟨h0, h1, h2, h3⟩ := hc
    have b0 := h 0 (by omega)
    have b1 := h 1 (by omega)
    have b2 := h 2 (by omega)
    have g0 := zcg_or L ch 0
    have g1 := zcg_or L ch 1
    have g2 := zcg_or L ch 2
    have hd := zdig y
    unfold zcd
    omega
  · omega
theorem zNx_yes {n L r : Int} {ch u : Int → Int} (hn : 0 ≤ n ∧ n ≤ 10) (hc : zCh n L ch) (h : zNx n L ch r u) (hr : r ≠ 0) : zCh n L u ∧ zRem n L u = zRem n L ch - 1 ∧ ∀ y, zRowL n L y → zcd L ch < y → zcd L u ≤ y := by
  rcases h with ⟨h, _⟩ | ⟨_, at1, ha, hlt, hb, hk, hu⟩
  · omega
  · obtain ⟨h0, h1, h2, h3⟩ := hc
    have g0 := zcg_or L ch 0
    have g1 := zcg_or L ch 1
    have g2 := zcg_or L ch 2
    have f0 := zcg_or L u 0
    have f1 := zcg_or L u 1
    have f2 := zcg_or L u 2
    have b1 := hb 1
    have b2 := hb 2
    have k0 := hk 0 (by omega)
    have k1 := hk 1 (by omega)
    have u0 := hu 0
    have u1 := hu 1
    have u2 := hu 2
    have ha3 : at1 = 0 ∨ at1 = 1 ∨ at1 = 2 := by omega
    rcases ha3 with e | e | e <;> subst e
    · refine ⟨⟨by omega, fun q => by omega, fun q => by omega, fun q => by omega⟩, ?_, fun y ⟨y0, y1⟩ hy => ?_⟩
      · rcases zRem_is n L ch (by omega) with e | e | e | e <;> rcases zRem_is n L u (by omega) with d | d | d | d <;> try omega
        · have t1 := zc2_s (x := n - 1 - ch 0) (by omega)
          rw [d.2, e.2, u0 (by omega) (by omega), u1 (by omega) (by omega), show n - 1 - (ch 0 + 1 + (0 - 0)) = n - 1 - ch 0 - 1 by omega]
          omega
        · have t1 := zc3_s (x := n - 1 - ch 0) (by omega)
          have t2 := zc2_s (x := n - 1 - ch 0 - 1) (by omega)
          have t3 : n - 1 - ch 1 = 1 := by omega
          have t4 : zc2 1 = 0 := by decide +kernel
          rw [d.2, e.2, u0 (by omega) (by omega), u1 (by omega) (by omega), u2 (by omega) (by omega), t3, t4, show n - 1 - (ch 0 + 1 + (0 - 0)) = n - 1 - ch 0 - 1 by omega, show n - 1 - (ch 0 + 1 + (1 - 0)) = n - 1 - ch 0 - 1 - 1 by omega]
          omega
      · have hd := zdig y
        unfold zcd at *
        rcases Int.lt_trichotomy (zda y) (ch 0) with q | q | q <;> rcases Int.lt_trichotomy (zdb y) (ch 1) with p | p | p <;> rcases Int.lt_trichotomy (zdc y) (ch 2) with o | o | o <;> omega
    · refine ⟨⟨by omega, fun q => by omega, fun q => by omega, fun q => by omega⟩, ?_, fun y ⟨y0, y1⟩ hy => ?_⟩
      · rcases zRem_is n L ch (by omega) with e | e | e | e <;> rcases zRem_is n L u (by omega) with d | d | d | d <;> try omega
        · rw [d.2, e.2, k0 (by omega), u1 (by omega) (by omega)]
          omega
        · have t2 := zc2_s (x := n - 1 - ch 1) (by omega)
          rw [d.2, e.2, k0 (by omega), u1 (by omega) (by omega), u2 (by omega) (by omega), show n - 1 - (ch 1 + 1 + (1 - 1)) = n - 1 - ch 1 - 1 by omega]
          omega
      · have hd := zdig y
        unfold zcd at *
        rcases Int.lt_trichotomy (zda y) (ch 0) with q | q | q <;> rcases Int.lt_trichotomy (zdb y) (ch 1) with p | p | p <;> rcases Int.lt_trichotomy (zdc y) (ch 2) with o | o | o <;> omega
    · refine ⟨⟨by omega, fun q => by omega, fun q => by omega, fun q => by omega⟩, ?_, fun y ⟨y0, y1⟩ hy => ?_⟩
      · rcases zRem_is n L ch (by omega) with e | e | e | e <;> rcases zRem_is n L u (by omega) with d | d | d | d <;> try omega
        rw [d.2, e.2, k0 (by omega), k1 (by omega), u2 (by omega) (by omega)]
        omega
      · have hd := zdig y
        unfold zcd at *
        rcases Int.lt_trichotomy (zda y) (ch 0) with q | q | q <;> rcases Int.lt_trichotomy (zdb y) (ch 1) with p | p | p <;> rcases Int.lt_trichotomy (zdc y) (ch 2) with o | o | o <;> omega
