def zRowS (c : Int → Prop) (nb : Int → Int) (R a : Int) : Prop := c a ∨ ∃ x, (0 ≤ x ∧ x < 10) ∧ (zda R = x ∨ zdb R = x ∨ zdc R = x) ∧ nb x = a
def zWr (c : Int → Prop) (nb : Int → Int) (w q R : Int) : Prop := zIn (zRowS c nb R) w q
theorem zMore_row {c : Int → Prop} {nb : Int → Int} {n L : Int} {ch nm : Int → Int} (hc : zCh n L ch) (hn : n ≤ 10) (hm : ∀ i, 0 ≤ i → i < L → nm i = nb (ch i)) (a : Int) : zMore c nm L a ↔ zRowS c nb (zcd L ch) a := by
  obtain ⟨d0, d1, d2, d3⟩ := zcd_dig hc hn
  obtain ⟨h0, h1, h2, h3⟩ := hc
  have g0 := zcg_or L ch 0
  have g1 := zcg_or L ch 1
  have g2 := zcg_or L ch 2
  unfold zMore zRowS
  rw [d1, d2, d3]
  constructor
  · rintro (h | ⟨i, i1, i2⟩)
    · exact Or.inl h
    · have hi : i = 0 ∨ i = 1 ∨ i = 2 := by omega
      have hmi := hm i i1.1 i1.2
      refine Or.inr ⟨ch i, ?_, ?_, by rw [← hmi]; exact i2⟩
      · rcases hi with e | e | e <;> subst e <;> omega
      · rcases hi with e | e | e <;> subst e <;> omega
  · rintro (h | ⟨x, x1, x2, x3⟩)
    · exact Or.inl h
    · rcases x2 with e | e | e
      · exact Or.inr ⟨0, by omega, by rw [hm 0 (by omega) (by omega), ← x3]; congr 1; omega⟩
      · exact Or.inr ⟨1, by omega, by rw [hm 1 (by omega) (by omega), ← x3]; congr 1; omega⟩
      · exact Or.inr ⟨2, by omega, by rw [hm 2 (by omega) (by omega), ← x3]; congr 1; omega⟩
theorem zlen_row {n L R : Int} (h : zRowL n L R) (hn : n ≤ 10) : zlen R = L := by
  obtain ⟨h0, h1⟩ := h
  have hd := zdig R
  have key : ∀ x, (x < 10 ∧ zd1 x = 1) ∨ (10 ≤ x ∧ zd1 x = 0) := fun x => by
    unfold zd1
    by_cases e : x < 10
    · rw [if_pos e]; exact Or.inl ⟨e, rfl⟩
    · rw [if_neg e]; exact Or.inr ⟨by omega, rfl⟩
  have k0 := key (zda R)
  have k1 := key (zdb R)
  have k2 := key (zdc R)
  unfold zlen
  omega
theorem zVal_row {n : Int} {lv : Int → Prop} {R : Int} (hr : 0 ≤ R ∧ R < 1331) (h : zVal n lv R) (hn : 0 ≤ n ∧ n ≤ 10) : zRowL n (zlen R) R := by
  obtain ⟨h1, h2, h3⟩ := h
  have hd := zdig R
  have ha : 0 ≤ zda R ∧ zda R ≤ 10 := by omega
  have key : ∀ x, (x < 10 ∧ zd1 x = 1) ∨ (10 ≤ x ∧ zd1 x = 0) := fun x => by
    unfold zd1
    by_cases e : x < 10
    · rw [if_pos e]; exact Or.inl ⟨e, rfl⟩
    · rw [if_neg e]; exact Or.inr ⟨by omega, rfl⟩
  have k0 := key (zda R)
  have k1 := key (zdb R)
  have k2 := key (zdc R)
  have j1 : zda R < 10 → zda R < n := fun q => (h1 q).1
  have j2 : zdb R < 10 → (zda R < 10 ∧ zda R < zdb R ∧ zdb R < n) := fun q => (h2 q).1
  have j3 : zdc R < 10 → (zdb R < 10 ∧ zdb R < zdc R ∧ zdc R < n) := fun q => (h3 q).1
  refine ⟨hr, ?_⟩
  unfold zlen
  omega
theorem zWk_row {nb : Int → Int} {lv c : Int → Prop} {n w q R : Int} (hr : 0 ≤ R ∧ R < 1331) (hv : zVal n lv R) (hn : 0 ≤ n ∧ n ≤ 10) : zIn (zAddS c nb n (zset R)) w q ↔ zWr c nb w q R := by
  have hf := (zset_facts hr hv).2.2
  have hrow := zVal_row hr hv hn
  refine zIn_cong (fun a _ _ => ?_)
  constructor
  · rintro (h | ⟨x, x1, x2, x3⟩)
    · exact Or.inl h
    · exact Or.inr ⟨x, by omega, (hf x x1.1 (by omega)).mp x2, x3⟩
  · rintro (h | ⟨x, x1, x2, x3⟩)
    · exact Or.inl h
    · refine Or.inr ⟨x, ⟨x1.1, ?_⟩, (hf x x1.1 x1.2).mpr x2, x3⟩
      obtain ⟨_, h1⟩ := hrow
      have hd := zdig R
      omega
/-- without one of a row -/
theorem zRow_cut {c : Int → Prop} {nb : Int → Int} {n L R x w q : Int} (h : zRowL n L R) (hn : 0 ≤ n ∧ n ≤ 10) (hx : x < 10 ∧ (zda R = x ∨ zdb R = x ∨ zdc R = x)) (hc : c (nb x)) (hw : zWr c nb w q R) : 1 ≤ L ∧ ∃ R2, zRowL n (L - 1) R2 ∧ zWr c nb w q R2 := by
  obtain ⟨h0, h1⟩ := h
  have hd := zdig R
  have mk : ∀ a b c2 : Int, (0 ≤ a ∧ a ≤ 10) → (0 ≤ b ∧ b ≤ 10) → (0 ≤ c2 ∧ c2 ≤ 10) → zda (121 * a + 11 * b + c2) = a ∧ zdb (121 * a + 11 * b + c2) = b ∧ zdc (121 * a + 11 * b + c2) = c2 := fun a b c2 _ _ _ => by
    unfold zda zdb zdc; omega
  have fin : ∀ a b c2 : Int, (0 ≤ a ∧ a ≤ 10) → (0 ≤ b ∧ b ≤ 10) → (0 ≤ c2 ∧ c2 ≤ 10) → (∀ y, y < 10 → y ≠ x → (zda R = y ∨ zdb R = y ∨ zdc R = y) → (a = y ∨ b = y ∨ c2 = y)) → zWr c nb w q (121 * a + 11 * b + c2) := fun a b c2 ha hb hc2 hs => by
    obtain ⟨m1, m2, m3⟩ := mk a b c2 ha hb hc2
    refine zIn_mono (fun v _ _ hv => ?_) hw
    rcases hv with hv | ⟨y, y1, y2, y3⟩
    · exact Or.inl hv
    · by_cases e : y = x
      · subst e; rw [← y3]; exact Or.inl hc
      · refine Or.inr ⟨y, y1, ?_, y3⟩
        rw [m1, m2, m3]
        exact hs y y1.2 e y2
  have one : ∀ a b c2 : Int, (0 ≤ a ∧ a ≤ 10) → (0 ≤ b ∧ b ≤ 10) → (0 ≤ c2 ∧ c2 ≤ 10) → ((L - 1 = 0 ∧ a = 10 ∧ b = 10 ∧ c2 = 10) ∨ (L - 1 = 1 ∧ a < n ∧ b = 10 ∧ c2 = 10) ∨ (L - 1 = 2 ∧ a < b ∧ b < n ∧ c2 = 10)) → (∀ y, y < 10 → y ≠ x → (zda R = y ∨ zdb R = y ∨ zdc R = y) → (a = y ∨ b = y ∨ c2 = y)) → ∃ R2, zRowL n (L - 1) R2 ∧ zWr c nb w q R2 := fun a b c2 ha hb hc2 hr hs => by
    obtain ⟨m1, m2, m3⟩ := mk a b c2 ha hb hc2
    refine ⟨121 * a + 11 * b + c2, ⟨by omega, ?_⟩, fin a b c2 ha hb hc2 hs⟩
    rw [m1, m2, m3]
    omega
  have ha0 : 0 ≤ zda R := by unfold zda; omega
  rcases h1 with ⟨e, e1, e2, e3⟩ | ⟨e, e1, e2, e3⟩ | ⟨e, e1, e2, e3⟩ | ⟨e, e1, e2, e3⟩
  · omega
  · exact ⟨by omega, one 10 10 10 (by omega) (by omega) (by omega) (by omega) (fun y y1 y2 y3 => by omega)⟩
  · refine ⟨by omega, ?_⟩
    rcases hx.2 with z | z | z
    · exact one (zdb R) 10 10 (by omega) (by omega) (by omega) (by omega) (fun y y1 y2 y3 => by omega)
    · exact one (zda R) 10 10 (by omega) (by omega) (by omega) (by omega) (fun y y1 y2 y3 => by omega)
    · omega
  · refine ⟨by omega, ?_⟩
    rcases hx.2 with z | z | z
    · exact one (zdb R) (zdc R) 10 (by omega) (by omega) (by omega) (by omega) (fun y y1 y2 y3 => by omega)
    · exact one (zda R) (zdc R) 10 (by omega) (by omega) (by omega) (by omega) (fun y y1 y2 y3 => by omega)
    · exact one (zda R) (zdb R) 10 (by omega) (by omega) (by omega) (by omega) (fun y y1 y2 y3 => by omega)
/-- no row of a length up to L does -/
def zNoRow (c : Int → Prop) (nb : Int → Int) (n w q L : Int) : Prop := ∀ k, 0 ≤ k → k < L → ∀ y, zRowL n k y → ¬ zWr c nb w q y
theorem zSearch_none {nb : Int → Int} {lv c : Int → Prop} {n w q L : Int} (h : zNoRow c nb n w q L) (hn : 0 ≤ n ∧ n ≤ 10) (hL : 3 < L ∨ n < L) : ∀ y, 0 ≤ y → y < 1331 → ¬ zWk nb lv c n w q y := fun y h1 h2 ⟨v1, v2⟩ => by
  have hr := zVal_row ⟨h1, h2⟩ v1 hn
  have hl := zlen_rng y
  have hln : zlen y ≤ n := by
    obtain ⟨_, q1⟩ := hr
    have hd := zdig y
    have : 0 ≤ zda y := by unfold zda; omega
    omega
  exact h (zlen y) hl.1 (by omega) y hr ((zWk_row ⟨h1, h2⟩ v1 hn).mp v2)
theorem zSearch_hit {nb : Int → Int} {lv : Int → Prop} {n w q L R : Int} (h : zNoRow (zCan nb lv n) nb n w q L) (hn : 0 ≤ n ∧ n ≤ 10) (hR : zRowL n L R) (hw : zWr (zCan nb lv n) nb w q R) (hlow : ∀ y, zRowL n L y → y < R → ¬ zWr (zCan nb lv n) nb w q y) : zMinRow (zWk nb lv (zCan nb lv n) n w q) R ∧ zlen R = L := by
  have hd := zdig R
  have hlen := zlen_row hR hn.2
  have ha0 : 0 ≤ zda R := by have := hR.1; unfold zda; omega
  have dead : ∀ x, 0 ≤ x → x < n → (zda R = x ∨ zdb R = x ∨ zdc R = x) → ¬ lv x := fun x x1 x2 x3 x4 => by
    obtain ⟨c1, R2, r1, r2⟩ := zRow_cut (c := zCan nb lv n) hR hn ⟨by omega, x3⟩ ⟨x, ⟨x1, x2⟩, rfl, x4⟩ hw
    exact h (L - 1) (by omega) (by omega) R2 r1 r2
  have hv : zVal n lv R := by
    obtain ⟨q0, q1⟩ := hR
    refine ⟨fun z => ⟨by omega, dead _ (by omega) (by omega) (Or.inl rfl)⟩, fun z => ⟨by omega, dead _ (by omega) (by omega) (Or.inr (Or.inl rfl))⟩, fun z => ⟨by omega, dead _ (by omega) (by omega) (Or.inr (Or.inr rfl))⟩⟩
  refine ⟨⟨hR.1, ⟨hv, (zWk_row hR.1 hv hn).mpr hw⟩, fun y y1 y2 ⟨v1, v2⟩ => ?_⟩, hlen⟩
  have hr := zVal_row ⟨y1, y2⟩ v1 hn
  have hl := zlen_rng y
  have g := (zWk_row ⟨y1, y2⟩ v1 hn).mp v2
  have ge : L ≤ zlen y := by
    rcases Int.lt_or_le (zlen y) L with z | z
    · exact absurd g (h _ hl.1 z y hr)
    · exact z
  refine ⟨by omega, fun hy => ?_⟩
  rcases Int.lt_or_eq_of_le ge with z | z
  · omega
  · rw [← z] at hr
    exact absurd g (hlow y hr hy)
theorem zRem_nn {n L : Int} {ch : Int → Int} (h : zCh n L ch) (hn : n ≤ 10) : 0 ≤ zRem n L ch := by
  obtain ⟨h0, h1, h2, h3⟩ := h
  rcases zRem_is n L ch h0 with e | e | e | e
  · omega
  · omega
  · have := zc2_r (x := n - 1 - ch 0) (by omega); omega
  · have := zc2_r (x := n - 1 - ch 1) (by omega)
    have := zc3_r (x := n - 1 - ch 0) (by omega)
    omega
theorem zCh_rng {n L : Int} {ch : Int → Int} (h : zCh n L ch) : ∀ b, 0 ≤ b → b < L → 0 ≤ ch b ∧ ch b < n := fun b b0 b1 => by
  obtain ⟨h0, h1, h2, h3⟩ := h
  have hb : b = 0 ∨ b = 1 ∨ b = 2 := by omega
  rcases hb with e | e | e <;> subst e <;> omega
def zSrch (c : Int → Prop) (nb : Int → Int) (n w q L row more : Int) (ch : Int → Int) : Prop := (more = 1 ∧ zCh n L ch ∧ row + zRem n L ch ≤ 119 ∧ ∀ y, zRowL n L y → y < zcd L ch → ¬ zWr c nb w q y) ∨ (more = 0 ∧ ∀ y, zRowL n L y → ¬ zWr c nb w q y)
theorem zSrch_a {c : Int → Prop} {nb : Int → Int} {n w q L row more : Int} {ch : Int → Int} (h : zSrch c nb n w q L row more ch) (hm : more ≠ 0) : zCh n L ch ∧ row + zRem n L ch ≤ 119 ∧ ∀ y, zRowL n L y → y < zcd L ch → ¬ zWr c nb w q y := h.elim (fun q => q.2) (fun q => absurd q.1 hm)
theorem zSrch_end {c : Int → Prop} {nb : Int → Int} {n w q L row more : Int} {ch : Int → Int} (h : zSrch c nb n w q L row more ch) (hn : n ≤ 10) (he : 120 ≤ row ∨ more = 0) : ∀ y, zRowL n L y → ¬ zWr c nb w q y := by
  rcases h with ⟨h1, h2, h3, h4⟩ | ⟨h1, h2⟩
  · have := zRem_nn h2 hn; omega
  · exact h2
theorem zNoRow_next {c : Int → Prop} {nb : Int → Int} {n w q L : Int} (h : zNoRow c nb n w q L) (h2 : ∀ y, zRowL n L y → ¬ zWr c nb w q y) : zNoRow c nb n w q (L + 1) := zall_step h h2
theorem zSrch_next {c : Int → Prop} {nb : Int → Int} {n w q L row more r : Int} {ch u : Int → Int} (h : zSrch c nb n w q L row more ch) (hm : more ≠ 0) (hn : 0 ≤ n ∧ n ≤ 10) (hw : ¬ zWr c nb w q (zcd L ch)) (hx : zNx n L ch r u) : zSrch c nb n w q L (row + 1) r u := by
  obtain ⟨h1, h2, h3⟩ := zSrch_a h hm
  by_cases hr : r = 0
  · refine Or.inr ⟨hr, fun y hy => ?_⟩
    have := zNx_no hn h1 hx hr y hy
    rcases Int.lt_or_eq_of_le this with z | z
    · exact h3 y hy z
    · rw [z]; exact hw
  · obtain ⟨g1, g2, g3⟩ := zNx_yes hn h1 hx hr
    have hr1 : r = 1 := by rcases hx with ⟨z, _⟩ | ⟨z, _⟩ <;> omega
    refine Or.inl ⟨hr1, g1, by omega, fun y hy hy2 => ?_⟩
    rcases Int.lt_trichotomy y (zcd L ch) with z | z | z
    · exact h3 y hy z
    · rw [z]; exact hw
    · have := g3 y hy z; omega
def zFound (W : Int → Prop) (r : Int) (ch : Int → Int) : Prop := (r = -9 ∧ ∀ y, 0 ≤ y → y < 1331 → ¬ W y) ∨ ((0 ≤ r ∧ r ≤ 3) ∧ ∃ R, zMinRow W R ∧ zlen R = r ∧ (1 ≤ r → ch 0 = zda R) ∧ (2 ≤ r → ch 1 = zdb R) ∧ (3 ≤ r → ch 2 = zdc R))
theorem zFound_hit {nb : Int → Int} {lv : Int → Prop} {n w q L row more : Int} {ch : Int → Int} (h : zNoRow (zCan nb lv n) nb n w q L) (hn : 0 ≤ n ∧ n ≤ 10) (hs : zSrch (zCan nb lv n) nb n w q L row more ch) (hm : more ≠ 0) (hw : zWr (zCan nb lv n) nb w q (zcd L ch)) : zFound (zWk nb lv (zCan nb lv n) n w q) L ch := by
  obtain ⟨h1, h2, h3⟩ := zSrch_a hs hm
  obtain ⟨g1, g2⟩ := zSearch_hit h hn (zCh_row h1 hn.2) hw h3
  obtain ⟨d0, d1, d2, d3⟩ := zcd_dig h1 hn.2
  have f0 := zcg_or L ch 0
  have f1 := zcg_or L ch 1
  have f2 := zcg_or L ch 2
  have hL := h1.1
  exact Or.inr ⟨hL, _, g1, g2, fun z => by omega, fun z => by omega, fun z => by omega⟩
