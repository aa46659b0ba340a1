theorem zp_lt_n : ∀ y, y < 11 → ∀ x, x < y → 2 ^ x < 2 ^ y := by decide +kernel
theorem zp_two_n : ∀ z, z < 11 → ∀ y, y < z → ∀ x, x < y → 2 ^ x + 2 ^ y < 2 ^ z := by decide +kernel
theorem zp_nat (x : Int) : zp x = ((2 ^ x.toNat : Nat) : Int) := by unfold zp; rw [Int.natCast_pow]; rfl
theorem zp_lt {x y : Int} (h : 0 ≤ x ∧ x < y ∧ y ≤ 10) : zp x < zp y := by
  rw [zp_nat, zp_nat]
  have := zp_lt_n y.toNat (by omega) x.toNat (by omega)
  omega
theorem zp_two {x y z : Int} (h : 0 ≤ x ∧ x < y ∧ y < z ∧ z ≤ 10) : zp x + zp y < zp z := by
  rw [zp_nat, zp_nat, zp_nat]
  have := zp_two_n z.toNat (by omega) y.toNat (by omega) x.toNat (by omega)
  omega
theorem zp_le {x : Int} (h : x ≤ 9) : zp x ≤ 512 := by
  have key : ∀ n : Nat, n < 10 → 2 ^ n ≤ 512 := by decide +kernel
  rw [zp_nat]
  have := key x.toNat (by omega)
  omega
theorem zdp_or (x : Int) : (x < 10 ∧ zdp x = zp x) ∨ (10 ≤ x ∧ zdp x = 0) := by
  unfold zdp
  by_cases h : x < 10
  · rw [if_pos h]; exact Or.inl ⟨h, rfl⟩
  · rw [if_neg h]; exact Or.inr ⟨by omega, rfl⟩
def zAddS (c : Int → Prop) (nb : Int → Int) (n set : Int) (a : Int) : Prop := c a ∨ ∃ x, (0 ≤ x ∧ x < n) ∧ set / zp x % 2 = 1 ∧ nb x = a
theorem zAddS_0 {c : Int → Prop} {nb : Int → Int} {set : Int} {g : Int → Int} (h : zSet g c) : zSet g (zAddS c nb 0 set) := zSet_cong h (fun a _ _ => ⟨Or.inl, fun z => z.elim id (fun ⟨x, x1, _⟩ => by omega)⟩)
theorem zAddS_no {c : Int → Prop} {nb : Int → Int} {n set : Int} {g : Int → Int} (h : zSet g (zAddS c nb n set)) (hb : set / zp n % 2 ≠ 1) : zSet g (zAddS c nb (n + 1) set) := zSet_cong h (fun a _ _ => ⟨fun z => z.elim Or.inl (fun ⟨x, x1, x2⟩ => Or.inr ⟨x, by omega, x2⟩), fun z => z.elim Or.inl (fun ⟨x, x1, x2, x3⟩ => Or.inr ⟨x, ⟨x1.1, by
  rcases Int.lt_or_eq_of_le (show x ≤ n by omega) with e | e
  · exact e
  · exact absurd (e ▸ x2) hb⟩, x2, x3⟩)⟩)
theorem zAddS_yes {c : Int → Prop} {nb : Int → Int} {n set : Int} {g : Int → Int} (h : zSet g (zAddS c nb n set)) (hb : set / zp n % 2 = 1) (hn : 0 ≤ n) : zSet (zu g (nb n) 1) (zAddS c nb (n + 1) set) := by
  intro a h1 h2
  by_cases e : a = nb n
  · rw [zu_e e, zb_t (show zAddS c nb (n + 1) set a from Or.inr ⟨n, by omega, hb, e.symm⟩)]
  · rw [zu_n e, h a h1 h2]
    refine congrArg zb (propext ⟨fun z => z.elim Or.inl (fun ⟨x, x1, x2⟩ => Or.inr ⟨x, by omega, x2⟩), fun z => z.elim Or.inl (fun ⟨x, x1, x2, x3⟩ => Or.inr ⟨x, ⟨x1.1, ?_⟩, x2, x3⟩)⟩)
    rcases Int.lt_or_eq_of_le (show x ≤ n by omega) with q | q
    · exact q
    · subst q; exact absurd x3.symm e
def zWk (nb : Int → Int) (lv c : Int → Prop) (ppl w q : Int) (row : Int) : Prop := zVal ppl lv row ∧ zIn (zAddS c nb ppl (zset row)) w q
def zBackI (W : Int → Prop) (row best br : Int) : Prop := (best = -9 ∧ ∀ y, 0 ≤ y → y < row → ¬ W y) ∨ ((0 ≤ br ∧ br < row) ∧ W br ∧ best = zset br ∧ ∀ y, 0 ≤ y → y < row → W y → zlen br ≤ zlen y ∧ (y < br → zlen br < zlen y))
def zMinRow (W : Int → Prop) (R : Int) : Prop := (0 ≤ R ∧ R < 1331) ∧ W R ∧ ∀ y, 0 ≤ y → y < 1331 → W y → zlen R ≤ zlen y ∧ (y < R → zlen R < zlen y)
theorem zBackI_0 {W : Int → Prop} {br : Int} : zBackI W 0 (-9) br := Or.inl ⟨rfl, zall_0⟩
theorem zBackI_no {W : Int → Prop} {row best br : Int} (h : zBackI W row best br) (hw : ¬ W row) : zBackI W (row + 1) best br := by
  rcases h with ⟨h1, h2⟩ | ⟨h1, h2, h3, h4⟩
  · exact Or.inl ⟨h1, zall_step h2 hw⟩
  · exact Or.inr ⟨by omega, h2, h3, zall_step h4 (fun z => absurd z hw)⟩
theorem zBackI_ge {W : Int → Prop} {row best br : Int} (h : zBackI W row best br) (h0 : best ≠ -9) (hl : zlen br ≤ zlen row) : zBackI W (row + 1) best br := by
  rcases h with ⟨h1, h2⟩ | ⟨h1, h2, h3, h4⟩
  · exact absurd h1 h0
  · exact Or.inr ⟨by omega, h2, h3, zall_step h4 (fun z => ⟨hl, fun q => by omega⟩)⟩
theorem zBackI_new {W : Int → Prop} {row best br : Int} (h : zBackI W row best br) (hr : 0 ≤ row) (hw : W row) (hl : (best = -9 ∧ zset br ≠ -9) ∨ zlen row < zlen br ∨ ∀ y, 0 ≤ y → y < row → ¬ W y) : zBackI W (row + 1) (zset row) row := by
  refine Or.inr ⟨by omega, hw, rfl, zall_step (fun y h1 h2 hy => ?_) (fun _ => ⟨Int.le_refl _, fun q => by omega⟩)⟩
  rcases h with ⟨g1, g2⟩ | ⟨g1, g2, g3, g4⟩
  · exact absurd hy (g2 y h1 h2)
  · rcases hl with e | e | e
    · omega
    · have := g4 y h1 h2 hy
      omega
    · exact absurd hy (e y h1 h2)
theorem zlen_rng (row : Int) : 0 ≤ zlen row ∧ zlen row ≤ 3 := by
  have key : ∀ x, 0 ≤ zd1 x ∧ zd1 x ≤ 1 := fun x => by unfold zd1; split <;> omega
  have h1 := key (zda row)
  have h2 := key (zdb row)
  have h3 := key (zdc row)
  unfold zlen
  omega
def zBarg (t : Int → Int) (n : Int) : Prop := ∀ j, 0 ≤ j → j < n → 0 ≤ t j ∧ t j ≤ 999
noncomputable def zBcnt (c : Int → Prop) (w : Int) (t : Int → Int) (n num : Int) : Int := zcnt (fun x => zIn (fun a => c a ∨ a = num) w (t (x - 1))) n.toNat
def zArgI (f : Int → Int) (m best most : Int) : Prop := (m = 1 ∧ best = 0 ∧ most = -9) ∨ ((1 ≤ best ∧ best < m) ∧ most = f best ∧ (∀ x, 1 ≤ x → x < m → f x ≤ most) ∧ ∀ x, 1 ≤ x → x < best → f x < most)
theorem zArgI_new {f : Int → Int} {m b mo : Int} (h : zArgI f m b mo) (hm : 1 ≤ m) (hf : mo < f m) : zArgI f (m + 1) m (f m) := by
  refine Or.inr ⟨by omega, rfl, zall_step (fun x h1 h2 => ?_) (Int.le_refl _), fun x h1 h2 => ?_⟩ <;>
  · rcases h with ⟨g1, g2, g3⟩ | ⟨g1, g2, g3, g4⟩
    · omega
    · have := g3 x h1 h2; omega
theorem zArgI_keep {f : Int → Int} {m b mo : Int} (h : zArgI f m b mo) (hf : f m ≤ mo) (h0 : 0 ≤ f m) : zArgI f (m + 1) b mo := by
  rcases h with ⟨g1, g2, g3⟩ | ⟨g1, g2, g3, g4⟩
  · omega
  · exact Or.inr ⟨by omega, g2, zall_step g3 hf, g4⟩
theorem zArgI_end {f : Int → Int} {b mo : Int} (h : zArgI f 100 b mo) : zArg f b mo := by
  rcases h with ⟨g1, g2, g3⟩ | ⟨g1, g2, g3, g4⟩
  · omega
  · exact ⟨by omega, g2, fun x h1 h2 => g3 x h1 (by omega), g4⟩
theorem zArg_one {f : Int → Int} {a b ma mb : Int} (h : zArg f a ma) (h2 : zArg f b mb) : a = b ∧ ma = mb := by
  obtain ⟨p1, p2, p3, p4⟩ := h
  obtain ⟨q1, q2, q3, q4⟩ := h2
  have e : a = b := by
    rcases Int.lt_trichotomy a b with z | z | z
    · have := q4 a p1.1 z; have := p3 b q1.1 q1.2; omega
    · exact z
    · have := p4 b q1.1 z; have := q3 a p1.1 p1.2; omega
  subst e
  exact ⟨rfl, by omega⟩
theorem zSet_add {g : Int → Int} {c : Int → Prop} {num : Int} (h : zSet g c) : ∀ a, 1 ≤ a → a ≤ 99 → (zu g num 1 a = 1 ↔ (c a ∨ a = num)) := fun a h1 h2 => by
  by_cases e : a = num
  · rw [zu_e e]; exact ⟨fun _ => Or.inr e, fun _ => rfl⟩
  · rw [zu_n e]; exact ⟨fun z => Or.inl ((zSet_iff h a h1 h2).mp z), fun z => z.elim (fun q => (zSet_iff h a h1 h2).mpr q) (fun q => absurd q e)⟩
def zA_child (ppl : Int) (kd vl nb fr tl ss sl sh : Int → Int) (v d w k lane i n what r f : Int) : Prop := ((v < 0 ∨ 1 < v) ∧ r = -1 ∧ f = 0) ∨ ((0 ≤ v ∧ v ≤ 1) ∧ ∃ b g, zBar ss sl k lane i n ((0 ≤ d ∧ d ≤ 109) ∧ (1 ≤ w ∧ w ≤ 9) ∧ (0 ≤ what ∧ what ≤ 1)) b g ∧ ((b < 0 ∧ r = b ∧ f = g) ∨ (b = 0 ∧ f = 0 ∧ (((12 < n ∨ ¬ zBarg (fun j => sh (100 * k + i + j)) n) ∧ r = -2) ∨ ((n ≤ 12 ∧ zBarg (fun j => sh (100 * k + i + j)) n) ∧ ∃ best most, zArg (zBcnt (zCan nb (fun x => zlive kd vl fr tl x v d) ppl) w (fun j => sh (100 * k + i + j)) n) best most ∧ ((what = 0 ∧ r = best) ∨ (what = 1 ∧ r = most)))))))
def zA_back (ppl : Int) (kd vl nb fr tl : Int → Int) (q v d w k r : Int) : Prop := ((v < 0 ∨ 1 < v ∨ k < -1 ∨ 2 < k) ∧ r = -1) ∨ ((0 ≤ v ∧ v ≤ 1 ∧ -1 ≤ k ∧ k ≤ 2) ∧ (((q < 0 ∨ 999 < q ∨ d < 0 ∨ 109 < d ∨ w < 1 ∨ 9 < w) ∧ r = -2) ∨ ((0 ≤ q ∧ q ≤ 999 ∧ 0 ≤ d ∧ d ≤ 109 ∧ 1 ≤ w ∧ w ≤ 9) ∧ (((∀ y, 0 ≤ y → y < 1331 → ¬ zWk nb (fun x => zlive kd vl fr tl x v d) (zCan nb (fun x => zlive kd vl fr tl x v d) ppl) ppl w q y) ∧ r = -9) ∨ ∃ R, zMinRow (zWk nb (fun x => zlive kd vl fr tl x v d) (zCan nb (fun x => zlive kd vl fr tl x v d) ppl) ppl w q) R ∧ ((k = -1 ∧ r = zlen R) ∨ (k ≠ -1 ∧ zlen R ≤ k ∧ r = -9) ∨ ((0 ≤ k ∧ k < zlen R) ∧ ((k = 0 ∧ r = zda R) ∨ (k = 1 ∧ r = zdb R) ∨ (k = 2 ∧ r = zdc R))))))))
theorem zBackI_sg {nb : Int → Int} {lv c : Int → Prop} {ppl w q row best br : Int} (h : zBackI (zWk nb lv c ppl w q) row best br) (hr : row ≤ 1331) : (best = -9 ∧ ∀ y, 0 ≤ y → y < row → ¬ zWk nb lv c ppl w q y) ∨ ((0 ≤ best ∧ best < 1024) ∧ zpop best = zlen br ∧ (0 ≤ br ∧ br < row)) := by
  rcases h with ⟨h1, h2⟩ | ⟨h1, h2, h3, h4⟩
  · exact Or.inl ⟨h1, h2⟩
  · obtain ⟨g1, g2, g3⟩ := zset_facts (row := br) (by omega) h2.1
    rw [h3]
    exact Or.inr ⟨g1, g2, h1⟩
theorem zBackI_end {W : Int → Prop} {best br : Int} (h : zBackI W 1331 best br) (h2 : best ≠ -9) : zMinRow W br := by
  rcases h with ⟨h1, h3⟩ | ⟨h1, h3, h4, h5⟩
  · exact absurd h1 h2
  · exact ⟨h1, h3, h5⟩
theorem zMinRow_one {W : Int → Prop} {a b : Int} (h : zMinRow W a) (h2 : zMinRow W b) : a = b := by
  obtain ⟨p1, p2, p3⟩ := h
  obtain ⟨q1, q2, q3⟩ := h2
  rcases Int.lt_trichotomy a b with z | z | z
  · have := (q3 a p1.1 p1.2 p2).2 z; have := (p3 b q1.1 q1.2 q2).1; omega
  · exact z
  · have := (p3 b q1.1 q1.2 q2).2 z; have := (q3 a p1.1 p1.2 p2).1; omega
theorem zBar_ok {ss sl : Int → Int} {k lane i n : Int} {ok : Prop} {f : Int} (h : zBar ss sl k lane i n ok 0 f) : ok := by
  rcases h with q | ⟨q, q2 | ⟨⟨q3, q4, q5⟩, q6⟩⟩
  · omega
  · omega
  · exact q5
