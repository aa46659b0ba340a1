/-! tables of fewest numbers -/
theorem zSay_nn {c : Int → Prop} : ∀ {w : Nat} {q : Int}, zSay c w q → (w : Int) ≤ q
  | 0, q, h => by have h : q = 0 := h; omega
  | w + 1, q, ⟨a, h1, h2, h3⟩ => by have := zSay_nn h3; omega
theorem zSay_cong {c c' : Int → Prop} (hc : ∀ a, 1 ≤ a → a ≤ 99 → (c a ↔ c' a)) : ∀ {w : Nat} {q : Int}, zSay c w q ↔ zSay c' w q
  | 0, q => Iff.rfl
  | w + 1, q => ⟨fun ⟨a, h1, h2, h3⟩ => ⟨a, h1, (hc a h1.1 h1.2).mp h2, (zSay_cong hc).mp h3⟩, fun ⟨a, h1, h2, h3⟩ => ⟨a, h1, (hc a h1.1 h1.2).mpr h2, (zSay_cong hc).mpr h3⟩⟩
theorem zSay_mono {c c' : Int → Prop} (hc : ∀ a, 1 ≤ a → a ≤ 99 → c a → c' a) : ∀ {w : Nat} {q : Int}, zSay c w q → zSay c' w q
  | 0, q, h => h
  | w + 1, q, ⟨a, h1, h2, h3⟩ => ⟨a, h1, hc a h1.1 h1.2 h2, zSay_mono hc h3⟩
theorem zMin_cong {c c' : Int → Prop} (hc : ∀ a, 1 ≤ a → a ≤ 99 → (c a ↔ c' a)) {q : Int} {w : Nat} : zMin c q w ↔ zMin c' q w :=
  ⟨fun h => ⟨(zSay_cong hc).mp h.1, fun k hk q => h.2 k hk ((zSay_cong hc).mpr q)⟩, fun h => ⟨(zSay_cong hc).mpr h.1, fun k hk q => h.2 k hk ((zSay_cong hc).mp q)⟩⟩
theorem zMin_one {c : Int → Prop} {q : Int} {v w : Nat} (h : zMin c q v) (h2 : zMin c q w) : v = w := by
  rcases Nat.lt_trichotomy v w with a | a | a
  · exact absurd h.1 (h2.2 v a)
  · exact a
  · exact absurd h2.1 (h.2 w a)
theorem zMin_ex {c : Int → Prop} {q : Int} : ∀ {w : Nat}, zSay c w q → ∃ v, v ≤ w ∧ zMin c q v := by
  intro w
  induction w using Nat.strongRecOn with
  | ind w ih =>
    intro h
    by_cases hk : ∃ k, k < w ∧ zSay c k q
    · obtain ⟨k, h1, h2⟩ := hk
      obtain ⟨v, h3, h4⟩ := ih k h1 h2
      exact ⟨v, by omega, h4⟩
    · exact ⟨w, Nat.le_refl _, h, fun k h1 h2 => hk ⟨k, h1, h2⟩⟩
theorem zTab_cong {c c' : Int → Prop} {t : Int → Int} {B nv : Int} (hc : ∀ a, 1 ≤ a → a ≤ 99 → (c a ↔ c' a)) (h : zTab c t B nv) : zTab c' t B nv := by
  intro q h1 h2
  rcases h q h1 h2 with ⟨w, h3, h4⟩ | ⟨h3, h4⟩
  · exact Or.inl ⟨w, (zMin_cong hc).mp h3, h4⟩
  · exact Or.inr ⟨fun w q => h3 w ((zSay_cong hc).mpr q), h4⟩
theorem zTab_rng {c : Int → Prop} {t : Int → Int} {B nv : Int} (h : zTab c t B nv) {q : Int} (h1 : 0 ≤ q) (h2 : q ≤ B) : (0 ≤ t q ∧ t q ≤ q) ∨ t q = nv := by
  rcases h q h1 h2 with ⟨w, h3, h4⟩ | ⟨h3, h4⟩
  · have := zSay_nn h3.1
    exact Or.inl ⟨by omega, by omega⟩
  · exact Or.inr h4
theorem zTab_upd {c : Int → Prop} {t : Int → Int} {B nv q v : Int} (h : zTab c t B nv) (hq : B < q) : zTab c (zu t q v) B nv := by
  intro x h1 h2
  rw [zu_n (by omega)]
  exact h x h1 h2
theorem zTab_le {c : Int → Prop} {t : Int → Int} {B nv w : Int} (h : zTab c t B nv) {q : Int} (h1 : 0 ≤ q) (h2 : q ≤ B) (hw : w < nv) : t q ≤ w ↔ zIn c w q := by
  rcases h q h1 h2 with ⟨v, h3, h4⟩ | ⟨h3, h4⟩
  · refine ⟨fun h => ⟨v, by omega, h3.1⟩, fun ⟨k, h5, h6⟩ => ?_⟩
    rcases Nat.lt_or_ge k v with a | a
    · exact absurd h6 (h3.2 k a)
    · omega
  · exact ⟨fun h => absurd h (by omega), fun ⟨k, h5, h6⟩ => absurd h6 (h3 k)⟩
theorem zTab_0 {c : Int → Prop} {t : Int → Int} {nv : Int} (h : t 0 = 0) : zTab c t 0 nv := by
  intro q h1 h2
  have e : q = 0 := by omega
  subst e
  exact Or.inl ⟨0, ⟨rfl, fun k hk => absurd hk (Nat.not_lt_zero k)⟩, by omega⟩
/-- the best of the numbers below a, for q -/
def zInner (c : Int → Prop) (q a val nv : Int) : Prop := (∃ w : Nat, (∃ b, (1 ≤ b ∧ b < a) ∧ c b ∧ zMin c (q - b) w) ∧ val = w + 1 ∧ ∀ b, 1 ≤ b → b < a → c b → ∀ v, zMin c (q - b) v → w ≤ v) ∨ (val = nv ∧ ∀ b, 1 ≤ b → b < a → c b → ∀ v, ¬ zMin c (q - b) v)
theorem zInner_1 {c : Int → Prop} {q nv : Int} : zInner c q 1 nv nv := Or.inr ⟨rfl, fun b h1 h2 => absurd h2 (by omega)⟩
theorem zInner_no {c : Int → Prop} {q a val nv : Int} (h : zInner c q a val nv) (hc : ¬ c a) : zInner c q (a + 1) val nv := by
  rcases h with ⟨w, ⟨b, h1, h2, h3⟩, h4, h5⟩ | ⟨h1, h2⟩
  · exact Or.inl ⟨w, ⟨b, by omega, h2, h3⟩, h4, fun x y1 y2 y3 => h5 x y1 (by rcases Int.lt_or_eq_of_le (show x ≤ a by omega) with z | z; exact z; exact absurd (z ▸ y3) hc) y3⟩
  · exact Or.inr ⟨h1, fun x y1 y2 y3 => h2 x y1 (by rcases Int.lt_or_eq_of_le (show x ≤ a by omega) with z | z; exact z; exact absurd (z ▸ y3) hc) y3⟩
theorem zInner_yes {c : Int → Prop} {t : Int → Int} {q a val nv r : Int} (h : zInner c q a val nv) (hT : zTab c t (q - 1) nv) (ha : 1 ≤ a ∧ a ≤ q ∧ q ≤ 999 ∧ 1000 ≤ nv) (hc : c a) (hr : (r = val ∧ val ≤ t (q - a) + 1) ∨ (r = t (q - a) + 1 ∧ t (q - a) + 1 ≤ val)) : zInner c q (a + 1) r nv := by
  have key : ∀ x, 1 ≤ x → x < a + 1 → x < a ∨ x = a := fun x _ _ => by omega
  rcases hT (q - a) (by omega) (by omega) with ⟨v, h3, h4⟩ | ⟨h3, h4⟩
  · rcases h with ⟨w, ⟨b, h1, h2, h5⟩, h6, h7⟩ | ⟨h1, h2⟩
    · by_cases hle : w ≤ v
      · refine Or.inl ⟨w, ⟨b, by omega, h2, h5⟩, by omega, fun x y1 y2 y3 z hz => ?_⟩
        rcases key x y1 y2 with e | e
        · exact h7 x y1 e y3 z hz
        · subst e; rw [zMin_one hz h3]; exact hle
      · refine Or.inl ⟨v, ⟨a, by omega, hc, h3⟩, by omega, fun x y1 y2 y3 z hz => ?_⟩
        rcases key x y1 y2 with e | e
        · have := h7 x y1 e y3 z hz; omega
        · subst e; rw [zMin_one hz h3]; exact Nat.le_refl _
    · have := zSay_nn h3.1
      refine Or.inl ⟨v, ⟨a, by omega, hc, h3⟩, by omega, fun x y1 y2 y3 z hz => ?_⟩
      rcases key x y1 y2 with e | e
      · exact absurd hz (h2 x y1 e y3 z)
      · subst e; rw [zMin_one hz h3]; exact Nat.le_refl _
  · rcases h with ⟨w, ⟨b, h1, h2, h5⟩, h6, h7⟩ | ⟨h1, h2⟩
    · have := zSay_nn h5.1
      refine Or.inl ⟨w, ⟨b, by omega, h2, h5⟩, by omega, fun x y1 y2 y3 z hz => ?_⟩
      rcases key x y1 y2 with e | e
      · exact h7 x y1 e y3 z hz
      · subst e; exact absurd hz.1 (h3 z)
    · refine Or.inr ⟨by omega, fun x y1 y2 y3 z hz => ?_⟩
      rcases key x y1 y2 with e | e
      · exact h2 x y1 e y3 z hz
      · subst e; exact h3 z hz.1
theorem zTab_next {c : Int → Prop} {t : Int → Int} {q a nv : Int} (hT : zTab c t (q - 1) nv) (h : zInner c q a (t q) nv) (hq : 1 ≤ q) (ha : a ≤ 100 ∧ (q < a ∨ 99 < a)) : zTab c t q nv := by
  intro x h1 h2
  rcases Int.lt_or_eq_of_le h2 with e | e
  · exact hT x h1 (by omega)
  · subst e
    have out : ∀ {k : Nat}, zSay c (k + 1) x → ∃ b, (1 ≤ b ∧ b < a) ∧ c b ∧ zSay c k (x - b) := fun ⟨b, g1, g2, g3⟩ => ⟨b, ⟨g1.1, by have := zSay_nn g3; omega⟩, g2, g3⟩
    rcases h with ⟨w, ⟨b, g1, g2, g3⟩, g4, g5⟩ | ⟨g1, g2⟩
    · have hb : b ≤ 99 := by omega
      refine Or.inl ⟨w + 1, ⟨⟨b, ⟨g1.1, hb⟩, g2, g3.1⟩, fun k hk hs => ?_⟩, by omega⟩
      cases k with
      | zero => have hs : x = 0 := hs; omega
      | succ k =>
        obtain ⟨d, d1, d2, d3⟩ := out hs
        obtain ⟨v, v1, v2⟩ := zMin_ex d3
        have := g5 d d1.1 d1.2 d2 v v2
        omega
    · refine Or.inr ⟨fun w hs => ?_, g1⟩
      cases w with
      | zero => have hs : x = 0 := hs; omega
      | succ k =>
        obtain ⟨d, d1, d2, d3⟩ := out hs
        obtain ⟨v, v1, v2⟩ := zMin_ex d3
        exact g2 d d1.1 d1.2 d2 v v2
def zSet (g : Int → Int) (c : Int → Prop) : Prop := ∀ num, 0 ≤ num → num ≤ 99 → g num = zb (c num)
theorem zSet_no {g nb : Int → Int} {lv : Int → Prop} {wo x : Int} (h : zSet g (zCanW nb lv wo x)) (hx : x = wo ∨ ¬ lv x) : zSet g (zCanW nb lv wo (x + 1)) := by
  intro num h1 h2
  rw [h num h1 h2]
  refine congrArg zb (propext ⟨fun ⟨y, a, b⟩ => ⟨y, by omega, b⟩, fun ⟨y, a, b, d, f⟩ => ⟨y, ⟨a.1, ?_⟩, b, d, f⟩⟩)
  rcases Int.lt_or_eq_of_le (show y ≤ x by omega) with e | e
  · exact e
  · subst e
    rcases hx with z | z
    · exact absurd z b
    · exact absurd f z
theorem zSet_yes {g nb : Int → Int} {lv : Int → Prop} {wo x : Int} (h : zSet g (zCanW nb lv wo x)) (h0 : 0 ≤ x) (hx : x ≠ wo) (hl : lv x) : zSet (zu g (nb x) 1) (zCanW nb lv wo (x + 1)) := by
  intro num h1 h2
  by_cases e : num = nb x
  · rw [zu_e e, zb_t (show zCanW nb lv wo (x + 1) num from ⟨x, by omega, hx, e.symm, hl⟩)]
  · rw [zu_n e, h num h1 h2]
    refine congrArg zb (propext ⟨fun ⟨y, a, b⟩ => ⟨y, by omega, b⟩, fun ⟨y, a, b, d, f⟩ => ⟨y, ⟨a.1, ?_⟩, b, d, f⟩⟩)
    rcases Int.lt_or_eq_of_le (show y ≤ x by omega) with z | z
    · exact z
    · subst z; exact absurd d.symm e
theorem zSet_0 {g nb : Int → Int} {lv : Int → Prop} {wo : Int} (h : ∀ y, 0 ≤ y → y < 100 → g y = 0) : zSet g (zCanW nb lv wo 0) := by
  intro num h1 h2
  rw [h num h1 (by omega), zb_f (fun ⟨y, a, b⟩ => by omega)]
theorem zSet_01 {g : Int → Int} {c : Int → Prop} (h : zSet g c) {x : Int} (h1 : 0 ≤ x ∧ x ≤ 99) : (g x = 1 ∧ c x) ∨ (g x = 0 ∧ ¬ c x) := by
  rw [h x h1.1 h1.2]
  rcases zb_or (c x) with ⟨a, b⟩ | ⟨a, b⟩
  · exact Or.inl ⟨b, a⟩
  · exact Or.inr ⟨b, a⟩
theorem zSet_cong {g : Int → Int} {c c' : Int → Prop} (h : zSet g c) (hc : ∀ a, 0 ≤ a → a ≤ 99 → (c a ↔ c' a)) : zSet g c' := fun x h1 h2 => by rw [h x h1 h2, propext (hc x h1 h2)]
theorem zCanW_9 {nb : Int → Int} {lv : Int → Prop} {n num : Int} : zCanW nb lv (-9) n num ↔ zCan nb lv n num :=
  ⟨fun ⟨x, a, b, d⟩ => ⟨x, a, d⟩, fun ⟨x, a, d⟩ => ⟨x, a, by omega, d⟩⟩
theorem zsum_next {f : Int → Int} {j : Int} (h : 0 ≤ j) : zsum f (j + 1).toNat = zsum f j.toNat + f j := by
  have e : (j + 1).toNat = j.toNat + 1 := by omega
  have e2 : ((j.toNat : Nat) : Int) = j := by omega
  rw [e, zsum, e2]
theorem zSet_iff {g : Int → Int} {c : Int → Prop} (h : zSet g c) : ∀ a, 1 ≤ a → a ≤ 99 → (g a = 1 ↔ c a) := fun a h1 h2 => by
  rcases zSet_01 h (x := a) (by omega) with ⟨p, q⟩ | ⟨p, q⟩
  · exact ⟨fun _ => q, fun _ => p⟩
  · exact ⟨fun z => absurd z (by omega), fun z => absurd z q⟩
theorem zTab_of {c : Int → Prop} {t : Int → Int} {B nv : Int} (h : zTab c t B nv) {q : Int} {w : Nat} (h1 : 0 ≤ q ∧ q ≤ B) (hm : zMin c q w) : t q = w := by
  rcases h q h1.1 h1.2 with ⟨v, h3, h4⟩ | ⟨h3, h4⟩
  · rw [h4, zMin_one h3 hm]
  · exact absurd hm.1 (h3 w)
theorem zTab_is {c : Int → Prop} {t : Int → Int} {B nv : Int} (h : zTab c t B nv) {q : Int} {w : Nat} (h1 : 0 ≤ q ∧ q ≤ B) (hm : t q = w) (hw : (w : Int) < nv) : zMin c q w := by
  rcases h q h1.1 h1.2 with ⟨v, h3, h4⟩ | ⟨h3, h4⟩
  · rw [show w = v by omega]; exact h3
  · omega
theorem zmax_ex {P : Int → Prop} : ∀ (n : Nat), (∃ a : Int, 1 ≤ a ∧ a ≤ n ∧ P a) → ∃ a : Int, (1 ≤ a ∧ a ≤ n ∧ P a) ∧ ∀ b : Int, a < b → b ≤ n → ¬ P b
  | 0, ⟨a, h1, h2, _⟩ => by omega
  | n + 1, ⟨a, h1, h2, h3⟩ => by
    by_cases hp : P ((n : Int) + 1)
    · exact ⟨(n : Int) + 1, ⟨by omega, by omega, hp⟩, fun b b1 b2 => by omega⟩
    · have ha : a ≤ n := by
        rcases Int.lt_or_le n a with z | z
        · exact absurd ((show a = (n : Int) + 1 by omega) ▸ h3) hp
        · exact z
      obtain ⟨x, x1, x2⟩ := zmax_ex n ⟨a, h1, ha, h3⟩
      refine ⟨x, ⟨x1.1, by omega, x1.2.2⟩, fun b b1 b2 => ?_⟩
      by_cases e : b = (n : Int) + 1
      · rw [e]; exact hp
      · exact x2 b b1 (by omega)
theorem zMin_step {c : Int → Prop} {q : Int} {w : Nat} (h : zMin c q (w + 1)) : ∃ a, (1 ≤ a ∧ a ≤ 99) ∧ c a ∧ zMin c (q - a) w := by
  obtain ⟨⟨a, h1, h2, h3⟩, h4⟩ := h
  exact ⟨a, h1, h2, h3, fun k hk hs => h4 (k + 1) (by omega) ⟨a, h1, h2, hs⟩⟩
theorem zSt_ex {c : Int → Prop} {q : Int} {w : Nat} (h : zMin c q (w + 1)) : ∃ a, zSt c q a ∧ (1 ≤ a ∧ a ≤ 99) ∧ c a ∧ zMin c (q - a) w := by
  obtain ⟨a, h1, h2, h3⟩ := zMin_step h
  obtain ⟨x, ⟨x1, x2, x3, x4⟩, x5⟩ := zmax_ex (P := fun a => c a ∧ zMin c (q - a) w) 99 ⟨a, h1.1, h1.2, h2, h3⟩
  exact ⟨x, ⟨w, h, ⟨⟨x1, x2⟩, x3, x4⟩, fun b b1 b2 b3 b4 => x5 b b1 b2 ⟨b3, b4⟩⟩, ⟨x1, x2⟩, x3, x4⟩
theorem zSt_of {c : Int → Prop} {q a : Int} {w : Nat} (h : zMin c q (w + 1)) (h1 : 1 ≤ a ∧ a ≤ 99) (h2 : c a) (h3 : zMin c (q - a) w) (h4 : ∀ b, a < b → b ≤ 99 → c b → ¬ zMin c (q - b) w) : zSt c q a := ⟨w, h, ⟨h1, h2, h3⟩, h4⟩
theorem zSt_one {c : Int → Prop} {q a b : Int} (h : zSt c q a) (h2 : zSt c q b) : a = b := by
  obtain ⟨v, v1, ⟨v2, v3, v4⟩, v5⟩ := h
  obtain ⟨w, w1, ⟨w2, w3, w4⟩, w5⟩ := h2
  have e := zMin_one v1 w1
  have e2 : v = w := by omega
  subst e2
  rcases Int.lt_trichotomy a b with z | z | z
  · exact absurd w4 (v5 b z w2.2 w3)
  · exact z
  · exact absurd v4 (w5 a z v2.2 v3)
theorem zNth_one {c : Int → Prop} : ∀ {k : Nat} {q a b : Int}, zNth c k q a → zNth c k q b → a = b
  | 0, _, _, _, h, h2 => zSt_one h h2
  | k + 1, q, a, b, ⟨x, x1, x2⟩, ⟨y, y1, y2⟩ => by rw [zSt_one x1 y1] at x2; exact zNth_one x2 y2
theorem zSaid_one {c : Int → Prop} {q k a b : Int} (h : zSaid c q k a) (h2 : zSaid c q k b) : a = b := by
  rcases h with ⟨h1, h3⟩ | ⟨w, h1, h3⟩ <;> rcases h2 with ⟨g1, g3⟩ | ⟨v, g1, g3⟩
  · omega
  · exact absurd g1.1 (h1 v)
  · exact absurd h1.1 (g1 w)
  · have e := zMin_one h1 g1
    subst e
    rcases h3 with h3 | h3 | ⟨h3, h4, h5⟩ <;> rcases g3 with g3 | g3 | ⟨g3, g4, g5⟩ <;> first | omega | exact zNth_one h5 g5
theorem zFewest_of {c : Int → Prop} {t : Int → Int} {B nv q : Int} (h : zTab c t B nv) (h1 : 0 ≤ q ∧ q ≤ B) {r : Int} (hB : B < nv) (hr : (nv ≤ t q ∧ r = -9) ∨ (t q < nv ∧ r = t q)) : zFewest c q r := by
  rcases h q h1.1 h1.2 with ⟨w, h3, h4⟩ | ⟨h3, h4⟩
  · rcases hr with ⟨a, b⟩ | ⟨a, b⟩
    · have := zSay_nn h3.1; omega
    · exact Or.inr ⟨w, h3, by omega⟩
  · exact Or.inl ⟨h3, by omega⟩
theorem zFewest_one {c : Int → Prop} {q a b : Int} (h : zFewest c q a) (h2 : zFewest c q b) : a = b := by
  rcases h with ⟨h1, h3⟩ | ⟨w, h1, h3⟩ <;> rcases h2 with ⟨g1, g3⟩ | ⟨v, g1, g3⟩
  · omega
  · exact absurd g1.1 (h1 v)
  · exact absurd h1.1 (g1 w)
  · have e := zMin_one h1 g1
    subst e
    omega
theorem zcnt_diff {P Q : Int → Prop} (h : ∀ j, Q j → P j) : ∀ n : Nat, zcnt P n - zcnt Q n = zcnt (fun j => P j ∧ ¬ Q j) n
  | 0 => rfl
  | n + 1 => by
    have ih := zcnt_diff h n
    rw [zcnt, zcnt, zcnt]
    by_cases hq : Q ((n : Int) + 1)
    · rw [zb_t hq, zb_t (h _ hq), zb_f (fun z => z.2 hq)]; omega
    · by_cases hp : P ((n : Int) + 1)
      · rw [zb_f hq, zb_t hp, zb_t ⟨hp, hq⟩]; omega
      · rw [zb_f hq, zb_f hp, zb_f (fun z => hp z.1)]; omega
theorem zRow_ok {ppl : Int} {ss sl sh : Int → Int} {v k lane i n : Int} {ok : Prop} {f : Int} (h : zRow ppl ss sl sh v k lane i n ok 0 f) : ((0 ≤ v ∧ v ≤ 1) ∧ (0 ≤ k ∧ k ≤ 3) ∧ (0 ≤ lane ∧ lane ≤ 2) ∧ (0 ≤ n ∧ n ≤ 20) ∧ (0 ≤ i ∧ i + n ≤ ss k)) ∧ ok ∧ zPpl ppl (fun j => sh (100 * k + i + j)) n ∧ f = 0 := by
  rcases h with h | ⟨h1, h | ⟨h2, h | ⟨h3, ⟨h4, h5, h6⟩ | h4⟩⟩⟩
  · omega
  · omega
  · omega
  · unfold zBar at h2
    have hk : ok := by
      rcases h2 with q | ⟨q, q2 | ⟨⟨q3, q4, q5⟩, q6⟩⟩
      · omega
      · omega
      · exact q5
    exact ⟨by omega, hk, h4, h6⟩
  · omega
theorem zMean_one {nb : Int → Int} {lv : Int → Prop} {t : Int → Int} {n a b s : Int} (h : zMean nb lv t n a s) (h2 : zMean nb lv t n b s) : a = b := by
  rcases h with ⟨j, j1, j2, j3, j4⟩ | ⟨j1, j2⟩ <;> rcases h2 with ⟨i, i1, i2, i3, i4⟩ | ⟨i1, i2⟩
  · rcases Int.lt_trichotomy i j with z | z | z
    · exact absurd (j3 i i1.1 z) i2
    · omega
    · exact absurd (i3 j j1.1 z) j2
  · exact absurd (i1 j j1.1 j1.2) j2
  · exact absurd (j1 i i1.1 i1.2) i2
  · omega
theorem zBar_cong {ss sl : Int → Int} {k lane i n : Int} {ok ok' : Prop} {b f : Int} (h : zBar ss sl k lane i n ok b f) (e : ok ↔ ok') : zBar ss sl k lane i n ok' b f := by rw [← propext e]; exact h
theorem zRow_cong {ppl : Int} {ss sl sh : Int → Int} {v k lane i n : Int} {ok ok' : Prop} {b f : Int} (h : zRow ppl ss sl sh v k lane i n ok b f) (e : ok ↔ ok') : zRow ppl ss sl sh v k lane i n ok' b f := by rw [← propext e]; exact h
theorem zMean_rng {nb : Int → Int} {lv : Int → Prop} {t : Int → Int} {n r : Int} (h : zMean nb lv t n r (zsum (fun j => nb (t j)) n.toNat)) (hn : 0 ≤ n ∧ n ≤ 20) (hb : ∀ j, 0 ≤ j → j < n → 1 ≤ nb (t j) ∧ nb (t j) ≤ 99) : -120 ≤ r ∧ r ≤ 1980 := by
  rcases h with ⟨j, h1, h2, h3, h4⟩ | ⟨h1, h2⟩
  · omega
  · have key : ∀ m : Nat, (m : Int) ≤ n → 0 ≤ zsum (fun j => nb (t j)) m ∧ zsum (fun j => nb (t j)) m ≤ 99 * m := by
      intro m
      induction m with
      | zero => intro _; exact ⟨Int.le_refl _, Int.le_refl _⟩
      | succ m ih =>
        intro hm
        have q := hb m (by omega) (by omega)
        have q2 := ih (by omega)
        rw [zsum]
        omega
    have := key n.toNat (by omega)
    omega
section ZBar
variable {ss sl : Int → Int} {k lane i n : Int} {ok : Prop}
theorem zBar_k (h : k < 0 ∨ 3 < k) : zBar ss sl k lane i n ok (-1) 0 := Or.inl ⟨h, rfl, rfl⟩
theorem zBar_o (h : 0 ≤ k ∧ k ≤ 3) (h2 : lane < 0 ∨ 2 < lane ∨ ¬ ok) : zBar ss sl k lane i n ok (-2) 0 := Or.inr ⟨h, Or.inl ⟨h2, rfl, rfl⟩⟩
theorem zBar_c (h : 0 ≤ k ∧ k ≤ 3) (h2 : 0 ≤ lane ∧ lane ≤ 2) (h3 : ok) (h4 : 0 ≤ ss k ∧ sl k ≠ lane) : zBar ss sl k lane i n ok (-10 - 2) 2 := Or.inr ⟨h, Or.inr ⟨⟨h2.1, h2.2, h3⟩, Or.inl ⟨h4.1, h4.2, rfl, rfl⟩⟩⟩
theorem zBar_n (h : 0 ≤ k ∧ k ≤ 3) (h2 : 0 ≤ lane ∧ lane ≤ 2) (h3 : ok) (h4 : ss k < 0) : zBar ss sl k lane i n ok (-10 - 1) 1 := Or.inr ⟨h, Or.inr ⟨⟨h2.1, h2.2, h3⟩, Or.inr (Or.inl ⟨h4, rfl, rfl⟩)⟩⟩
theorem zBar_s (h : 0 ≤ k ∧ k ≤ 3) (h2 : 0 ≤ lane ∧ lane ≤ 2) (h3 : ok) (h4 : 0 ≤ ss k ∧ sl k = lane) (h5 : n < 0) : zBar ss sl k lane i n ok (-10 - 4) 4 := Or.inr ⟨h, Or.inr ⟨⟨h2.1, h2.2, h3⟩, Or.inr (Or.inr ⟨h4, Or.inl ⟨h5, rfl, rfl⟩⟩)⟩⟩
theorem zBar_i (h : 0 ≤ k ∧ k ≤ 3) (h2 : 0 ≤ lane ∧ lane ≤ 2) (h3 : ok) (h4 : 0 ≤ ss k ∧ sl k = lane) (h5 : 0 ≤ n ∧ (i < 0 ∨ ss k < i + n)) : zBar ss sl k lane i n ok (-10 - 3) 3 := Or.inr ⟨h, Or.inr ⟨⟨h2.1, h2.2, h3⟩, Or.inr (Or.inr ⟨h4, Or.inr (Or.inl ⟨h5.1, h5.2, rfl, rfl⟩)⟩)⟩⟩
theorem zBar_0 (h : 0 ≤ k ∧ k ≤ 3) (h2 : 0 ≤ lane ∧ lane ≤ 2) (h3 : ok) (h4 : 0 ≤ ss k ∧ sl k = lane) (h5 : 0 ≤ n ∧ 0 ≤ i ∧ i + n ≤ ss k) : zBar ss sl k lane i n ok 0 0 := Or.inr ⟨h, Or.inr ⟨⟨h2.1, h2.2, h3⟩, Or.inr (Or.inr ⟨h4, Or.inr (Or.inr ⟨h5, rfl, rfl⟩)⟩)⟩⟩
end ZBar
theorem zBar_rng {ss sl : Int → Int} {k lane i n : Int} {ok : Prop} {b f : Int} (h : zBar ss sl k lane i n ok b f) : -14 ≤ b ∧ b ≤ 0 := by
  rcases h with h | ⟨h1, h | ⟨h2, h | h | ⟨h3, h | h | h⟩⟩⟩ <;> omega
theorem zRow_rng {ppl : Int} {ss sl sh : Int → Int} {v k lane i n : Int} {ok : Prop} {b f : Int} (h : zRow ppl ss sl sh v k lane i n ok b f) : -14 ≤ b ∧ b ≤ 0 := by
  rcases h with h | ⟨h1, ⟨h2, h⟩ | ⟨h2, h | ⟨h3, ⟨h4, h5, h6⟩ | ⟨h4, h5, h6⟩⟩⟩⟩
  · omega
  · exact zBar_rng h
  · omega
  · omega
  · omega
theorem zBar_r2 {ss sl : Int → Int} {k lane i n r u : Int} {ok X : Prop} (h : (r < 0 ∧ zBar ss sl k lane i n ok r u) ∨ (r = 0 ∧ X)) : -14 ≤ r ∧ r ≤ 0 := h.elim (fun q => zBar_rng q.2) (fun q => by omega)
theorem zRow_r2 {ppl : Int} {ss sl sh : Int → Int} {v k lane i n r u : Int} {ok X : Prop} (h : (r < 0 ∧ zRow ppl ss sl sh v k lane i n ok r u) ∨ (r = 0 ∧ X)) : -14 ≤ r ∧ r ≤ 0 := h.elim (fun q => zRow_rng q.2) (fun q => by omega)
theorem zMean_sg {nb : Int → Int} {lv : Int → Prop} {t : Int → Int} {n r : Int} (h : zMean nb lv t n r (zsum (fun j => nb (t j)) n.toNat)) (hn : 0 ≤ n ∧ n ≤ 20) (hb : ∀ j, 0 ≤ j → j < n → 1 ≤ nb (t j) ∧ nb (t j) ≤ 99) : (0 ≤ r ∧ ∀ i, 0 ≤ i → i < n → lv (t i)) ∨ (r < 0 ∧ ¬ ∀ i, 0 ≤ i → i < n → lv (t i)) := by
  rcases h with ⟨j, h1, h2, h3, h4⟩ | ⟨h1, h2⟩
  · exact Or.inr ⟨by omega, fun z => h2 (z j h1.1 h1.2)⟩
  · have key : ∀ m : Nat, (m : Int) ≤ n → 0 ≤ zsum (fun j => nb (t j)) m := by
      intro m
      induction m with
      | zero => intro _; exact Int.le_refl _
      | succ m ih =>
        intro hm
        have q := hb m (by omega) (by omega)
        have q2 := ih (by omega)
        rw [zsum]
        omega
    exact Or.inl ⟨by have := key n.toNat (by omega); omega, h1⟩
theorem zFst_0 {P : Int → Prop} : zFst P 0 (-9) := Or.inl ⟨rfl, zall_0⟩
theorem zLst_0 {P : Int → Prop} : zLst P 0 (-9) := Or.inl ⟨rfl, zall_0⟩
theorem zFst_new {P : Int → Prop} {d r : Int} (h : zFst P d r) (hr : r < 0) (hd : 0 ≤ d) (hp : P d) : zFst P (d + 1) d := by
  rcases h with ⟨h1, h2⟩ | ⟨h1, h2, h3⟩
  · exact Or.inr ⟨by omega, hp, h2⟩
  · omega
theorem zFst_keep {P : Int → Prop} {d r : Int} (h : zFst P d r) (hr : 0 ≤ r) : zFst P (d + 1) r := by
  rcases h with ⟨h1, h2⟩ | ⟨h1, h2, h3⟩
  · omega
  · exact Or.inr ⟨by omega, h2, h3⟩
theorem zFst_no {P : Int → Prop} {d r : Int} (h : zFst P d r) (hp : ¬ P d) : zFst P (d + 1) r := by
  rcases h with ⟨h1, h2⟩ | ⟨h1, h2, h3⟩
  · exact Or.inl ⟨h1, zall_step h2 hp⟩
  · exact Or.inr ⟨by omega, h2, h3⟩
theorem zLst_yes {P : Int → Prop} {d : Int} (hd : 0 ≤ d) (hp : P d) : zLst P (d + 1) d := Or.inr ⟨by omega, hp, fun x h1 h2 => by omega⟩
theorem zLst_no {P : Int → Prop} {d r : Int} (h : zLst P d r) (hp : ¬ P d) : zLst P (d + 1) r := by
  rcases h with ⟨h1, h2⟩ | ⟨h1, h2, h3⟩
  · exact Or.inl ⟨h1, zall_step h2 hp⟩
  · exact Or.inr ⟨by omega, h2, zall_step (P := fun x => r < x → ¬ P x) (a := r + 1) (j := d) (fun x a b _ => h3 x (by omega) b) (fun _ => hp) |> fun q x a b => q x (by omega) b a⟩
theorem zcnt0_next {P : Int → Prop} {d : Int} (h : 0 ≤ d) : zcnt (fun x => P (x - 1)) (d + 1).toNat = zcnt (fun x => P (x - 1)) d.toNat + zb (P d) := by
  have e : (d + 1).toNat = d.toNat + 1 := by omega
  rw [e, zcnt, show ((d.toNat : Nat) : Int) + 1 - 1 = d by omega]
theorem zcnt0_t {P : Int → Prop} {d : Int} (h : 0 ≤ d) (hp : P d) : zcnt (fun x => P (x - 1)) (d + 1).toNat = zcnt (fun x => P (x - 1)) d.toNat + 1 := by rw [zcnt0_next h, zb_t hp]
theorem zcnt0_f {P : Int → Prop} {d : Int} (h : 0 ≤ d) (hp : ¬ P d) : zcnt (fun x => P (x - 1)) (d + 1).toNat = zcnt (fun x => P (x - 1)) d.toNat := by rw [zcnt0_next h, zb_f hp, Int.add_zero]
theorem zgcd_step {x y : Int} (hx : 0 ≤ x) (hy : 0 < y) : Int.gcd y (x % y) = Int.gcd x y := by
  obtain ⟨a, rfl⟩ := Int.eq_ofNat_of_zero_le hx
  obtain ⟨b, rfl⟩ := Int.eq_ofNat_of_zero_le (show 0 ≤ y by omega)
  rw [← Int.natCast_emod]
  show Nat.gcd b (a % b) = Nat.gcd a b
  rw [Nat.gcd_comm b, ← Nat.gcd_rec, Nat.gcd_comm]
theorem zgcd_end {x : Int} (hx : 0 ≤ x) : ((Int.gcd x 0 : Nat) : Int) = x := by
  obtain ⟨a, rfl⟩ := Int.eq_ofNat_of_zero_le hx
  show ((Nat.gcd a 0 : Nat) : Int) = a
  rw [Nat.gcd_zero_right]
theorem zIn_mono {c c' : Int → Prop} {w q : Int} (hc : ∀ a, 1 ≤ a → a ≤ 99 → c a → c' a) (h : zIn c w q) : zIn c' w q := by
  obtain ⟨k, h1, h2⟩ := h
  exact ⟨k, h1, zSay_mono hc h2⟩
theorem zIn_cong {c c' : Int → Prop} {w q : Int} (hc : ∀ a, 1 ≤ a → a ≤ 99 → (c a ↔ c' a)) : zIn c w q ↔ zIn c' w q := ⟨zIn_mono (fun a h1 h2 => (hc a h1 h2).mp), zIn_mono (fun a h1 h2 => (hc a h1 h2).mpr)⟩
theorem zCanW_can {nb : Int → Int} {lv : Int → Prop} {wo n a : Int} (h : zCanW nb lv wo n a) : zCan nb lv n a := by
  obtain ⟨x, h1, h2, h3⟩ := h
  exact ⟨x, h1, h3⟩
theorem zSaid_none {c : Int → Prop} {t : Int → Int} {B nv q k : Int} (h : zTab c t B nv) (hq : 0 ≤ q ∧ q ≤ B) (hB : B < nv) (hk : -1 ≤ k ∧ (nv ≤ t q ∨ t q ≤ k)) : zSaid c q k (-9) := by
  rcases h q hq.1 hq.2 with ⟨w, h3, h4⟩ | ⟨h3, h4⟩
  · have := zSay_nn h3.1
    exact Or.inr ⟨w, h3, Or.inr (Or.inl ⟨by omega, by omega, rfl⟩)⟩
  · exact Or.inl ⟨h3, rfl⟩
def zSayI (c : Int → Prop) (q k : Int) (wN : Nat) (st lf i0 : Int) : Prop := (st ≤ k ∧ ∃ w2 : Nat, (w2 : Int) = wN - st - 1 ∧ zMin c lf (w2 + 1) ∧ ∀ r, zNth c (k - st).toNat lf r → zNth c k.toNat q r) ∨ (st = k + 1 ∧ zNth c k.toNat q i0)
theorem zSayI_a {c : Int → Prop} {q k : Int} {wN : Nat} {st lf i0 : Int} (h : zSayI c q k wN st lf i0) (h2 : st ≤ k) : ∃ w2 : Nat, (w2 : Int) = wN - st - 1 ∧ zMin c lf (w2 + 1) ∧ ∀ r, zNth c (k - st).toNat lf r → zNth c k.toNat q r := h.elim (fun q => q.2) (fun q => absurd q.1 (by omega))
theorem zSayI_b {c : Int → Prop} {q k : Int} {wN : Nat} {st lf i0 : Int} (h : zSayI c q k wN st lf i0) (h2 : k < st) : zNth c k.toNat q i0 := h.elim (fun q => absurd q.1 (by omega)) (fun q => q.2)
theorem zSayI_0 {c : Int → Prop} {q k : Int} {wN : Nat} {i0 : Int} (hm : zMin c q wN) (h0 : 0 ≤ k ∧ k < wN) : zSayI c q k wN 0 q i0 := Or.inl ⟨by omega, wN - 1, by omega, by rw [show wN - 1 + 1 = wN by omega]; exact hm, fun r z => by rw [show (k - 0).toNat = k.toNat by omega] at z; exact z⟩
theorem zSay_next {c : Int → Prop} {q lf it st k : Int} {wN w1 : Nat} (hst2 : zSt c lf it) (hma : zMin c (lf - it) w1) (hw1 : (w1 : Int) = wN - st - 1) (hnx : ∀ r, zNth c (k - st).toNat lf r → zNth c k.toNat q r) (h0 : 0 ≤ st ∧ st ≤ k ∧ k < wN) : zSayI c q k wN (st + 1) (lf - it) it := by
  by_cases hk : st + 1 ≤ k
  · refine Or.inl ⟨hk, w1 - 1, by omega, by rw [show w1 - 1 + 1 = w1 by omega]; exact hma, fun r hr => hnx r ?_⟩
    rw [show (k - st).toNat = (k - (st + 1)).toNat + 1 by omega]
    exact ⟨it, hst2, hr⟩
  · refine Or.inr ⟨by omega, hnx it ?_⟩
    rw [show (k - st).toNat = 0 by omega]
    exact hst2
