/-! tables of fewest numbers -/
theorem zSay_nn {c : Int → Prop} : ∀ {w : Nat} {q : Int}, zSay c w q → (w : Int) ≤ q
  | 0, q, h => by have h : q = 0 := h; omega
  | w + 1, q, ⟨a, h1, h2, h3⟩ => by have := zSay_nn h3; omega
theorem zSay_cong {c c' : Int → Prop} (hc : ∀ a, 1 ≤ a → a ≤ 99 → (c a ↔ c' a)) : ∀ {w : Nat} {q : Int}, zSay c w q ↔ zSay c' w q
  | 0, q => Iff.rfl
  | w + 1, q => ⟨fun ⟨a, h1, h2, h3⟩ => ⟨a, h1, (hc a h1.1 h1.2).mp h2, (zSay_cong hc).mp h3⟩, fun ⟨a, h1, h2, h3⟩ => ⟨a, h1, (hc a h1.1 h1.2).mpr h2, (zSay_cong hc).mpr h3⟩⟩
theorem zSay_mono {c c' : Int → Prop} (hc : ∀ a, 1 ≤ a → a ≤ 99 → c a → c' a) : ∀ {w : Nat} {q : Int}, zSay c w q → zSay c' w q
  | 0, q, h => h
  | w + 1, q, ⟨a, h1, h2, h3⟩ => ⟨a, h1, hc a h1.1 h1.2 h2, zSay_mono hc h3⟩
theorem zMin_cong {c c' : Int → Prop} (hc : ∀ a, 1 ≤ a → a ≤ 99 → (c a ↔ c' a)) {q : Int} {w : Nat} : zMin c q w ↔ zMin c' q w :=
  ⟨fun h => ⟨(zSay_cong hc).mp h.1, fun k hk q => h.2 k hk ((zSay_cong hc).mpr q)⟩, fun h => ⟨(zSay_cong hc).mpr h.1, fun k hk q => h.2 k hk ((zSay_cong hc).mp q)⟩⟩
theorem zMin_one {c : Int → Prop} {q : Int} {v w : Nat} (h : zMin c q v) (h2 : zMin c q w) : v = w := by
  rcases Nat.lt_trichotomy v w with a | a | a
  · exact absurd h.1 (h2.2 v a)
  · exact a
  · exact absurd h2.1 (h.2 w a)
theorem zMin_ex {c : Int → Prop} {q : Int} : ∀ {w : Nat}, zSay c w q → ∃ v, v ≤ w ∧ zMin c q v := by
  intro w
  induction w using Nat.strongRecOn with
  | ind w ih =>
    intro h
    by_cases hk : ∃ k, k < w ∧ zSay c k q
    · obtain ⟨k, h1, h2⟩ := hk
      obtain ⟨v, h3, h4⟩ := ih k h1 h2
      exact ⟨v, by omega, h4⟩
    · exact ⟨w, Nat.le_refl _, h, fun k h1 h2 => hk ⟨k, h1, h2⟩⟩
theorem zTab_cong {c c' : Int → Prop} {t : Int → Int} {B nv : Int} (hc : ∀ a, 1 ≤ a → a ≤ 99 → (c a ↔ c' a)) (h : zTab c t B nv) : zTab c' t B nv := by
  intro q h1 h2
  rcases h q h1 h2 with ⟨w, h3, h4⟩ | ⟨h3, h4⟩
  · exact Or.inl ⟨w, (zMin_cong hc).mp h3, h4⟩
  · exact Or.inr ⟨fun w q => h3 w ((zSay_cong hc).mpr q), h4⟩
theorem zTab_rng {c : Int → Prop} {t : Int → Int} {B nv : Int} (h : zTab c t B nv) {q : Int} (h1 : 0 ≤ q) (h2 : q ≤ B) : (0 ≤ t q ∧ t q ≤ q) ∨ t q = nv := by
  rcases h q h1 h2 with ⟨w, h3, h4⟩ | ⟨h3, h4⟩
  · have := zSay_nn h3.1
    exact Or.inl ⟨by omega, by omega⟩
  · exact Or.inr h4
theorem zTab_upd {c : Int → Prop} {t : Int → Int} {B nv q v : Int} (h : zTab c t B nv) (hq : B < q) : zTab c (zu t q v) B nv := by
  intro x h1 h2
  rw [zu_n (by omega)]
  exact h x h1 h2
theorem zTab_le {c : Int → Prop} {t : Int → Int} {B nv w : Int} (h : zTab c t B nv) {q : Int} (h1 : 0 ≤ q) (h2 : q ≤ B) (hw : w < nv) : t q ≤ w ↔ zIn c w q := by
  rcases h q h1 h2 with ⟨v, h3, h4⟩ | ⟨h3, h4⟩
  · refine ⟨fun h => ⟨v, by omega, h3.1⟩, fun ⟨k, h5, h6⟩ => ?_⟩
    rcases Nat.lt_or_ge k v with a | a
    · exact absurd h6 (h3.2 k a)
    · omega
  · exact ⟨fun h => absurd h (by omega), fun ⟨k, h5, h6⟩ => absurd h6 (h3 k)⟩
theorem zTab_0 {c : Int → Prop} {t : Int → Int} {nv : Int} (h : t 0 = 0) : zTab c t 0 nv := by
  intro q h1 h2
  have e : q = 0 := by omega
  subst e
  exact Or.inl ⟨0, ⟨rfl, fun k hk => absurd hk (Nat.not_lt_zero k)⟩, by omega⟩
/-- the best of the numbers below a, for q -/
def zInner (c : Int → Prop) (q a val nv : Int) : Prop := (∃ w : Nat, (∃ b, (1 ≤ b ∧ b < a) ∧ c b ∧ zMin c (q - b) w) ∧ val = w + 1 ∧ ∀ b, 1 ≤ b → b < a → c b → ∀ v, zMin c (q - b) v → w ≤ v) ∨ (val = nv ∧ ∀ b, 1 ≤ b → b < a → c b → ∀ v, ¬ zMin c (q - b) v)
theorem zInner_1 {c : Int → Prop} {q nv : Int} : zInner c q 1 nv nv := Or.inr ⟨rfl, fun b h1 h2 => absurd h2 (by omega)⟩
theorem zInner_no {c : Int → Prop} {q a val nv : Int} (h : zInner c q a val nv) (hc : ¬ c a) : zInner c q (a + 1) val nv := by
  rcases h with ⟨w, ⟨b, h1, h2, h3⟩, h4, h5⟩ | ⟨h1, h2⟩
  · exact Or.inl ⟨w, ⟨b, by omega, h2, h3⟩, h4, fun x y1 y2 y3 => h5 x y1 (by rcases Int.lt_or_eq_of_le (show x ≤ a by omega) with z | z; exact z; exact absurd (z ▸ y3) hc) y3⟩
  · exact Or.inr ⟨h1, fun x y1 y2 y3 => h2 x y1 (by rcases Int.lt_or_eq_of_le (show x ≤ a by omega) with z | z; exact z; exact absurd (z ▸ y3) hc) y3⟩
theorem zInner_yes {c : Int → Prop} {t : Int → Int} {q a val nv r : Int} (h : zInner c q a val nv) (hT : zTab c t (q - 1) nv) (ha : 1 ≤ a ∧ a ≤ q ∧ q ≤ 999 ∧ 1000 ≤ nv) (hc : c a) (hr : (r = val ∧ val ≤ t (q - a) + 1) ∨ (r = t (q - a) + 1 ∧ t (q - a) + 1 ≤ val)) : zInner c q (a + 1) r nv := by
  have key : ∀ x, 1 ≤ x → x < a + 1 → x < a ∨ x = a := fun x _ _ => by omega
  rcases hT (q - a) (by omega) (by omega) with ⟨v, h3, h4⟩ | ⟨h3, h4⟩
  · rcases h with ⟨w, ⟨b, h1, h2, h5⟩, h6, h7⟩ | ⟨h1, h2⟩
    · by_cases hle : w ≤ v
      · refine Or.inl ⟨w, ⟨b, by omega, h2, h5⟩, by omega, fun x y1 y2 y3 z hz => ?_⟩
        rcases key x y1 y2 with e | e
        · exact h7 x y1 e y3 z hz
        · subst e; rw [zMin_one hz h3]; exact hle
      · refine Or.inl ⟨v, ⟨a, by omega, hc, h3⟩, by omega, fun x y1 y2 y3 z hz => ?_⟩
        rcases key x y1 y2 with e | e
        · have := h7 x y1 e y3 z hz; omega
        · subst e; rw [zMin_one hz h3]; exact Nat.le_refl _
    · have := zSay_nn h3.1
      refine Or.inl ⟨v, ⟨a, by omega, hc, h3⟩, by omega, fun x y1 y2 y3 z hz => ?_⟩
      rcases key x y1 y2 with e | e
      · exact absurd hz (h2 x y1 e y3 z)
      · subst e; rw [zMin_one hz h3]; exact Nat.le_refl _
  · rcases h with ⟨w, ⟨b, h1, h2, h5⟩, h6, h7⟩ | ⟨h1, h2⟩
    · have := zSay_nn h5.1
      refine Or.inl ⟨w, ⟨b, by omega, h2, h5⟩, by omega, fun x y1 y2 y3 z hz => ?_⟩
      rcases key x y1 y2 with e | e
      · exact h7 x y1 e y3 z hz
      · subst e; exact absurd hz.1 (h3 z)
    · refine Or.inr ⟨by omega, fun x y1 y2 y3 z hz => ?_⟩
      rcases key x y1 y2 with e | e
      · exact h2 x y1 e y3 z hz
      · subst e; exact h3 z hz.1
theorem zTab_next {c : Int → Prop} {t : Int → Int} {q a nv : Int} (hT : zTab c t (q - 1) nv) (h : zInner c q a (t q) nv) (hq : 1 ≤ q) (ha : a ≤ 100 ∧ (q < a ∨ 99 < a)) : zTab c t q nv := by
  intro x h1 h2
  rcases Int.lt_or_eq_of_le h2 with e | e
  · exact hT x h1 (by omega)
  · subst e
    have out : ∀ {k : Nat}, zSay c (k + 1) x → ∃ b, (1 ≤ b ∧ b < a) ∧ c b ∧ zSay c k (x - b) := fun ⟨b, g1, g2, g3⟩ => ⟨b, ⟨g1.1, by have := zSay_nn g3; omega⟩, g2, g3⟩
    rcases h with ⟨w, ⟨b, g1, g2, g3⟩, g4, g5⟩ | ⟨g1, g2⟩
    · have hb : b ≤ 99 := by omega
      refine Or.inl ⟨w + 1, ⟨⟨b, ⟨g1.1, hb⟩, g2, g3.1⟩, fun k hk hs => ?_⟩, by omega⟩
      cases k with
      | zero => have hs : x = 0 := hs; omega
      | succ k =>
        obtain ⟨d, d1, d2, d3⟩ := out hs
        obtain ⟨v, v1, v2⟩ := zMin_ex d3
        have := g5 d d1.1 d1.2 d2 v v2
        omega
    · refine Or.inr ⟨fun w hs => ?_, g1⟩
      cases w with
      | zero => have hs : x = 0 := hs; omega
      | succ k =>
        obtain ⟨d, d1, d2, d3⟩ := out hs
        obtain ⟨v, v1, v2⟩ := zMin_ex d3
        exact g2 d d1.1 d1.2 d2 v v2
/-- who can be said, but by one's word -/
def zCanW (nb : Int → Int) (lv : Int → Prop) (wo n num : Int) : Prop := ∃ x, (0 ≤ x ∧ x < n) ∧ x ≠ wo ∧ nb x = num ∧ lv x
def zSet (g : Int → Int) (c : Int → Prop) : Prop := ∀ num, 0 ≤ num → num ≤ 99 → g num = zb (c num)
theorem zSet_no {g nb : Int → Int} {lv : Int → Prop} {wo x : Int} (h : zSet g (zCanW nb lv wo x)) (hx : x = wo ∨ ¬ lv x) : zSet g (zCanW nb lv wo (x + 1)) := by
  intro num h1 h2
  rw [h num h1 h2]
  refine congrArg zb (propext ⟨fun ⟨y, a, b⟩ => ⟨y, by omega, b⟩, fun ⟨y, a, b, d, f⟩ => ⟨y, ⟨a.1, ?_⟩, b, d, f⟩⟩)
  rcases Int.lt_or_eq_of_le (show y ≤ x by omega) with e | e
  · exact e
  · subst e
    rcases hx with z | z
    · exact absurd z b
    · exact absurd f z
theorem zSet_yes {g nb : Int → Int} {lv : Int → Prop} {wo x : Int} (h : zSet g (zCanW nb lv wo x)) (h0 : 0 ≤ x) (hx : x ≠ wo) (hl : lv x) : zSet (zu g (nb x) 1) (zCanW nb lv wo (x + 1)) := by
  intro num h1 h2
  by_cases e : num = nb x
  · rw [zu_e e, zb_t (show zCanW nb lv wo (x + 1) num from ⟨x, by omega, hx, e.symm, hl⟩)]
  · rw [zu_n e, h num h1 h2]
    refine congrArg zb (propext ⟨fun ⟨y, a, b⟩ => ⟨y, by omega, b⟩, fun ⟨y, a, b, d, f⟩ => ⟨y, ⟨a.1, ?_⟩, b, d, f⟩⟩)
    rcases Int.lt_or_eq_of_le (show y ≤ x by omega) with z | z
    · exact z
    · subst z; exact absurd d.symm e
theorem zSet_0 {g nb : Int → Int} {lv : Int → Prop} {wo : Int} (h : ∀ y, 0 ≤ y → y < 100 → g y = 0) : zSet g (zCanW nb lv wo 0) := by
  intro num h1 h2
  rw [h num h1 (by omega), zb_f (fun ⟨y, a, b⟩ => by omega)]
theorem zSet_01 {g : Int → Int} {c : Int → Prop} (h : zSet g c) {x : Int} (h1 : 0 ≤ x ∧ x ≤ 99) : (g x = 1 ∧ c x) ∨ (g x = 0 ∧ ¬ c x) := by
  rw [h x h1.1 h1.2]
  rcases zb_or (c x) with ⟨a, b⟩ | ⟨a, b⟩
  · exact Or.inl ⟨b, a⟩
  · exact Or.inr ⟨b, a⟩
theorem zSet_cong {g : Int → Int} {c c' : Int → Prop} (h : zSet g c) (hc : ∀ a, 0 ≤ a → a ≤ 99 → (c a ↔ c' a)) : zSet g c' := fun x h1 h2 => by rw [h x h1 h2, propext (hc x h1 h2)]
theorem zCanW_9 {nb : Int → Int} {lv : Int → Prop} {n num : Int} : zCanW nb lv (-9) n num ↔ zCan nb lv n num :=
  ⟨fun ⟨x, a, b, d⟩ => ⟨x, a, d⟩, fun ⟨x, a, d⟩ => ⟨x, a, by omega, d⟩⟩
theorem zsum_next {f : Int → Int} {j : Int} (h : 0 ≤ j) : zsum f (j + 1).toNat = zsum f j.toNat + f j := by
  have e : (j + 1).toNat = j.toNat + 1 := by omega
  have e2 : ((j.toNat : Nat) : Int) = j := by omega
  rw [e, zsum, e2]
theorem zSet_iff {g : Int → Int} {c : Int → Prop} (h : zSet g c) : ∀ a, 1 ≤ a → a ≤ 99 → (g a = 1 ↔ c a) := fun a h1 h2 => by
  rcases zSet_01 h (x := a) (by omega) with ⟨p, q⟩ | ⟨p, q⟩
  · exact ⟨fun _ => q, fun _ => p⟩
  · exact ⟨fun z => absurd z (by omega), fun z => absurd z q⟩
