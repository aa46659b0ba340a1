/-! the words of the answers -/
def zmin (x y : Int) : Int := if x ≤ y then x else y
theorem zmin_is (x y : Int) : (zmin x y = x ∧ x ≤ y) ∨ (zmin x y = y ∧ y < x) := by
  unfold zmin; split <;> omega
theorem zsw (x lo hi : Int) : (x < lo ∨ hi < x) ∨ (lo ≤ x ∧ x ≤ hi) := by omega
section ZX
variable {p : Program} {l : Launch} {e : Env} {R : Room} {s : State} {m : MethodId} {args : Array Value} {below : List Frame} {meth : Method} {c : Code} {H : Heap} {locs : List Loc} {cells slots : Nat} {Q : State → Prop}
variable {cc : ByteArray} {pc nL : Nat} {ls : Array Slot} {rest : List Value} {Ts : List Cond} {own : String}
theorem z_min (S : CallFix p m c cc nL s args Ts own) {idx : Nat} {x y : Int} (hr : (-2147483648 ≤ x ∧ x ≤ 2147483647) ∧ (-2147483648 ≤ y ∧ y ≤ 2147483647)) (h1 : Cond.methodLink own idx Lib.Math.min.name ∈ Ts) (h2 : Cond.static Lib.Math.min.name ∈ Ts) (h3 : Cond.initialized "java/lang/Math" ∈ Ts) (h4 : Cond.code Lib.Math.min.name Lib.Math.min.code 2 (some .int) ∈ Ts) (hl : ls.size = nL) (hf : 1 ≤ R.frames) (hlo : (rest.map fun v => v.category).sum + 13 ≤ R.locals) (hc : cells ≤ R.cells ∧ slots ≤ R.slots) (hdg : decode cc pc = .ok (.invokestatic idx, 3))
    (kk : W p l e R s m args below meth c H locs cells slots Q (F0 m (pc + 3) ls (.int (jI (zmin x y)) :: rest))) : W p l e R s m args below meth c H locs cells slots Q (F0 m pc ls (.int (jI y) :: .int (jI x) :: rest)) := by
  refine va_mmin S.1 S.2.1 (S.2.2.1.trans hl.symm) S.2.2.2.1 (S.2.2.2.2 _ h1) (S.2.2.2.2 _ h2) (S.2.2.2.2 _ h3) (S.2.2.2.2 _ h4) hf hlo hc.1 hc.2 hdg ?_
  have e : (if jI y < jI x then jI y else jI x) = jI (zmin x y) := by
    by_cases h : y < x
    · rw [if_pos ((jI_lt hr.2 hr.1).mpr h), zmin, if_neg (by omega)]
    · rw [if_neg (fun q => h ((jI_lt hr.2 hr.1).mp q)), zmin, if_pos (by omega)]
  rw [e]
  exact kk
theorem z_swOut (S : CallFix p m c cc nL s args Ts own) {dflt lo hi : Int} {offs : Array Int} {len tgt : Nat} {x : Int} (hdg : decode cc pc = .ok (.tableswitch dflt lo hi offs, len)) (hr : -2147483648 ≤ x ∧ x ≤ 2147483647) (h : x < lo ∨ hi < x) (ht : (pc : Int) + dflt = (tgt : Int)) (k : W p l e R s m args below meth c H locs cells slots Q (F0 m tgt ls rest)) : W p l e R s m args below meth c H locs cells slots Q (F0 m pc ls (.int (jI x) :: rest)) :=
  lv_tableOut S.1 S.2.1 hdg (by rw [jI_int hr]; exact h) ht k
theorem z_swIn (S : CallFix p m c cc nL s args Ts own) {dflt lo hi off : Int} {offs : Array Int} {len tgt : Nat} {x z : Int} (hdg : decode cc pc = .ok (.tableswitch dflt lo hi offs, len)) (hr : -2147483648 ≤ x ∧ x ≤ 2147483647) (hz : x = z) (h1 : ¬ z < lo) (h2 : ¬ hi < z) (ho : offs[(z - lo).toNat]? = some off) (ht : (pc : Int) + off = (tgt : Int)) (k : W p l e R s m args below meth c H locs cells slots Q (F0 m tgt ls rest)) : W p l e R s m args below meth c H locs cells slots Q (F0 m pc ls (.int (jI x) :: rest)) := by
  subst hz
  exact lv_tableIn S.1 S.2.1 hdg (by rw [jI_int hr]; exact h1) (by rw [jI_int hr]; exact h2) (by rw [jI_int hr]; exact ho) ht k
end ZX
/-- a word lives -/
def zlive (kd vl fr tl : Int → Int) (x v d : Int) : Prop := (kd x = 2 ∨ vl x = v) ∧ fr x ≤ d ∧ ((kd x = 0 ∧ d < tl x) ∨ (kd x ≠ 0 ∧ d < tl x + 10))
def zPeo (n : Int) (kd vl nb fr tl : Int → Int) : Prop := ∀ x, 0 ≤ x → x < n → (0 ≤ kd x ∧ kd x ≤ 2) ∧ (0 ≤ vl x ∧ vl x ≤ 1) ∧ (1 ≤ nb x ∧ nb x ≤ 99) ∧ (0 ≤ fr x ∧ fr x ≤ 98) ∧ (fr x < tl x ∧ tl x ≤ 99)
/-- the one by whom a number is said -/
def zBear (nb : Int → Int) (lv : Int → Prop) (n num r : Int) : Prop := (r = -9 ∧ ∀ x, 0 ≤ x → x < n → ¬ (nb x = num ∧ lv x)) ∨ ((0 ≤ r ∧ r < n) ∧ (nb r = num ∧ lv r) ∧ ∀ x, 0 ≤ x → x < r → ¬ (nb x = num ∧ lv x))
def zCan (nb : Int → Int) (lv : Int → Prop) (n num : Int) : Prop := ∃ x, (0 ≤ x ∧ x < n) ∧ nb x = num ∧ lv x
/-- how many of 1 .. n -/
noncomputable def zcnt (P : Int → Prop) : Nat → Int
  | 0 => 0
  | n + 1 => zcnt P n + zb (P ((n : Int) + 1))
def zSayable (P : Int → Prop) (k r : Int) : Prop := (∃ num : Int, (1 ≤ num ∧ num ≤ 99) ∧ P num ∧ zcnt P (num - 1).toNat = k ∧ r = num) ∨ ((∀ num : Int, 1 ≤ num → num ≤ 99 → P num → zcnt P (num - 1).toNat ≠ k) ∧ ((k = -1 ∧ r = zcnt P 99) ∨ (k ≠ -1 ∧ r = -9)))
/-- a quantity said by w numbers -/
def zSay (c : Int → Prop) : Nat → Int → Prop
  | 0, q => q = 0
  | w + 1, q => ∃ a : Int, (1 ≤ a ∧ a ≤ 99) ∧ c a ∧ zSay c w (q - a)
def zMin (c : Int → Prop) (q : Int) (w : Nat) : Prop := zSay c w q ∧ ∀ k, k < w → ¬ zSay c k q
def zIn (c : Int → Prop) (w : Int) (q : Int) : Prop := ∃ k : Nat, (k : Int) ≤ w ∧ zSay c k q
def zTab (c : Int → Prop) (t : Int → Int) (B nv : Int) : Prop := ∀ q, 0 ≤ q → q ≤ B → (∃ w : Nat, zMin c q w ∧ t q = w) ∨ ((∀ w, ¬ zSay c w q) ∧ t q = nv)
/-- the first number of the row that says a quantity -/
def zSt (c : Int → Prop) (q a : Int) : Prop := ∃ w : Nat, zMin c q (w + 1) ∧ ((1 ≤ a ∧ a ≤ 99) ∧ c a ∧ zMin c (q - a) w) ∧ ∀ b, a < b → b ≤ 99 → c b → ¬ zMin c (q - b) w
def zNth (c : Int → Prop) : Nat → Int → Int → Prop
  | 0, q, r => zSt c q r
  | k + 1, q, r => ∃ a, zSt c q a ∧ zNth c k (q - a) r
def zSaid (c : Int → Prop) (q k r : Int) : Prop := ((∀ w, ¬ zSay c w q) ∧ r = -9) ∨ ∃ w : Nat, zMin c q w ∧ ((k = -1 ∧ r = w) ∨ (k ≠ -1 ∧ w ≤ k ∧ r = -9) ∨ (0 ≤ k ∧ k < w ∧ zNth c k.toNat q r))
/-- what a row means -/
def zMean (nb : Int → Int) (lv : Int → Prop) (t : Int → Int) (n r : Int) (sum : Int) : Prop := (∃ j, (0 ≤ j ∧ j < n) ∧ ¬ lv (t j) ∧ (∀ i, 0 ≤ i → i < j → lv (t i)) ∧ r = -100 - j) ∨ ((∀ i, 0 ≤ i → i < n → lv (t i)) ∧ r = sum)
def zsum (f : Int → Int) : Nat → Int
  | 0 => 0
  | n + 1 => zsum f n + f (n : Int)
def zFewest (c : Int → Prop) (q r : Int) : Prop := ((∀ w, ¬ zSay c w q) ∧ r = -9) ∨ ∃ w : Nat, zMin c q w ∧ r = w
def zLeast (P : Int → Prop) (q r : Int) : Prop := ((q ≤ r ∧ r ≤ 999) ∧ P r ∧ ∀ x, q ≤ x → x < r → ¬ P x) ∨ (r = -9 ∧ ∀ x, q ≤ x → x ≤ 999 → ¬ P x)
def zArg (f : Int → Int) (best most : Int) : Prop := (1 ≤ best ∧ best ≤ 99) ∧ most = f best ∧ (∀ x, 1 ≤ x → x ≤ 99 → f x ≤ most) ∧ ∀ x, 1 ≤ x → x < best → f x < most
theorem zcnt_next {P : Int → Prop} {j : Int} (h : 1 ≤ j) : zcnt P (j + 1 - 1).toNat = zcnt P (j - 1).toNat + zb (P j) := by
  have e : (j + 1 - 1).toNat = (j - 1).toNat + 1 := by omega
  have e2 : (((j - 1).toNat : Nat) : Int) + 1 = j := by omega
  rw [e, zcnt, e2]
theorem zcnt_rng (P : Int → Prop) : ∀ n : Nat, 0 ≤ zcnt P n ∧ zcnt P n ≤ n
  | 0 => ⟨Int.le_refl _, Int.le_refl _⟩
  | n + 1 => by
    have h := zcnt_rng P n
    have h2 := zb_or (P ((n : Int) + 1))
    rw [zcnt]
    omega
theorem zcnt_mono (P : Int → Prop) {a b : Nat} (h : a ≤ b) : zcnt P a ≤ zcnt P b := by
  induction b with
  | zero => rw [show a = 0 by omega]; exact Int.le_refl _
  | succ b ih =>
    have h2 := zb_or (P ((b : Int) + 1))
    by_cases e : a = b + 1
    · rw [e]; exact Int.le_refl _
    · have := ih (by omega)
      rw [zcnt]
      omega
theorem zcnt_cong {P P' : Int → Prop} : ∀ {n : Nat}, (∀ j : Int, 1 ≤ j → j ≤ n → (P j ↔ P' j)) → zcnt P n = zcnt P' n
  | 0, _ => rfl
  | n + 1, h => by
    rw [zcnt, zcnt, zcnt_cong (n := n) (fun j h1 h2 => h j h1 (by omega)), show P ((n : Int) + 1) = P' ((n : Int) + 1) from propext (h _ (by omega) (by omega))]
theorem zBear_can {nb : Int → Int} {lv : Int → Prop} {n num r : Int} (h : zBear nb lv n num r) : (r = -9 ∧ ¬ zCan nb lv n num) ∨ ((0 ≤ r ∧ r < n) ∧ zCan nb lv n num) := by
  rcases h with ⟨h1, h2⟩ | ⟨h1, h2, h3⟩
  · exact Or.inl ⟨h1, fun ⟨x, ⟨a, b⟩, c⟩ => h2 x a b c⟩
  · exact Or.inr ⟨h1, r, h1, h2⟩
theorem zBear_no {nb : Int → Int} {lv : Int → Prop} {n num r : Int} (h : zBear nb lv n num r) (h1 : r < 0) : ¬ zCan nb lv n num := by
  rcases zBear_can h with ⟨a, b⟩ | ⟨a, b⟩
  · exact b
  · omega
theorem zBear_yes {nb : Int → Int} {lv : Int → Prop} {n num r : Int} (h : zBear nb lv n num r) (h1 : 0 ≤ r) : zCan nb lv n num := by
  rcases zBear_can h with ⟨a, b⟩ | ⟨a, b⟩
  · omega
  · exact b
theorem zcnt_nf {P : Int → Prop} {j : Int} (h : 1 ≤ j) (h2 : ¬ P j) : zcnt P (j + 1 - 1).toNat = zcnt P (j - 1).toNat := by
  rw [zcnt_next h, zb_f h2]; omega
theorem zcnt_nt {P : Int → Prop} {j : Int} (h : 1 ≤ j) (h2 : P j) : zcnt P (j + 1 - 1).toNat = zcnt P (j - 1).toNat + 1 := by
  rw [zcnt_next h, zb_t h2]
theorem zall_step {P : Int → Prop} {a j : Int} (h : ∀ y, a ≤ y → y < j → P y) (hj : P j) : ∀ y, a ≤ y → y < j + 1 → P y := by
  intro y h1 h2
  by_cases e : y = j
  · rw [e]; exact hj
  · exact h y h1 (by omega)
theorem zall_0 {P : Int → Prop} {a : Int} : ∀ y, a ≤ y → y < a → P y := fun y h1 h2 => absurd h2 (by omega)
theorem zB_t {P : Prop} {r : Int} (h : (r = 1 ∧ P) ∨ (r = 0 ∧ ¬ P)) (h1 : r ≠ 0) : P := h.elim (fun q => q.2) (fun q => absurd q.1 h1)
theorem zB_f {P : Prop} {r : Int} (h : (r = 1 ∧ P) ∨ (r = 0 ∧ ¬ P)) (h1 : r = 0) : ¬ P := h.elim (fun q => absurd q.1 (by omega)) (fun q => q.2)
theorem zSayable_hit {P : Int → Prop} {j n k : Int} (h1 : 1 ≤ j ∧ j ≤ 99) (h2 : P j) (h3 : n = zcnt P (j - 1).toNat) (h4 : n = k) : zSayable P k j := Or.inl ⟨j, h1, h2, h3.symm.trans h4, rfl⟩
theorem zSayable_end {P : Int → Prop} {j n k r : Int} (h1 : 100 ≤ j ∧ j ≤ 100) (hn : n = zcnt P (j - 1).toNat) (hno : ∀ y : Int, 1 ≤ y → y < j → P y → zcnt P (y - 1).toNat ≠ k) (hr : (k = -1 ∧ r = n) ∨ (k ≠ -1 ∧ r = -9)) : zSayable P k r := by
  have e : j = 100 := by omega
  subst e
  refine Or.inr ⟨fun y a b c => hno y a (by omega) c, ?_⟩
  rcases hr with ⟨a, b⟩ | ⟨a, b⟩
  · exact Or.inl ⟨a, b.trans hn⟩
  · exact Or.inr ⟨a, b⟩
/-! the answers of the calls -/
def zA_ofOne (ppl : Int) (kd vl nb fr tl : Int → Int) (x what r : Int) : Prop := ((x < 0 ∨ ppl ≤ x) ∧ r = -1) ∨ ((0 ≤ x ∧ x < ppl) ∧ ((what = 0 ∧ r = kd x) ∨ (what = 1 ∧ r = vl x) ∨ (what = 2 ∧ r = nb x) ∨ (what = 3 ∧ r = fr x) ∨ (what = 4 ∧ r = tl x) ∨ ((what < 0 ∨ 4 < what) ∧ r = -2)))
def zA_lives (ppl : Int) (kd vl fr tl : Int → Int) (x v d r : Int) : Prop := ((x < 0 ∨ ppl ≤ x ∨ v < 0 ∨ 1 < v) ∧ r = -1) ∨ ((0 ≤ x ∧ x < ppl ∧ 0 ≤ v ∧ v ≤ 1) ∧ (((d < 0 ∨ 109 < d) ∧ r = -2) ∨ ((0 ≤ d ∧ d ≤ 109) ∧ ((zlive kd vl fr tl x v d ∧ r = 1) ∨ (¬ zlive kd vl fr tl x v d ∧ r = 0)))))
def zA_word (ppl : Int) (kd vl nb fr tl : Int → Int) (num v d r : Int) : Prop := ((v < 0 ∨ 1 < v) ∧ r = -1) ∨ ((0 ≤ v ∧ v ≤ 1) ∧ (((num < 1 ∨ 99 < num ∨ d < 0 ∨ 109 < d) ∧ r = -2) ∨ ((1 ≤ num ∧ num ≤ 99 ∧ 0 ≤ d ∧ d ≤ 109) ∧ zBear nb (fun x => zlive kd vl fr tl x v d) ppl num r)))
def zA_sayable (ppl : Int) (kd vl nb fr tl : Int → Int) (v d k r : Int) : Prop := ((v < 0 ∨ 1 < v ∨ k < -1) ∧ r = -1) ∨ ((0 ≤ v ∧ v ≤ 1 ∧ -1 ≤ k) ∧ (((d < 0 ∨ 109 < d) ∧ r = -2) ∨ ((0 ≤ d ∧ d ≤ 109) ∧ zSayable (zCan nb (fun x => zlive kd vl fr tl x v d) ppl) k r)))
theorem zBear_rng {nb : Int → Int} {lv : Int → Prop} {n num r : Int} (h : zBear nb lv n num r) : r = -9 ∨ (0 ≤ r ∧ r < n) := by
  rcases zBear_can h with ⟨a, b⟩ | ⟨a, b⟩
  · exact Or.inl a
  · exact Or.inr a
/-- who can be said, but by one's word -/
def zCanW (nb : Int → Int) (lv : Int → Prop) (wo n num : Int) : Prop := ∃ x, (0 ≤ x ∧ x < n) ∧ x ≠ wo ∧ nb x = num ∧ lv x
def zShe (ss sl : Int → Int) : Prop := ∀ k, 0 ≤ k → k ≤ 3 → (-1 ≤ ss k ∧ ss k ≤ 100) ∧ (0 ≤ sl k ∧ sl k ≤ 2)
def zRg (t : Int → Int) : Prop := ∀ j, -2147483648 ≤ t j ∧ t j ≤ 2147483647
/-- what cells of a sheet are refused with, and the fault; 0, 0: they may be -/
def zBar (ss sl : Int → Int) (k lane i n : Int) (ok : Prop) (b f : Int) : Prop :=
  ((k < 0 ∨ 3 < k) ∧ b = -1 ∧ f = 0) ∨ ((0 ≤ k ∧ k ≤ 3) ∧ (((lane < 0 ∨ 2 < lane ∨ ¬ ok) ∧ b = -2 ∧ f = 0) ∨ ((0 ≤ lane ∧ lane ≤ 2 ∧ ok) ∧ ((0 ≤ ss k ∧ sl k ≠ lane ∧ b = -12 ∧ f = 2) ∨ (ss k < 0 ∧ b = -11 ∧ f = 1) ∨ ((0 ≤ ss k ∧ sl k = lane) ∧ ((n < 0 ∧ b = -14 ∧ f = 4) ∨ (0 ≤ n ∧ (i < 0 ∨ ss k < i + n) ∧ b = -13 ∧ f = 3) ∨ ((0 ≤ n ∧ 0 ≤ i ∧ i + n ≤ ss k) ∧ b = 0 ∧ f = 0)))))))
def zPpl (ppl : Int) (t : Int → Int) (n : Int) : Prop := ∀ j, 0 ≤ j → j < n → 0 ≤ t j ∧ t j < ppl
def zRow (ppl : Int) (ss sl sh : Int → Int) (v k lane i n : Int) (ok : Prop) (b f : Int) : Prop :=
  ((v < 0 ∨ 1 < v) ∧ b = -1 ∧ f = 0) ∨ ((0 ≤ v ∧ v ≤ 1) ∧ ((b < 0 ∧ zBar ss sl k lane i n ok b f) ∨ (zBar ss sl k lane i n ok 0 0 ∧ ((20 < n ∧ b = -2 ∧ f = 0) ∨ (n ≤ 20 ∧ ((zPpl ppl (fun j => sh (100 * k + i + j)) n ∧ b = 0 ∧ f = 0) ∨ (¬ zPpl ppl (fun j => sh (100 * k + i + j)) n ∧ b = -1 ∧ f = 0)))))))
def zA_means (ppl : Int) (kd vl nb fr tl ss sl sh : Int → Int) (v d k lane i n r f : Int) : Prop := ∃ b g, zRow ppl ss sl sh v k lane i n (0 ≤ d ∧ d ≤ 109) b g ∧ ((b < 0 ∧ r = b ∧ f = g) ∨ (b = 0 ∧ f = 0 ∧ zMean nb (fun x => zlive kd vl fr tl x v d) (fun j => sh (100 * k + i + j)) n r (zsum (fun j => nb (sh (100 * k + i + j))) n.toNat)))
def zA_turned (ppl : Int) (kd vl nb fr tl ss sl sh : Int → Int) (v d o k lane i n r f : Int) : Prop := ∃ b g, zRow ppl ss sl sh v k lane i n ((0 ≤ d ∧ d ≤ 109) ∧ (0 ≤ o ∧ o ≤ 109)) b g ∧ ((b < 0 ∧ r = b ∧ f = g) ∨ (b = 0 ∧ f = 0 ∧ ∃ q, zMean nb (fun x => zlive kd vl fr tl x v d) (fun j => sh (100 * k + i + j)) n q (zsum (fun j => nb (sh (100 * k + i + j))) n.toNat) ∧ (((q < 0 ∨ 999 < q) ∧ r = -9) ∨ ((0 ≤ q ∧ q ≤ 999) ∧ zFewest (zCan nb (fun x => zlive kd vl fr tl x v o) ppl) q r))))
def zFst (P : Int → Prop) (n r : Int) : Prop := (r = -9 ∧ ∀ d, 0 ≤ d → d < n → ¬ P d) ∨ ((0 ≤ r ∧ r < n) ∧ P r ∧ ∀ d, 0 ≤ d → d < r → ¬ P d)
def zLst (P : Int → Prop) (n r : Int) : Prop := (r = -9 ∧ ∀ d, 0 ≤ d → d < n → ¬ P d) ∨ ((0 ≤ r ∧ r < n) ∧ P r ∧ ∀ d, r < d → d < n → ¬ P d)
def zWrit (P : Int → Prop) (what r : Int) : Prop := (what = 0 ∧ r = zcnt (fun x => P (x - 1)) 110) ∨ (what = 1 ∧ zFst P 110 r) ∨ (what = 2 ∧ zLst P 110 r)
def zA_written (ppl : Int) (kd vl nb fr tl ss sl sh : Int → Int) (v k lane i n what r f : Int) : Prop := ∃ b g, zRow ppl ss sl sh v k lane i n (0 ≤ what ∧ what ≤ 2) b g ∧ ((b < 0 ∧ r = b ∧ f = g) ∨ (b = 0 ∧ f = 0 ∧ zWrit (fun d => ∀ j, 0 ≤ j → j < n → zlive kd vl fr tl (sh (100 * k + i + j)) v d) what r))
def zA_say (ppl : Int) (kd vl nb fr tl : Int → Int) (q v d k r : Int) : Prop := ((v < 0 ∨ 1 < v ∨ k < -1) ∧ r = -1) ∨ ((0 ≤ v ∧ v ≤ 1 ∧ -1 ≤ k) ∧ (((q < 0 ∨ 999 < q ∨ d < 0 ∨ 109 < d) ∧ r = -2) ∨ ((0 ≤ q ∧ q ≤ 999 ∧ 0 ≤ d ∧ d ≤ 109) ∧ zSaid (zCan nb (fun x => zlive kd vl fr tl x v d) ppl) q k r)))
def zA_both (ppl : Int) (kd vl nb fr tl : Int → Int) (q w d r : Int) : Prop := ((q < 0 ∨ 999 < q ∨ w < 1 ∨ 9 < w ∨ d < 0 ∨ 109 < d) ∧ r = -2) ∨ ((0 ≤ q ∧ q ≤ 999 ∧ 1 ≤ w ∧ w ≤ 9 ∧ 0 ≤ d ∧ d ≤ 109) ∧ zLeast (fun x => zIn (zCan nb (fun x => zlive kd vl fr tl x 0 d) ppl) w x ∧ zIn (zCan nb (fun x => zlive kd vl fr tl x 1 d) ppl) w x) q r)
def zA_lost (ppl : Int) (kd vl nb fr tl : Int → Int) (x v d w r : Int) : Prop := ((x < 0 ∨ ppl ≤ x ∨ v < 0 ∨ 1 < v) ∧ r = -1) ∨ ((0 ≤ x ∧ x < ppl ∧ 0 ≤ v ∧ v ≤ 1) ∧ (((d < 0 ∨ 109 < d ∨ w < 1 ∨ 9 < w) ∧ r = -2) ∨ ((0 ≤ d ∧ d ≤ 109 ∧ 1 ≤ w ∧ w ≤ 9) ∧ r = zcnt (fun q => zIn (zCan nb (fun x => zlive kd vl fr tl x v d) ppl) w q ∧ ¬ zIn (zCanW nb (fun x => zlive kd vl fr tl x v d) x ppl) w q) 99)))
def zA_told (ppl : Int) (kd vl nb fr tl : Int → Int) (v d w which r : Int) : Prop := ((v < 0 ∨ 1 < v ∨ d < 0 ∨ 109 < d ∨ w < 1 ∨ 9 < w ∨ which < 0 ∨ 1 < which) ∧ r = -9223372036854775808) ∨ ((0 ≤ v ∧ v ≤ 1 ∧ 0 ≤ d ∧ d ≤ 109 ∧ 1 ≤ w ∧ w ≤ 9 ∧ 0 ≤ which ∧ which ≤ 1) ∧ ((which = 0 ∧ r = zcnt (fun q => zIn (zCan nb (fun x => zlive kd vl fr tl x v d) ppl) w q) 99 / ((Int.gcd (zcnt (fun q => zIn (zCan nb (fun x => zlive kd vl fr tl x v d) ppl) w q) 99) 99 : Nat) : Int)) ∨ (which = 1 ∧ r = 99 / ((Int.gcd (zcnt (fun q => zIn (zCan nb (fun x => zlive kd vl fr tl x v d) ppl) w q) 99) 99 : Nat) : Int))))
def zfill (t : Int → Int) (a n v : Int) : Int → Int := fun x => if a ≤ x ∧ x < a + n then v else t x
def zcpy (t s : Int → Int) (a b n : Int) : Int → Int := fun x => if b ≤ x ∧ x < b + n then s (a + (x - b)) else t x
def zcut (lane v : Int) : Int := if lane = 0 then v.bmod 256 else if lane = 1 then v.bmod 65536 else v
theorem zfill_0 (t : Int → Int) (a v : Int) : zfill t a 0 v = t := by
  funext x; unfold zfill; rw [if_neg (by omega)]
theorem zfill_next (t : Int → Int) {a n v : Int} (h : 0 ≤ n) : zu (zfill t a n v) (a + n) v = zfill t a (n + 1) v := by
  funext x
  unfold zu zfill
  by_cases e : x = a + n
  · rw [if_pos e, if_pos (by omega)]
  · rw [if_neg e]
    by_cases e2 : a ≤ x ∧ x < a + n
    · rw [if_pos e2, if_pos (by omega)]
    · rw [if_neg e2, if_neg (by omega)]
theorem zcpy_0 (t s : Int → Int) (a b : Int) : zcpy t s a b 0 = t := by
  funext x; unfold zcpy; rw [if_neg (by omega)]
theorem zcpy_next (t s : Int → Int) {a b n v : Int} (h : 0 ≤ n) (hv : v = s (a + n)) : zu (zcpy t s a b n) (b + n) v = zcpy t s a b (n + 1) := by
  funext x
  unfold zu zcpy
  by_cases e : x = b + n
  · rw [if_pos e, if_pos (by omega), hv, show a + (x - b) = a + n by omega]
  · rw [if_neg e]
    by_cases e2 : b ≤ x ∧ x < b + n
    · rw [if_pos e2, if_pos (by omega)]
    · rw [if_neg e2, if_neg (by omega)]
def zA_sheet (ss sl sh : Int → Int) (k lane n r f : Int) (ss' sl' sh' : Int → Int) : Prop := ((((k < 0 ∨ 3 < k) ∧ r = -1 ∧ f = 0) ∨ ((0 ≤ k ∧ k ≤ 3) ∧ (((lane < 0 ∨ 2 < lane ∨ 100 < n) ∧ r = -2 ∧ f = 0) ∨ ((0 ≤ lane ∧ lane ≤ 2) ∧ n < 0 ∧ r = -14 ∧ f = 4)))) ∧ ss' = ss ∧ sl' = sl ∧ sh' = sh) ∨ (((0 ≤ k ∧ k ≤ 3) ∧ (0 ≤ lane ∧ lane ≤ 2) ∧ (0 ≤ n ∧ n ≤ 100) ∧ r = 1 ∧ f = 0) ∧ ss' = zu ss k n ∧ sl' = zu sl k lane ∧ sh' = zfill sh (100 * k) n 0)
def zA_lose (ss : Int → Int) (k r : Int) (ss' : Int → Int) : Prop := (((k < 0 ∨ 3 < k) ∧ r = -1) ∧ ss' = ss) ∨ (((0 ≤ k ∧ k ≤ 3) ∧ ((ss k < 0 ∧ r = 0) ∨ (0 ≤ ss k ∧ r = 1))) ∧ ss' = zu ss k (-1))
def zA_put (ss sl sh : Int → Int) (k i v r f : Int) (sh' : Int → Int) : Prop := ((((k < 0 ∨ 3 < k) ∧ r = -1 ∧ f = 0) ∨ ((0 ≤ k ∧ k ≤ 3) ∧ ((ss k < 0 ∧ r = -11 ∧ f = 1) ∨ ((0 ≤ ss k ∧ (i < 0 ∨ ss k ≤ i)) ∧ r = -13 ∧ f = 3)))) ∧ sh' = sh) ∨ (((0 ≤ k ∧ k ≤ 3) ∧ (0 ≤ i ∧ i < ss k) ∧ r = 1 ∧ f = 0) ∧ sh' = zu sh (100 * k + i) (zcut (sl k) v))
def zA_cell (ss sl sh : Int → Int) (k i lane r f : Int) : Prop := ((k < 0 ∨ 3 < k ∨ lane < 0 ∨ 2 < lane) ∧ r = -9223372036854775808 ∧ f = 0) ∨ ((0 ≤ k ∧ k ≤ 3 ∧ 0 ≤ lane ∧ lane ≤ 2) ∧ ((0 ≤ ss k ∧ sl k ≠ lane ∧ r = -9223372036854775808 ∧ f = 2) ∨ (ss k < 0 ∧ r = -9223372036854775808 ∧ f = 1) ∨ ((0 ≤ ss k ∧ sl k = lane) ∧ (((i < 0 ∨ ss k ≤ i) ∧ r = -9223372036854775808 ∧ f = 3) ∨ ((0 ≤ i ∧ i < ss k) ∧ r = sh (100 * k + i) ∧ f = 0)))))
def zA_copy (ss sl sh : Int → Int) (k i o j n r f : Int) (sh' : Int → Int) : Prop := ((((k < 0 ∨ 3 < k ∨ o < 0 ∨ 3 < o) ∧ r = -1 ∧ f = 0) ∨ ((0 ≤ k ∧ k ≤ 3 ∧ 0 ≤ o ∧ o ≤ 3) ∧ (((ss k < 0 ∨ ss o < 0) ∧ r = -11 ∧ f = 1) ∨ ((0 ≤ ss k ∧ 0 ≤ ss o) ∧ ((sl k ≠ sl o ∧ r = -12 ∧ f = 2) ∨ (sl k = sl o ∧ (n < 0 ∨ i < 0 ∨ ss k < i + n ∨ j < 0 ∨ ss o < j + n) ∧ r = -13 ∧ f = 3)))))) ∧ sh' = sh) ∨ (((0 ≤ k ∧ k ≤ 3 ∧ 0 ≤ o ∧ o ≤ 3) ∧ (0 ≤ ss k ∧ 0 ≤ ss o ∧ sl k = sl o) ∧ (0 ≤ n ∧ 0 ≤ i ∧ i + n ≤ ss k ∧ 0 ≤ j ∧ j + n ≤ ss o) ∧ r = n ∧ f = 0) ∧ sh' = zcpy sh sh (100 * k + i) (100 * o + j) n)
def zA_tell (ppl : Int) (kd nb : Int → Int) (tr x r tr' : Int) : Prop := ((x < 0 ∨ ppl ≤ x) ∧ r = -1 ∧ tr' = tr) ∨ ((0 ≤ x ∧ x < ppl) ∧ ((kd x = 0 ∧ r = nb x ∧ tr' = 31 * tr + 1) ∨ (kd x = 1 ∧ r = nb x + 100 ∧ tr' = 31 * (31 * tr + 2) + 1) ∨ (kd x = 2 ∧ r = 2 * nb x + 100 ∧ tr' = 31 * (31 * (31 * (31 * tr + 3) + 2) + 1) + 1)))
def zA_mourn (ppl : Int) (kd : Int → Int) (tr x r tr' : Int) : Prop := ((x < 0 ∨ ppl ≤ x) ∧ r = -1 ∧ tr' = tr) ∨ ((0 ≤ x ∧ x < ppl) ∧ ((kd x = 2 ∧ r = 80 ∧ tr' = 31 * tr + 5) ∨ (kd x ≠ 2 ∧ r = x ∧ tr' = 31 * tr + 4)))
def zA_as (ppl : Int) (kd : Int → Int) (x kind r f : Int) : Prop := ((x < 0 ∨ ppl ≤ x) ∧ r = -1 ∧ f = 0) ∨ ((0 ≤ x ∧ x < ppl) ∧ (((kind < 0 ∨ 2 < kind) ∧ r = -2 ∧ f = 0) ∨ ((0 ≤ kind ∧ kind ≤ 2) ∧ ((kind ≤ kd x ∧ r = 1 ∧ f = 0) ∨ (kd x < kind ∧ r = -12 ∧ f = 2)))))
