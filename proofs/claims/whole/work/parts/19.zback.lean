theorem fa_or (a b : Nat) : nI a ||| nI b = nI (a ||| b) := by
  apply Int32.toBitVec_inj.1
  show BitVec.ofNat 32 a ||| BitVec.ofNat 32 b = BitVec.ofNat 32 (a ||| b)
  apply BitVec.eq_of_getLsbD_eq
  intro i hi
  simp [hi]
theorem fa_or_sum {a k : Nat} (b : Nat) (h : a < 2 ^ k) : nI (2 ^ k * b) ||| nI a = nI (2 ^ k * b + a) := by rw [fa_or, Nat.two_pow_add_eq_or_of_lt h]
/-! bits, sets of people as numbers -/
def zp (x : Int) : Int := 2 ^ x.toNat
theorem zp_pos (x : Int) : 0 < zp x := Int.pow_pos (by omega)
theorem zp_small : ∀ n : Nat, n < 31 → (2 : Int) ^ n ≤ 1073741824 := by decide +kernel
theorem z_amt : ∀ n : Nat, n < 32 → ((nI n &&& 31).toBitVec.smod 32).toNat = n := by decide +kernel
section ZB
variable {p : Program} {l : Launch} {e : Env} {R : Room} {s : State} {m : MethodId} {args : Array Value} {below : List Frame} {meth : Method} {c : Code} {H : Heap} {locs : List Loc} {cells slots : Nat} {Q : State → Prop}
variable {cc : ByteArray} {pc nL : Nat} {ls : Array Slot} {rest : List Value} {Ts : List Cond} {own : String}
theorem jI_nat {x : Int} (h : 0 ≤ x) : jI x = nI x.toNat := by
  rw [show nI x.toNat = jI (x.toNat : Int) from jI_nI x.toNat, Int.toNat_of_nonneg h]
theorem z_shl1 (S : CallFix p m c cc nL s args Ts own) {x : Int} (hx : 0 ≤ x ∧ x ≤ 30) (hdg : decode cc pc = .ok (.ishl, 1)) (k : W p l e R s m args below meth c H locs cells slots Q (F0 m (pc + 1) ls (.int (jI (zp x)) :: rest))) : W p l e R s m args below meth c H locs cells slots Q (F0 m pc ls (.int (jI x) :: .int (jI 1) :: rest)) := by
  refine lv_ishl S.1 S.2.1 hdg ?_
  have e : jI 1 <<< (jI x &&& 31) = jI (zp x) := by
    rw [jI_nat hx.1, show jI 1 = nI 1 by decide +kernel, pk_shlN _ x.toNat (z_amt x.toNat (by omega)) (by
      have h2 := Nat.pow_le_pow_right (show 1 ≤ 2 by omega) (show x.toNat ≤ 30 by omega)
      have : (2 : Nat) ^ 30 = 1073741824 := by decide +kernel
      omega), Nat.one_mul]
    show nI (2 ^ x.toNat) = jI (zp x)
    rw [show nI (2 ^ x.toNat) = jI ((2 ^ x.toNat : Nat) : Int) from jI_nI _]
    unfold zp
    rw [Int.natCast_pow]
    rfl
  rw [e]
  exact k
theorem z_orp (S : CallFix p m c cc nL s args Ts own) {x v : Int} (hx : (0 ≤ x ∧ x ≤ 29) ∧ 0 ≤ v ∧ v < zp x) (hdg : decode cc pc = .ok (.ior, 1)) (k : W p l e R s m args below meth c H locs cells slots Q (F0 m (pc + 1) ls (.int (jI (v + zp x)) :: rest))) : W p l e R s m args below meth c H locs cells slots Q (F0 m pc ls (.int (jI (zp x)) :: .int (jI v) :: rest)) := by
  refine lv_ior S.1 S.2.1 hdg ?_
  have hz : zp x = ((2 ^ x.toNat : Nat) : Int) := by unfold zp; rw [Int.natCast_pow]; rfl
  have e : jI v ||| jI (zp x) = jI (v + zp x) := by
    rw [hz, jI_nat hx.2.1, ← jI_nI (2 ^ x.toNat), Int32.or_comm]
    have h1 : v.toNat < 2 ^ x.toNat := by have := hx.2.2; rw [hz] at this; omega
    have h2 := fa_or_sum (a := v.toNat) (k := x.toNat) 1 h1
    rw [Nat.mul_one] at h2
    have h3 : nI (2 ^ x.toNat) ||| nI v.toNat = nI (2 ^ x.toNat + v.toNat) := h2
    show nI (2 ^ x.toNat) ||| nI v.toNat = _
    rw [h3, show nI (2 ^ x.toNat + v.toNat) = jI ((2 ^ x.toNat + v.toNat : Nat) : Int) from jI_nI _]
    congr 1
    omega
  rw [e]
  exact k
theorem z_shrp (S : CallFix p m c cc nL s args Ts own) {x v : Int} (hx : (0 ≤ x ∧ x ≤ 30) ∧ 0 ≤ v ∧ v ≤ 2147483647) (hdg : decode cc pc = .ok (.ishr, 1)) (k : W p l e R s m args below meth c H locs cells slots Q (F0 m (pc + 1) ls (.int (jI (v / zp x)) :: rest))) : W p l e R s m args below meth c H locs cells slots Q (F0 m pc ls (.int (jI x) :: .int (jI v) :: rest)) := by
  refine lv_ishr S.1 S.2.1 hdg ?_
  have hz : zp x = ((2 ^ x.toNat : Nat) : Int) := by unfold zp; rw [Int.natCast_pow]; rfl
  have e : jI v >>> (jI x &&& 31) = jI (v / zp x) := by
    rw [jI_nat hx.1.1, jI_nat hx.2.1, pk_shrN (by omega) _ x.toNat (z_amt x.toNat (by omega)), hz]
    rw [show nI (v.toNat / 2 ^ x.toNat) = jI ((v.toNat / 2 ^ x.toNat : Nat) : Int) from jI_nI _, Int.natCast_ediv, Int.toNat_of_nonneg hx.2.1]
  rw [e]
  exact k
theorem z_shr1 (S : CallFix p m c cc nL s args Ts own) {v : Int} (hx : 0 ≤ v ∧ v ≤ 2147483647) (hdg : decode cc pc = .ok (.ishr, 1)) (k : W p l e R s m args below meth c H locs cells slots Q (F0 m (pc + 1) ls (.int (jI (v / 2)) :: rest))) : W p l e R s m args below meth c H locs cells slots Q (F0 m pc ls (.int (jI 1) :: .int (jI v) :: rest)) :=
  z_shrp S (by omega) hdg (by rw [show zp 1 = 2 by decide +kernel]; exact k)
theorem z_and1 (S : CallFix p m c cc nL s args Ts own) {v : Int} (hx : 0 ≤ v ∧ v ≤ 2147483647) (hdg : decode cc pc = .ok (.iand, 1)) (k : W p l e R s m args below meth c H locs cells slots Q (F0 m (pc + 1) ls (.int (jI (v % 2)) :: rest))) : W p l e R s m args below meth c H locs cells slots Q (F0 m pc ls (.int (jI 1) :: .int (jI v) :: rest)) := by
  refine lv_iand S.1 S.2.1 hdg ?_
  have e : jI v &&& jI 1 = jI (v % 2) := by
    rw [jI_nat hx.1, show jI 1 = nI 1 by decide +kernel, pk_andN (by omega) 1 (by decide +kernel)]
    rw [show nI (v.toNat % 2 ^ 1) = jI ((v.toNat % 2 ^ 1 : Nat) : Int) from jI_nI _]
    congr 1
    omega
  rw [e]
  exact k
end ZB
/-- a row of at most three people, as a number: which it is of, how many, the people as bits -/
def zda (row : Int) : Int := row / 121
def zdb (row : Int) : Int := row / 11 % 11
def zdc (row : Int) : Int := row % 11
def zVal (ppl : Int) (lv : Int → Prop) (row : Int) : Prop := (zda row < 10 → zda row < ppl ∧ ¬ lv (zda row)) ∧ (zdb row < 10 → (zda row < 10 ∧ zda row < zdb row ∧ zdb row < ppl) ∧ ¬ lv (zdb row)) ∧ (zdc row < 10 → (zdb row < 10 ∧ zdb row < zdc row ∧ zdc row < ppl) ∧ ¬ lv (zdc row))
def zd1 (x : Int) : Int := if x < 10 then 1 else 0
def zdp (x : Int) : Int := if x < 10 then zp x else 0
def zlen (row : Int) : Int := zd1 (zda row) + zd1 (zdb row) + zd1 (zdc row)
def zset (row : Int) : Int := zdp (zda row) + zdp (zdb row) + zdp (zdc row)
def zpopN : Nat → Nat → Nat
  | 0, _ => 0
  | f + 1, s => s % 2 + zpopN f (s / 2)
def zpop (s : Int) : Int := zpopN 10 s.toNat
theorem zpop_n : ∀ s : Nat, s < 1024 → zpopN 10 s = s % 2 + zpopN 10 (s / 2) := by decide +kernel
theorem zpop_next {s : Int} (h : 0 ≤ s ∧ s < 1024) : zpop s = s % 2 + zpop (s / 2) := by
  unfold zpop
  rw [zpop_n s.toNat (by omega), show (s / 2).toNat = s.toNat / 2 by omega]
  omega
theorem zpop_rng {s : Int} (h : 0 ≤ s ∧ s < 1024) : 0 ≤ zpop s ∧ zpop s ≤ 10 := by
  have key : ∀ n : Nat, n < 1024 → zpopN 10 n ≤ 10 := by decide +kernel
  have := key s.toNat (by omega)
  unfold zpop
  omega
def zdpN (x : Nat) : Nat := if x < 10 then 2 ^ x else 0
def zgrow (a b c : Nat) : Bool := (decide (b = 10) || (decide (a < b))) && (decide (c = 10) || (decide (b < c) && decide (b < 10)))
def zsetB (a b c : Nat) : Bool := (List.range 10).all fun x => decide ((zdpN a + zdpN b + zdpN c) / 2 ^ x % 2 = 1) == (decide (a = x) || decide (b = x) || decide (c = x))
theorem zset_bb : ∀ a, a < 11 → ∀ b, b < 11 → ∀ c, c < 11 → zgrow a b c = true → zsetB a b c = true := by decide +kernel
theorem zset_b (a : Nat) (ha : a < 11) (b : Nat) (hb : b < 11) (c : Nat) (hc : c < 11) (hg : zgrow a b c = true) (x : Nat) (hx : x < 10) : (zdpN a + zdpN b + zdpN c) / 2 ^ x % 2 = 1 ↔ (a = x ∨ b = x ∨ c = x) := by
  have h := List.all_eq_true.mp (zset_bb a ha b hb c hc hg) x (List.mem_range.mpr hx)
  have h2 := eq_of_beq h
  have h3 : (decide ((zdpN a + zdpN b + zdpN c) / 2 ^ x % 2 = 1) = true) ↔ ((decide (a = x) || decide (b = x) || decide (c = x)) = true) := by rw [h2]
  simp only [Bool.or_eq_true, decide_eq_true_eq] at h3
  rw [h3, or_assoc]
def zd1N (x : Nat) : Nat := if x < 10 then 1 else 0
theorem zd1_n {x : Int} (h : 0 ≤ x) : zd1 x = (zd1N x.toNat : Int) := by
  unfold zd1 zd1N
  by_cases h2 : x < 10
  · rw [if_pos h2, if_pos (by omega)]; rfl
  · rw [if_neg h2, if_neg (by omega)]; rfl
theorem zdp_n {x : Int} (h : 0 ≤ x) : zdp x = (zdpN x.toNat : Int) := by
  unfold zdp zdpN zp
  by_cases h2 : x < 10
  · rw [if_pos h2, if_pos (by omega), Int.natCast_pow]; rfl
  · rw [if_neg h2, if_neg (by omega)]; rfl
theorem zset_n : ∀ a, a < 11 → ∀ b, b < 11 → ∀ c, c < 11 → zgrow a b c = true → (zdpN a + zdpN b + zdpN c < 1024 ∧ zpopN 10 (zdpN a + zdpN b + zdpN c) = zd1N a + zd1N b + zd1N c) := by decide +kernel
theorem zVal_grow {ppl : Int} {lv : Int → Prop} {row : Int} (hr : 0 ≤ row ∧ row < 1331) (h : zVal ppl lv row) : zgrow (zda row).toNat (zdb row).toNat (zdc row).toNat = true := by
  obtain ⟨h1, h2, h3⟩ := h
  have hb : zdb row = 10 ∨ zda row < zdb row := by
    by_cases e : zdb row < 10
    · exact Or.inr (h2 e).1.2.1
    · left; unfold zdb at *; omega
  have hc : zdc row = 10 ∨ (zdb row < zdc row ∧ zdb row < 10) := by
    by_cases e : zdc row < 10
    · exact Or.inr ⟨(h3 e).1.2.1, (h3 e).1.1⟩
    · left; unfold zdc at *; omega
  have ra : 0 ≤ zda row := by unfold zda; omega
  have rb : 0 ≤ zdb row := by unfold zdb; omega
  have rc : 0 ≤ zdc row := by unfold zdc; omega
  unfold zgrow
  simp only [Bool.and_eq_true, Bool.or_eq_true, decide_eq_true_eq]
  omega
theorem zset_facts {ppl : Int} {lv : Int → Prop} {row : Int} (hr : 0 ≤ row ∧ row < 1331) (h : zVal ppl lv row) : (0 ≤ zset row ∧ zset row < 1024) ∧ zpop (zset row) = zlen row ∧ ∀ x, 0 ≤ x → x < 10 → (zset row / zp x % 2 = 1 ↔ (zda row = x ∨ zdb row = x ∨ zdc row = x)) := by
  have hg := zVal_grow hr h
  have ra : 0 ≤ zda row ∧ zda row < 11 := by unfold zda; omega
  have rb : 0 ≤ zdb row ∧ zdb row < 11 := by unfold zdb; omega
  have rc : 0 ≤ zdc row ∧ zdc row < 11 := by unfold zdc; omega
  have e : zset row = ((zdpN (zda row).toNat + zdpN (zdb row).toNat + zdpN (zdc row).toNat : Nat) : Int) := by
    unfold zset
    rw [zdp_n ra.1, zdp_n rb.1, zdp_n rc.1]
    omega
  obtain ⟨g1, g2⟩ := zset_n _ (show (zda row).toNat < 11 by omega) _ (show (zdb row).toNat < 11 by omega) _ (show (zdc row).toNat < 11 by omega) hg
  refine ⟨by omega, ?_, fun x h1 h2 => ?_⟩
  · rw [e]
    unfold zpop zlen
    rw [Int.toNat_natCast, g2, zd1_n ra.1, zd1_n rb.1, zd1_n rc.1]
    omega
  · have g3 := zset_b _ (show (zda row).toNat < 11 by omega) _ (show (zdb row).toNat < 11 by omega) _ (show (zdc row).toNat < 11 by omega) hg x.toNat (by omega)
    have hz : zp x = ((2 ^ x.toNat : Nat) : Int) := by unfold zp; rw [Int.natCast_pow]; rfl
    rw [e, hz, ← Int.natCast_ediv]
    constructor
    · intro q
      have := g3.mp (by omega)
      omega
    · intro q
      have := g3.mpr (by omega)
      omega
