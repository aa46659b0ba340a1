/-! Z: the ints of the machine as integers; rows of the kit turned to them -/
def jI (z : Int) : Int32 := Int32.ofInt z
def jL (z : Int) : Int64 := Int64.ofInt z
theorem jI_int {z : Int} (h : -2147483648 ≤ z ∧ z ≤ 2147483647) : (jI z).toInt = z := Int32.toInt_ofInt_of_le (by omega) (by omega)
theorem jL_int {z : Int} (h : -9223372036854775808 ≤ z ∧ z ≤ 9223372036854775807) : (jL z).toInt = z := Int64.toInt_ofInt_of_le (by omega) (by omega)
theorem jI_of (x : Int32) : x = jI x.toInt := (Int32.ofInt_toInt x).symm
theorem jI_rng (x : Int32) : -2147483648 ≤ x.toInt ∧ x.toInt ≤ 2147483647 := ⟨x.le_toInt, by have := x.toInt_lt; omega⟩
theorem jI_inj {a b : Int} (ha : -2147483648 ≤ a ∧ a ≤ 2147483647) (hb : -2147483648 ≤ b ∧ b ≤ 2147483647) : jI a = jI b ↔ a = b := by
  rw [← Int32.toInt_inj, jI_int ha, jI_int hb]
theorem jI_lt {a b : Int} (ha : -2147483648 ≤ a ∧ a ≤ 2147483647) (hb : -2147483648 ≤ b ∧ b ≤ 2147483647) : jI a < jI b ↔ a < b := by
  rw [Int32.lt_iff_toInt_lt, jI_int ha, jI_int hb]
theorem jI_le {a b : Int} (ha : -2147483648 ≤ a ∧ a ≤ 2147483647) (hb : -2147483648 ≤ b ∧ b ≤ 2147483647) : jI a ≤ jI b ↔ a ≤ b := by
  rw [Int32.le_iff_toInt_le, jI_int ha, jI_int hb]
theorem jL_inj {a b : Int} (ha : -9223372036854775808 ≤ a ∧ a ≤ 9223372036854775807) (hb : -9223372036854775808 ≤ b ∧ b ≤ 9223372036854775807) : jL a = jL b ↔ a = b := by
  rw [← Int64.toInt_inj, jL_int ha, jL_int hb]
theorem jL_lt {a b : Int} (ha : -9223372036854775808 ≤ a ∧ a ≤ 9223372036854775807) (hb : -9223372036854775808 ≤ b ∧ b ≤ 9223372036854775807) : jL a < jL b ↔ a < b := by
  rw [Int64.lt_iff_toInt_lt, jL_int ha, jL_int hb]
theorem jI_add (a b : Int) : jI a + jI b = jI (a + b) := (Int32.ofInt_add a b).symm
theorem jI_sub (a b : Int) : jI a - jI b = jI (a - b) := (Int32.ofInt_sub a b).symm
theorem jI_mul (a b : Int) : jI a * jI b = jI (a * b) := (Int32.ofInt_mul a b).symm
theorem jL_add (a b : Int) : jL a + jL b = jL (a + b) := (Int64.ofInt_add a b).symm
theorem jL_sub (a b : Int) : jL a - jL b = jL (a - b) := (Int64.ofInt_sub a b).symm
theorem jL_mul (a b : Int) : jL a * jL b = jL (a * b) := (Int64.ofInt_mul a b).symm
theorem jI_div {a b : Int} (ha : 0 ≤ a ∧ a ≤ 2147483647) (hb : 0 < b ∧ b ≤ 2147483647) : jI a / jI b = jI (a / b) := by
  rw [← Int32.toInt_inj, Int32.toInt_div, jI_int (by omega), jI_int (by omega), Int.tdiv_eq_ediv_of_nonneg (by omega)]
  have h1 : 0 ≤ a / b := Int.ediv_nonneg (by omega) (by omega)
  have h2 : a / b ≤ a := Int.ediv_le_self b (by omega)
  rw [jI_int (by omega)]
  exact Int.bmod_eq_of_le (by omega) (by omega)
theorem jI_rem {a b : Int} (ha : 0 ≤ a ∧ a ≤ 2147483647) (hb : 0 < b ∧ b ≤ 2147483647) : jI a - jI a / jI b * jI b = jI (a % b) := by
  rw [jI_div ha hb, jI_mul, jI_sub, Int.emod_def, Int.mul_comm]
theorem jL_div {a b : Int} (ha : 0 ≤ a ∧ a ≤ 9223372036854775807) (hb : 0 < b ∧ b ≤ 9223372036854775807) : jL a / jL b = jL (a / b) := by
  rw [← Int64.toInt_inj, Int64.toInt_div, jL_int (by omega), jL_int (by omega), Int.tdiv_eq_ediv_of_nonneg (by omega)]
  have h1 : 0 ≤ a / b := Int.ediv_nonneg (by omega) (by omega)
  have h2 : a / b ≤ a := Int.ediv_le_self b (by omega)
  rw [jL_int (by omega)]
  exact Int.bmod_eq_of_le (by omega) (by omega)
theorem jL_rem {a b : Int} (ha : 0 ≤ a ∧ a ≤ 9223372036854775807) (hb : 0 < b ∧ b ≤ 9223372036854775807) : jL a - jL a / jL b * jL b = jL (a % b) := by
  rw [jL_div ha hb, jL_mul, jL_sub, Int.emod_def, Int.mul_comm]
theorem jI_long {a : Int} (ha : -2147483648 ≤ a ∧ a ≤ 2147483647) : (jI a).toInt64 = jL a := by
  rw [← Int64.toInt_inj, Int32.toInt_toInt64, jI_int ha, jL_int (by omega)]
theorem jI_clamp {i : Int} (h : 0 ≤ i ∧ i ≤ 2147483647) : ((jI i).toNatClampNeg : Int) = i := by
  show (((jI i).toInt.toNat : Nat) : Int) = i
  rw [jI_int (by omega)]
  omega
theorem jI_nI (n : Nat) : Int32.ofNat n = jI n := Int32.ofInt_eq_ofNat.symm
theorem jI_byte (a : Int) : (jI a).toInt8.toInt32 = jI (a.bmod 256) := by
  have h1 : -128 ≤ a.bmod 256 := by have := @Int.le_bmod a 256 (by omega); omega
  have h2 : a.bmod 256 < 128 := by have := @Int.bmod_lt a 256 (by omega); omega
  rw [← Int32.toInt_inj, jI_int (by omega), Int8.toInt_toInt32, show (jI a).toInt8 = Int8.ofInt a from Int32.toInt8_ofInt, Int8.toInt_ofInt]
theorem jI_short (a : Int) : (jI a).toInt16.toInt32 = jI (a.bmod 65536) := by
  have h1 : -32768 ≤ a.bmod 65536 := by have := @Int.le_bmod a 65536 (by omega); omega
  have h2 : a.bmod 65536 < 32768 := by have := @Int.bmod_lt a 65536 (by omega); omega
  rw [← Int32.toInt_inj, jI_int (by omega), Int16.toInt_toInt32, show (jI a).toInt16 = Int16.ofInt a from Int32.toInt16_ofInt, Int16.toInt_ofInt]
theorem jI_inRow {i : Int} {n : Nat} (h : 0 ≤ i ∧ i < n ∧ n ≤ 2147483647) : vp_in (jI i) n := by
  rw [vp_in_iff, jI_int (by omega)]
  omega
/-- rows of ints: by a function of integers -/
def aI (f : Int → Int) : Nat → Int32 := fun j => jI (f (j : Int))
def zu (f : Int → Int) (i v : Int) : Int → Int := fun j => if j = i then v else f j
theorem zu_s {f : Int → Int} {i v : Int} : zu f i v i = v := by simp [zu]
theorem zu_e {f : Int → Int} {i j v : Int} (h : j = i) : zu f i v j = v := by simp [zu, h]
theorem zu_n {f : Int → Int} {i j v : Int} (h : j ≠ i) : zu f i v j = f j := by simp [zu, h]
theorem aI_get {f : Int → Int} {i : Int} (h : 0 ≤ i ∧ i ≤ 2147483647) : aI f (jI i).toNatClampNeg = jI (f i) := by
  show jI (f (((jI i).toNatClampNeg : Nat) : Int)) = _
  rw [jI_clamp h]
theorem aI_set {f : Int → Int} {i v : Int} (h : 0 ≤ i ∧ i ≤ 2147483647) : upd (aI f) (jI i).toNatClampNeg (jI v) = aI (zu f i v) := by
  funext j
  have e := jI_clamp h
  by_cases hj : j = (jI i).toNatClampNeg
  · rw [hj, pk_us]
    show _ = jI (zu f i v (((jI i).toNatClampNeg : Nat) : Int))
    rw [e, zu_s]
  · rw [pk_un hj]
    show jI _ = jI (zu f i v (j : Int))
    rw [zu_n (by omega)]
theorem aI_0 : aI (fun _ => 0) = fun _ => (0 : Int32) := rfl
/-- 1 where it holds, else 0 -/
noncomputable def zb (P : Prop) : Int := @ite Int P (Classical.propDecidable P) 1 0
theorem zb_t {P : Prop} (h : P) : zb P = 1 := by unfold zb; exact if_pos h
theorem zb_f {P : Prop} (h : ¬ P) : zb P = 0 := by unfold zb; exact if_neg h
theorem zb_or (P : Prop) : (P ∧ zb P = 1) ∨ (¬ P ∧ zb P = 0) := (Classical.em P).elim (fun h => Or.inl ⟨h, zb_t h⟩) (fun h => Or.inr ⟨h, zb_f h⟩)
def zr (k mc ms : Nat) : Room := { frames := k, cells := mc, slots := ms, locals := 64 * k }
section ZW
variable {p : Program} {l : Launch} {e : Env} {R : Room} {s : State} {m : MethodId} {args : Array Value} {below : List Frame} {meth : Method} {c : Code} {H : Heap} {locs : List Loc} {cells slots : Nat} {Q : State → Prop}
variable {cc : ByteArray} {pc nL : Nat} {ls : Array Slot} {rest : List Value} {Ts : List Cond} {own : String}
theorem z_iconst (S : CallFix p m c cc nL s args Ts own) {n : Int}  (hdg : decode cc pc = .ok (.iconst n, 1)) (k : W p l e R s m args below meth c H locs cells slots Q (F0 m (pc + 1) ls (.int (jI n) :: rest))) : W p l e R s m args below meth c H locs cells slots Q (F0 m (pc) ls (rest)) := lv_iconst S.1 S.2.1 hdg rfl k
theorem z_bipush (S : CallFix p m c cc nL s args Ts own) {n : Int} (hv : (Int8.ofInt n).toInt32 = jI n) (hdg : decode cc pc = .ok (.bipush n, 2)) (k : W p l e R s m args below meth c H locs cells slots Q (F0 m (pc + 2) ls (.int (jI n) :: rest))) : W p l e R s m args below meth c H locs cells slots Q (F0 m (pc) ls (rest)) := lv_bipush S.1 S.2.1 hdg hv k
theorem z_sipush (S : CallFix p m c cc nL s args Ts own) {n : Int} (hv : (Int16.ofInt n).toInt32 = jI n) (hdg : decode cc pc = .ok (.sipush n, 3)) (k : W p l e R s m args below meth c H locs cells slots Q (F0 m (pc + 3) ls (.int (jI n) :: rest))) : W p l e R s m args below meth c H locs cells slots Q (F0 m (pc) ls (rest)) := lv_sipush S.1 S.2.1 hdg hv k
theorem z_lconst (S : CallFix p m c cc nL s args Ts own) {n : Fin 2} {z : Int} (hz : Int64.ofNat (n : Nat) = jL z) (hdg : decode cc pc = .ok (.lconst n, 1)) (k : W p l e R s m args below meth c H locs cells slots Q (F0 m (pc + 1) ls (.long (jL z) :: rest))) : W p l e R s m args below meth c H locs cells slots Q (F0 m (pc) ls (rest)) := lv_lconst S.1 S.2.1 hdg hz k
theorem z_ldc (S : CallFix p m c cc nL s args Ts own) {idx : Nat} {v : Int32} {n : Int} (hc : Cond.constant own idx v ∈ Ts) (hv : v = jI n) (hdg : decode cc pc = .ok (.ldc idx, 2)) (k : W p l e R s m args below meth c H locs cells slots Q (F0 m (pc + 2) ls (.int (jI n) :: rest))) : W p l e R s m args below meth c H locs cells slots Q (F0 m (pc) ls (rest)) := lv_ldc S.1 S.2.1 S.2.2.2.1 (S.2.2.2.2 _ hc) hdg (by rw [hv]; exact k)
theorem z_ldc2 (S : CallFix p m c cc nL s args Ts own) {idx : Nat} {v : Int64} {n : Int} (hc : Cond.constantLong own idx v ∈ Ts) (hv : v = jL n) (hdg : decode cc pc = .ok (.ldc2_w idx, 3)) (k : W p l e R s m args below meth c H locs cells slots Q (F0 m (pc + 3) ls (.long (jL n) :: rest))) : W p l e R s m args below meth c H locs cells slots Q (F0 m (pc) ls (rest)) := lv_ldc2 S.1 S.2.1 S.2.2.2.1 (S.2.2.2.2 _ hc) hdg (by rw [hv]; exact k)
theorem z_iadd (S : CallFix p m c cc nL s args Ts own) {x y : Int} (hdg : decode cc pc = .ok (.iadd, 1)) (k : W p l e R s m args below meth c H locs cells slots Q (F0 m (pc + 1) ls (.int (jI (x + y)) :: rest))) : W p l e R s m args below meth c H locs cells slots Q (F0 m (pc) ls (.int (jI y) :: .int (jI x) :: rest)) := lv_iadd S.1 S.2.1 hdg (by rw [jI_add]; exact k)
theorem z_isub (S : CallFix p m c cc nL s args Ts own) {x y : Int} (hdg : decode cc pc = .ok (.isub, 1)) (k : W p l e R s m args below meth c H locs cells slots Q (F0 m (pc + 1) ls (.int (jI (x - y)) :: rest))) : W p l e R s m args below meth c H locs cells slots Q (F0 m (pc) ls (.int (jI y) :: .int (jI x) :: rest)) := lv_isub S.1 S.2.1 hdg (by rw [jI_sub]; exact k)
theorem z_imul (S : CallFix p m c cc nL s args Ts own) {x y : Int} (hdg : decode cc pc = .ok (.imul, 1)) (k : W p l e R s m args below meth c H locs cells slots Q (F0 m (pc + 1) ls (.int (jI (x * y)) :: rest))) : W p l e R s m args below meth c H locs cells slots Q (F0 m (pc) ls (.int (jI y) :: .int (jI x) :: rest)) := lv_imul S.1 S.2.1 hdg (by rw [jI_mul]; exact k)
theorem z_ladd (S : CallFix p m c cc nL s args Ts own) {x y : Int} (hdg : decode cc pc = .ok (.ladd, 1)) (k : W p l e R s m args below meth c H locs cells slots Q (F0 m (pc + 1) ls (.long (jL (x + y)) :: rest))) : W p l e R s m args below meth c H locs cells slots Q (F0 m (pc) ls (.long (jL y) :: .long (jL x) :: rest)) := lv_ladd S.1 S.2.1 hdg (by rw [jL_add]; exact k)
theorem z_lsub (S : CallFix p m c cc nL s args Ts own) {x y : Int} (hdg : decode cc pc = .ok (.lsub, 1)) (k : W p l e R s m args below meth c H locs cells slots Q (F0 m (pc + 1) ls (.long (jL (x - y)) :: rest))) : W p l e R s m args below meth c H locs cells slots Q (F0 m (pc) ls (.long (jL y) :: .long (jL x) :: rest)) := lv_lsub S.1 S.2.1 hdg (by rw [jL_sub]; exact k)
theorem z_lmul (S : CallFix p m c cc nL s args Ts own) {x y : Int} (hdg : decode cc pc = .ok (.lmul, 1)) (k : W p l e R s m args below meth c H locs cells slots Q (F0 m (pc + 1) ls (.long (jL (x * y)) :: rest))) : W p l e R s m args below meth c H locs cells slots Q (F0 m (pc) ls (.long (jL y) :: .long (jL x) :: rest)) := lv_lmul S.1 S.2.1 hdg (by rw [jL_mul]; exact k)
theorem z_idiv (S : CallFix p m c cc nL s args Ts own) {x y : Int} (hx : 0 ≤ x ∧ x ≤ 2147483647) (hy : 0 < y ∧ y ≤ 2147483647) (hdg : decode cc pc = .ok (.idiv, 1)) (k : W p l e R s m args below meth c H locs cells slots Q (F0 m (pc + 1) ls (.int (jI (x / y)) :: rest))) : W p l e R s m args below meth c H locs cells slots Q (F0 m (pc) ls (.int (jI y) :: .int (jI x) :: rest)) := lv_idiv S.1 S.2.1 hdg (fun h => by have h2 := (jI_inj (a := y) (b := 0) (by omega) (by omega)).mp h; omega) (by rw [jI_div hx hy]; exact k)
theorem z_irem (S : CallFix p m c cc nL s args Ts own) {x y : Int} (hx : 0 ≤ x ∧ x ≤ 2147483647) (hy : 0 < y ∧ y ≤ 2147483647) (hdg : decode cc pc = .ok (.irem, 1)) (k : W p l e R s m args below meth c H locs cells slots Q (F0 m (pc + 1) ls (.int (jI (x % y)) :: rest))) : W p l e R s m args below meth c H locs cells slots Q (F0 m (pc) ls (.int (jI y) :: .int (jI x) :: rest)) := lv_irem S.1 S.2.1 hdg (fun h => by have h2 := (jI_inj (a := y) (b := 0) (by omega) (by omega)).mp h; omega) (by rw [jI_rem hx hy]; exact k)
theorem z_ldiv (S : CallFix p m c cc nL s args Ts own) {x y : Int} (hx : 0 ≤ x ∧ x ≤ 9223372036854775807) (hy : 0 < y ∧ y ≤ 9223372036854775807) (hdg : decode cc pc = .ok (.ldiv, 1)) (k : W p l e R s m args below meth c H locs cells slots Q (F0 m (pc + 1) ls (.long (jL (x / y)) :: rest))) : W p l e R s m args below meth c H locs cells slots Q (F0 m (pc) ls (.long (jL y) :: .long (jL x) :: rest)) := lv_ldiv S.1 S.2.1 hdg (fun h => by have h2 := (jL_inj (a := y) (b := 0) (by omega) (by omega)).mp h; omega) (by rw [jL_div hx hy]; exact k)
theorem z_lrem (S : CallFix p m c cc nL s args Ts own) {x y : Int} (hx : 0 ≤ x ∧ x ≤ 9223372036854775807) (hy : 0 < y ∧ y ≤ 9223372036854775807) (hdg : decode cc pc = .ok (.lrem, 1)) (k : W p l e R s m args below meth c H locs cells slots Q (F0 m (pc + 1) ls (.long (jL (x % y)) :: rest))) : W p l e R s m args below meth c H locs cells slots Q (F0 m (pc) ls (.long (jL y) :: .long (jL x) :: rest)) := lv_lrem S.1 S.2.1 hdg (fun h => by have h2 := (jL_inj (a := y) (b := 0) (by omega) (by omega)).mp h; omega) (by rw [jL_rem hx hy]; exact k)
theorem z_i2l (S : CallFix p m c cc nL s args Ts own) {x : Int} (hx : (-2147483648 ≤ x ∧ x ≤ 2147483647)) (hdg : decode cc pc = .ok (.i2l, 1)) (k : W p l e R s m args below meth c H locs cells slots Q (F0 m (pc + 1) ls (.long (jL x) :: rest))) : W p l e R s m args below meth c H locs cells slots Q (F0 m (pc) ls (.int (jI x) :: rest)) := lv_i2l S.1 S.2.1 hdg (jI_long hx) k
theorem z_i2b (S : CallFix p m c cc nL s args Ts own) {x : Int} (hdg : decode cc pc = .ok (.i2b, 1)) (k : W p l e R s m args below meth c H locs cells slots Q (F0 m (pc + 1) ls (.int (jI (x.bmod 256)) :: rest))) : W p l e R s m args below meth c H locs cells slots Q (F0 m (pc) ls (.int (jI x) :: rest)) := lv_i2b S.1 S.2.1 hdg (jI_byte x) k
theorem z_i2s (S : CallFix p m c cc nL s args Ts own) {x : Int} (hdg : decode cc pc = .ok (.i2s, 1)) (k : W p l e R s m args below meth c H locs cells slots Q (F0 m (pc + 1) ls (.int (jI (x.bmod 65536)) :: rest))) : W p l e R s m args below meth c H locs cells slots Q (F0 m (pc) ls (.int (jI x) :: rest)) := lv_i2s S.1 S.2.1 hdg (jI_short x) k
theorem z_lcmp (S : CallFix p m c cc nL s args Ts own) {x y : Int} (hx : (-9223372036854775808 ≤ x ∧ x ≤ 9223372036854775807) ∧ (-9223372036854775808 ≤ y ∧ y ≤ 9223372036854775807)) (hdg : decode cc pc = .ok (.lcmp, 1)) (k : ∀ v : Int, ((v = -1 ∧ x < y) ∨ (v = 0 ∧ x = y) ∨ (v = 1 ∧ y < x)) → W p l e R s m args below meth c H locs cells slots Q (F0 m (pc + 1) ls (.int (jI v) :: rest))) : W p l e R s m args below meth c H locs cells slots Q (F0 m (pc) ls (.long (jL y) :: .long (jL x) :: rest)) := by
  refine W.lcmp S.1 S.2.1 hdg ?_
  unfold lg_cmp
  by_cases h1 : y < x
  · rw [if_pos (show jL x > jL y from (jL_lt hx.2 hx.1).mpr h1)]
    exact k 1 (Or.inr (Or.inr ⟨rfl, h1⟩))
  · rw [if_neg (fun q : jL x > jL y => h1 ((jL_lt hx.2 hx.1).mp q))]
    by_cases h2 : x = y
    · rw [if_pos (congrArg jL h2)]
      exact k 0 (Or.inr (Or.inl ⟨rfl, h2⟩))
    · rw [if_neg (fun q => h2 ((jL_inj hx.1 hx.2).mp q))]
      exact k (-1) (Or.inl ⟨rfl, by omega⟩)
theorem z_icmp_lt (S : CallFix p m c cc nL s args Ts own) {x y : Int} {off : Int} {tgt : Nat} (hdg : decode cc pc = .ok (.if_icmp .lt off, 3)) (ht : (pc : Int) + off = (tgt : Int)) (hr : (-2147483648 ≤ x ∧ x ≤ 2147483647) ∧ (-2147483648 ≤ y ∧ y ≤ 2147483647)) (kt : x < y → W p l e R s m args below meth c H locs cells slots Q (F0 m (tgt) ls (rest))) (kf : y ≤ x → W p l e R s m args below meth c H locs cells slots Q (F0 m (pc + 3) ls (rest))) : W p l e R s m args below meth c H locs cells slots Q (F0 m (pc) ls (.int (jI y) :: .int (jI x) :: rest)) := lv_icmp_lt S.1 S.2.1 hdg ht (fun h => kt ((jI_lt hr.1 hr.2).mp h)) (fun h => kf (Int.not_lt.mp (fun q => h ((jI_lt hr.1 hr.2).mpr q))))
theorem z_if_lt (S : CallFix p m c cc nL s args Ts own) {x : Int} {off : Int} {tgt : Nat} (hdg : decode cc pc = .ok (.ifCond .lt off, 3)) (ht : (pc : Int) + off = (tgt : Int)) (hr : (-2147483648 ≤ x ∧ x ≤ 2147483647)) (kt : x < 0 → W p l e R s m args below meth c H locs cells slots Q (F0 m (tgt) ls (rest))) (kf : 0 ≤ x → W p l e R s m args below meth c H locs cells slots Q (F0 m (pc + 3) ls (rest))) : W p l e R s m args below meth c H locs cells slots Q (F0 m (pc) ls (.int (jI x) :: rest)) := lv_if_lt S.1 S.2.1 hdg ht (fun h => kt ((jI_lt hr (show -2147483648 ≤ (0 : Int) ∧ (0 : Int) ≤ 2147483647 by omega)).mp h)) (fun h => kf (Int.not_lt.mp (fun q => h ((jI_lt hr (show -2147483648 ≤ (0 : Int) ∧ (0 : Int) ≤ 2147483647 by omega)).mpr q))))
theorem z_icmp_ge (S : CallFix p m c cc nL s args Ts own) {x y : Int} {off : Int} {tgt : Nat} (hdg : decode cc pc = .ok (.if_icmp .ge off, 3)) (ht : (pc : Int) + off = (tgt : Int)) (hr : (-2147483648 ≤ x ∧ x ≤ 2147483647) ∧ (-2147483648 ≤ y ∧ y ≤ 2147483647)) (kt : y ≤ x → W p l e R s m args below meth c H locs cells slots Q (F0 m (tgt) ls (rest))) (kf : x < y → W p l e R s m args below meth c H locs cells slots Q (F0 m (pc + 3) ls (rest))) : W p l e R s m args below meth c H locs cells slots Q (F0 m (pc) ls (.int (jI y) :: .int (jI x) :: rest)) := lv_icmp_ge S.1 S.2.1 hdg ht (fun h => kt ((jI_le hr.2 hr.1).mp h)) (fun h => kf (Int.not_le.mp (fun q => h ((jI_le hr.2 hr.1).mpr q))))
theorem z_if_ge (S : CallFix p m c cc nL s args Ts own) {x : Int} {off : Int} {tgt : Nat} (hdg : decode cc pc = .ok (.ifCond .ge off, 3)) (ht : (pc : Int) + off = (tgt : Int)) (hr : (-2147483648 ≤ x ∧ x ≤ 2147483647)) (kt : 0 ≤ x → W p l e R s m args below meth c H locs cells slots Q (F0 m (tgt) ls (rest))) (kf : x < 0 → W p l e R s m args below meth c H locs cells slots Q (F0 m (pc + 3) ls (rest))) : W p l e R s m args below meth c H locs cells slots Q (F0 m (pc) ls (.int (jI x) :: rest)) := lv_if_ge S.1 S.2.1 hdg ht (fun h => kt ((jI_le (show -2147483648 ≤ (0 : Int) ∧ (0 : Int) ≤ 2147483647 by omega) hr).mp h)) (fun h => kf (Int.not_le.mp (fun q => h ((jI_le (show -2147483648 ≤ (0 : Int) ∧ (0 : Int) ≤ 2147483647 by omega) hr).mpr q))))
theorem z_icmp_gt (S : CallFix p m c cc nL s args Ts own) {x y : Int} {off : Int} {tgt : Nat} (hdg : decode cc pc = .ok (.if_icmp .gt off, 3)) (ht : (pc : Int) + off = (tgt : Int)) (hr : (-2147483648 ≤ x ∧ x ≤ 2147483647) ∧ (-2147483648 ≤ y ∧ y ≤ 2147483647)) (kt : y < x → W p l e R s m args below meth c H locs cells slots Q (F0 m (tgt) ls (rest))) (kf : x ≤ y → W p l e R s m args below meth c H locs cells slots Q (F0 m (pc + 3) ls (rest))) : W p l e R s m args below meth c H locs cells slots Q (F0 m (pc) ls (.int (jI y) :: .int (jI x) :: rest)) := lv_icmp_gt S.1 S.2.1 hdg ht (fun h => kt ((jI_lt hr.2 hr.1).mp h)) (fun h => kf (Int.not_lt.mp (fun q => h ((jI_lt hr.2 hr.1).mpr q))))
theorem z_if_gt (S : CallFix p m c cc nL s args Ts own) {x : Int} {off : Int} {tgt : Nat} (hdg : decode cc pc = .ok (.ifCond .gt off, 3)) (ht : (pc : Int) + off = (tgt : Int)) (hr : (-2147483648 ≤ x ∧ x ≤ 2147483647)) (kt : 0 < x → W p l e R s m args below meth c H locs cells slots Q (F0 m (tgt) ls (rest))) (kf : x ≤ 0 → W p l e R s m args below meth c H locs cells slots Q (F0 m (pc + 3) ls (rest))) : W p l e R s m args below meth c H locs cells slots Q (F0 m (pc) ls (.int (jI x) :: rest)) := lv_if_gt S.1 S.2.1 hdg ht (fun h => kt ((jI_lt (show -2147483648 ≤ (0 : Int) ∧ (0 : Int) ≤ 2147483647 by omega) hr).mp h)) (fun h => kf (Int.not_lt.mp (fun q => h ((jI_lt (show -2147483648 ≤ (0 : Int) ∧ (0 : Int) ≤ 2147483647 by omega) hr).mpr q))))
theorem z_icmp_le (S : CallFix p m c cc nL s args Ts own) {x y : Int} {off : Int} {tgt : Nat} (hdg : decode cc pc = .ok (.if_icmp .le off, 3)) (ht : (pc : Int) + off = (tgt : Int)) (hr : (-2147483648 ≤ x ∧ x ≤ 2147483647) ∧ (-2147483648 ≤ y ∧ y ≤ 2147483647)) (kt : x ≤ y → W p l e R s m args below meth c H locs cells slots Q (F0 m (tgt) ls (rest))) (kf : y < x → W p l e R s m args below meth c H locs cells slots Q (F0 m (pc + 3) ls (rest))) : W p l e R s m args below meth c H locs cells slots Q (F0 m (pc) ls (.int (jI y) :: .int (jI x) :: rest)) := lv_icmp_le S.1 S.2.1 hdg ht (fun h => kt ((jI_le hr.1 hr.2).mp h)) (fun h => kf (Int.not_le.mp (fun q => h ((jI_le hr.1 hr.2).mpr q))))
theorem z_if_le (S : CallFix p m c cc nL s args Ts own) {x : Int} {off : Int} {tgt : Nat} (hdg : decode cc pc = .ok (.ifCond .le off, 3)) (ht : (pc : Int) + off = (tgt : Int)) (hr : (-2147483648 ≤ x ∧ x ≤ 2147483647)) (kt : x ≤ 0 → W p l e R s m args below meth c H locs cells slots Q (F0 m (tgt) ls (rest))) (kf : 0 < x → W p l e R s m args below meth c H locs cells slots Q (F0 m (pc + 3) ls (rest))) : W p l e R s m args below meth c H locs cells slots Q (F0 m (pc) ls (.int (jI x) :: rest)) := lv_if_le S.1 S.2.1 hdg ht (fun h => kt ((jI_le hr (show -2147483648 ≤ (0 : Int) ∧ (0 : Int) ≤ 2147483647 by omega)).mp h)) (fun h => kf (Int.not_le.mp (fun q => h ((jI_le hr (show -2147483648 ≤ (0 : Int) ∧ (0 : Int) ≤ 2147483647 by omega)).mpr q))))
theorem z_icmp_eq (S : CallFix p m c cc nL s args Ts own) {x y : Int} {off : Int} {tgt : Nat} (hdg : decode cc pc = .ok (.if_icmp .eq off, 3)) (ht : (pc : Int) + off = (tgt : Int)) (hr : (-2147483648 ≤ x ∧ x ≤ 2147483647) ∧ (-2147483648 ≤ y ∧ y ≤ 2147483647)) (kt : x = y → W p l e R s m args below meth c H locs cells slots Q (F0 m (tgt) ls (rest))) (kf : x ≠ y → W p l e R s m args below meth c H locs cells slots Q (F0 m (pc + 3) ls (rest))) : W p l e R s m args below meth c H locs cells slots Q (F0 m (pc) ls (.int (jI y) :: .int (jI x) :: rest)) := lv_icmp_eq S.1 S.2.1 hdg ht (fun h => kt ((jI_inj hr.1 hr.2).mp h)) (fun h => kf (fun q => h ((jI_inj hr.1 hr.2).mpr q)))
theorem z_if_eq (S : CallFix p m c cc nL s args Ts own) {x : Int} {off : Int} {tgt : Nat} (hdg : decode cc pc = .ok (.ifCond .eq off, 3)) (ht : (pc : Int) + off = (tgt : Int)) (hr : (-2147483648 ≤ x ∧ x ≤ 2147483647)) (kt : x = 0 → W p l e R s m args below meth c H locs cells slots Q (F0 m (tgt) ls (rest))) (kf : x ≠ 0 → W p l e R s m args below meth c H locs cells slots Q (F0 m (pc + 3) ls (rest))) : W p l e R s m args below meth c H locs cells slots Q (F0 m (pc) ls (.int (jI x) :: rest)) := lv_if_eq S.1 S.2.1 hdg ht (fun h => kt ((jI_inj hr (show -2147483648 ≤ (0 : Int) ∧ (0 : Int) ≤ 2147483647 by omega)).mp h)) (fun h => kf (fun q => h ((jI_inj hr (show -2147483648 ≤ (0 : Int) ∧ (0 : Int) ≤ 2147483647 by omega)).mpr q)))
theorem z_icmp_ne (S : CallFix p m c cc nL s args Ts own) {x y : Int} {off : Int} {tgt : Nat} (hdg : decode cc pc = .ok (.if_icmp .ne off, 3)) (ht : (pc : Int) + off = (tgt : Int)) (hr : (-2147483648 ≤ x ∧ x ≤ 2147483647) ∧ (-2147483648 ≤ y ∧ y ≤ 2147483647)) (kt : x ≠ y → W p l e R s m args below meth c H locs cells slots Q (F0 m (tgt) ls (rest))) (kf : x = y → W p l e R s m args below meth c H locs cells slots Q (F0 m (pc + 3) ls (rest))) : W p l e R s m args below meth c H locs cells slots Q (F0 m (pc) ls (.int (jI y) :: .int (jI x) :: rest)) := lv_icmp_ne S.1 S.2.1 hdg ht (fun h => kt (fun q => h (congrArg jI q))) (fun h => kf ((jI_inj hr.1 hr.2).mp h))
theorem z_if_ne (S : CallFix p m c cc nL s args Ts own) {x : Int} {off : Int} {tgt : Nat} (hdg : decode cc pc = .ok (.ifCond .ne off, 3)) (ht : (pc : Int) + off = (tgt : Int)) (hr : (-2147483648 ≤ x ∧ x ≤ 2147483647)) (kt : x ≠ 0 → W p l e R s m args below meth c H locs cells slots Q (F0 m (tgt) ls (rest))) (kf : x = 0 → W p l e R s m args below meth c H locs cells slots Q (F0 m (pc + 3) ls (rest))) : W p l e R s m args below meth c H locs cells slots Q (F0 m (pc) ls (.int (jI x) :: rest)) := lv_if_ne S.1 S.2.1 hdg ht (fun h => kt (fun q => h (congrArg jI q))) (fun h => kf ((jI_inj hr (by omega)).mp h))
theorem z_goto (S : CallFix p m c cc nL s args Ts own) {off : Int} {tgt : Nat} (hdg : decode cc pc = .ok (.goto off, 3)) (ht : (pc : Int) + off = (tgt : Int)) (k : W p l e R s m args below meth c H locs cells slots Q (F0 m (tgt) ls (rest))) : W p l e R s m args below meth c H locs cells slots Q (F0 m (pc) ls (rest)) := lv_goto S.1 S.2.1 hdg ht k
theorem z_iinc (S : CallFix p m c cc nL s args Ts own) {i k : Nat} {n x : Int} {lv lv' : List (Nat × Value)} (h : lv_has ls nL lv) (hk : lv[k]? = some (i, .int (jI x))) (hn : i < nL) (hl : (i, Value.int (jI (x + n))) :: lv.filter (fun q => !(q.1 == i) && !(q.1 + 1 == i && q.2.category == 2)) = lv') (hdg : decode cc pc = .ok (.iinc i n, 3)) (kk : ∀ ls' : Array Slot, lv_has ls' nL lv' → W p l e R s m args below meth c H locs cells slots Q (F0 m (pc + 3) ls' (rest))) : W p l e R s m args below meth c H locs cells slots Q (F0 m (pc) ls (rest)) := lv_iinc (v := jI (x + n)) S.1 S.2.1 hdg h hk (jI_add x n) hn hl kk
end ZW
