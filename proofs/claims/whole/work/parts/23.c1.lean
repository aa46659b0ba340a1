theorem q_X0_of_2 : Cond.constant RX0 15 (1000000) ∈ wsX0_of := List.mem_of_getElem? (i := 2) rfl
theorem i_X0_of_0 : ∀ w ∈ u_ws RX0 TX0 1, w ∈ wsX0_of := fun w h => List.mem_cons_of_mem _ (List.mem_append_right _ h)
theorem q_X0_of_1 : Cond.fieldLink RX0 9 "LivingNumbers$Fewest" "words" "[I" ∈ wsX0_of := List.mem_of_getElem? (i := 1) rfl
theorem hv_X0_of : yX0_of.cls = RX0 ∧ yX0_of.cls ≠ "java/lang/invoke/MethodHandle" ∧ yX0_of.cls ≠ "java/lang/invoke/VarHandle" ∧ (parseMethodDescriptor yX0_of.desc).map (fun d => d.parameters.length) = some 1 := by decide +kernel
theorem hv_X0_within : yX0_within.cls = RX0 ∧ yX0_within.cls ≠ "java/lang/invoke/MethodHandle" ∧ yX0_within.cls ≠ "java/lang/invoke/VarHandle" ∧ (parseMethodDescriptor yX0_within.desc).map (fun d => d.parameters.length) = some 2 := by decide +kernel
theorem hs_X0_isReached : yX0_isReached.cls ≠ "java/lang/invoke/MethodHandle" ∧ yX0_isReached.cls ≠ "java/lang/invoke/VarHandle" ∧ (parseMethodDescriptor yX0_isReached.desc).map (fun d => d.parameters.length) = some 5 := by decide +kernel
theorem q_X0_withinBy_1 : Cond.methodLink RX0 16 Lib.Math.min.name ∈ wsX0_withinBy := List.mem_of_getElem? (i := 1) rfl
theorem q_X0_withinBy_2 : Cond.static Lib.Math.min.name ∈ wsX0_withinBy := List.mem_of_getElem? (i := 2) rfl
theorem q_X0_withinBy_3 : Cond.initialized "java/lang/Math" ∈ wsX0_withinBy := List.mem_of_getElem? (i := 3) rfl
theorem q_X0_withinBy_4 : Cond.code Lib.Math.min.name Lib.Math.min.code 2 (some .int) ∈ wsX0_withinBy := List.mem_of_getElem? (i := 4) rfl
theorem i_X0_clear_0 : ∀ w ∈ u_ws RX0 TX0 1, w ∈ wsX0_clear := fun w h => List.mem_cons_of_mem _ (List.mem_append_right _ h)
theorem q_X0_clear_1 : Cond.fieldLink RX0 9 "LivingNumbers$Fewest" "words" "[I" ∈ wsX0_clear := List.mem_of_getElem? (i := 1) rfl
theorem q_X0_clear_2 : Cond.constant RX0 15 (1000000) ∈ wsX0_clear := List.mem_of_getElem? (i := 2) rfl
theorem i_X0_add_0 : ∀ w ∈ u_ws RX0 TX0 1, w ∈ wsX0_add := fun w h => List.mem_cons_of_mem _ (List.mem_append_right _ h)
theorem q_X0_add_1 : Cond.fieldLink RX0 9 "LivingNumbers$Fewest" "words" "[I" ∈ wsX0_add := List.mem_of_getElem? (i := 1) rfl
theorem q_X0_add_2 : Cond.methodLink RX0 16 Lib.Math.min.name ∈ wsX0_add := List.mem_of_getElem? (i := 2) rfl
theorem q_X0_add_3 : Cond.static Lib.Math.min.name ∈ wsX0_add := List.mem_of_getElem? (i := 3) rfl
theorem q_X0_add_4 : Cond.initialized "java/lang/Math" ∈ wsX0_add := List.mem_of_getElem? (i := 4) rfl
theorem q_X0_add_5 : Cond.code Lib.Math.min.name Lib.Math.min.code 2 (some .int) ∈ wsX0_add := List.mem_of_getElem? (i := 5) rfl
set_option maxHeartbeats 1000000 in
set_option maxRecDepth 20000 in
theorem c_X0_of (l : Launch) (E : zE) (h : Nat) (a0 : Nat) (fw : Int → Int) (q : Int) (h_q : -2147483648 ≤ q ∧ q ≤ 2147483647) : zRi l E yX0_of wsX0_of (zr 1 0 0) [.ref h, .int (jI (q))] (fun H => zP E ([(h, .inr (0, [.ref a0])), (a0, eI E 1000 fw)]) H) (fun r => ((0 ≤ q ∧ q ≤ 999) ∧ r = fw q) ∨ ((q < 0 ∨ 999 < q) ∧ r = 1000000)) := by
  refine zRi_of (own := RX0) (cc := cX0_of) (maxL := 2) (by decide) rfl (Nat.le_of_ble_eq_true rfl) rfl ?_
  intro p e s m args below meth c Q S hK hP hQ ls hl
  have hl : lv_has ls 2 [(0, .ref h), (1, .int (jI (q)))] := hl
  refine lv_iload_n S.1 S.2.1 dX0_of_0 rfl (lv_at hl 1 rfl) ?_
  refine z_if_lt (tgt := 22) S dX0_of_1 (by decide) (by omega) (fun c_1 => ?_) (fun c_1 => ?_)
  · skip
    refine z_ldc (n := 1000000) S q_X0_of_2 (by decide +kernel) dX0_of_22 ?_
    exact hQ (1000000) (by omega) _ _ dX0_of_24
  · skip
    refine lv_iload_n S.1 S.2.1 dX0_of_4 rfl (lv_at hl 1 rfl) ?_
    refine lv_aload_n S.1 S.2.1 dX0_of_5 rfl (lv_at hl 0 rfl) ?_
    refine z_get S hK hP 0 rfl rfl 0 (by decide) i_X0_of_0 q_X0_of_1 rfl dX0_of_6 ?_
    refine z_alen S hK hP 1 rfl dX0_of_9 ?_
    refine z_icmp_ge (tgt := 22) S dX0_of_10 (by decide) (by omega) (fun c_10 => ?_) (fun c_10 => ?_)
    · skip
      refine z_ldc (n := 1000000) S q_X0_of_2 (by decide +kernel) dX0_of_22 ?_
      exact hQ (1000000) (by omega) _ _ dX0_of_24
    · skip
      refine lv_aload_n S.1 S.2.1 dX0_of_13 rfl (lv_at hl 0 rfl) ?_
      refine z_get S hK hP 0 rfl rfl 0 (by decide) i_X0_of_0 q_X0_of_1 rfl dX0_of_14 ?_
      refine lv_iload_n S.1 S.2.1 dX0_of_17 rfl (lv_at hl 1 rfl) ?_
      refine z_iald S hK hP 1 rfl (by omega) dX0_of_18 ?_
      refine z_goto (tgt := 24) S dX0_of_19 (by decide) ?_
      exact hQ (fw (q)) (by omega) _ _ dX0_of_24

set_option maxHeartbeats 1000000 in
set_option maxRecDepth 20000 in
theorem c_X0_within (l : Launch) (E : zE) (h : Nat) (a0 : Nat) (fw : Int → Int) (q : Int) (w : Int) (cs : Int → Prop) (hq : -2147483648 ≤ q ∧ q ≤ 999) (hw : 0 ≤ w ∧ w ≤ 9) (hT : zTab cs fw 999 1000000) : zRi l E yX0_within wsX0_within (zr 2 0 0) [.ref h, .int (jI (q)), .int (jI (w))] (fun H => zP E ([(h, .inr (0, [.ref a0])), (a0, eI E 1000 fw)]) H) (fun r => (r = 1 ∧ (zIn cs w q)) ∨ (r = 0 ∧ ¬ (zIn cs w q))) := by
  refine zRz_of (own := RX0) (cc := cX0_within) (maxL := 3) (by decide) rfl (Nat.le_of_ble_eq_true rfl) rfl ?_
  intro p e s m args below meth c Q S hK hP hQ ls hl
  have hl : lv_has ls 3 [(0, .ref h), (1, .int (jI (q))), (2, .int (jI (w)))] := hl
  refine lv_aload_n S.1 S.2.1 dX0_within_0 rfl (lv_at hl 0 rfl) ?_
  refine lv_iload_n S.1 S.2.1 dX0_within_1 rfl (lv_at hl 1 rfl) ?_
  refine z_ri (z_rV S hK (c_X0_of l E h a0 fw q (by omega)) gX0_within_X0_of rfl hv_X0_of ⟨Nat.le_of_ble_eq_true rfl, Nat.le_of_ble_eq_true rfl⟩ (va_recv hK hP (ci := 0) (q0 := 0) rfl rfl) hP hl.1 rfl (Nat.le_of_ble_eq_true rfl) ⟨by decide, by decide⟩ rfl dX0_within_2) (fun r_2 h_2 => ?_)
  have hfr : r_2 = 1000000 ∨ (0 ≤ r_2 ∧ r_2 ≤ 999) := by
    rcases h_2 with ⟨q1, q2⟩ | ⟨q1, q2⟩
    · have := zTab_rng hT q1.1 q1.2; omega
    · omega
  have hI : r_2 ≤ w ↔ zIn cs w q := by
    rcases h_2 with ⟨q1, q2⟩ | ⟨q1, q2⟩
    · rw [q2]; exact zTab_le hT q1.1 q1.2 (by omega)
    · exact ⟨fun z => by omega, fun z => absurd z (zIn_neg (by omega))⟩
  refine lv_iload_n S.1 S.2.1 dX0_within_5 rfl (lv_at hl 2 rfl) ?_
  refine z_icmp_gt (tgt := 13) S dX0_within_6 (by decide) (by omega) (fun c_6 => ?_) (fun c_6 => ?_)
  · skip
    refine z_iconst S dX0_within_13 ?_
    exact hQ (0) (by omega) (by first | exact Or.inl ⟨rfl, hI.mp (by omega)⟩ | exact Or.inr ⟨rfl, fun z => absurd (hI.mpr z) (by omega)⟩) _ _ dX0_within_14
  · skip
    refine z_iconst S dX0_within_9 ?_
    refine z_goto (tgt := 14) S dX0_within_10 (by decide) ?_
    exact hQ (1) (by omega) (by first | exact Or.inl ⟨rfl, hI.mp (by omega)⟩ | exact Or.inr ⟨rfl, fun z => absurd (hI.mpr z) (by omega)⟩) _ _ dX0_within_14

set_option maxHeartbeats 1000000 in
set_option maxRecDepth 20000 in
theorem c_X0_withinByOne (l : Launch) (E : zE) (h : Nat) (a0 : Nat) (fw : Int → Int) (num : Int) (q : Int) (w : Int) (cs : Int → Prop) (hnum : 1 ≤ num ∧ num ≤ 99) (hq : 0 ≤ q ∧ q ≤ 999) (hw : 0 ≤ w ∧ w ≤ 9) (hT : zTab cs fw 999 1000000) : zRi l E yX0_withinByOne wsX0_withinByOne (zr 3 0 0) [.ref h, .int (jI (num)), .int (jI (q)), .int (jI (w))] (fun H => zP E ([(h, .inr (0, [.ref a0])), (a0, eI E 1000 fw)]) H) (fun r => (r = 1 ∧ (zIn (zPlus cs num) w q)) ∨ (r = 0 ∧ ¬ (zIn (zPlus cs num) w q))) := by
  refine zRz_of (own := RX0) (cc := cX0_withinByOne) (maxL := 5) (by decide) rfl (Nat.le_of_ble_eq_true rfl) rfl ?_
  intro p e s m args below meth c Q S hK hP hQ ls hl
  have hl : lv_has ls 5 [(0, .ref h), (1, .int (jI (num))), (2, .int (jI (q))), (3, .int (jI (w)))] := hl
  refine z_iconst S dX0_withinByOne_0 ?_
  refine lv_istore (lv' := [(4, .int (jI (0))), (0, .ref h), (1, .int (jI (num))), (2, .int (jI (q))), (3, .int (jI (w)))]) S.1 S.2.1 dX0_withinByOne_1 hl (by decide) rfl (fun ls hl => ?_)
  suffices HL_1 : ∀ (n_2 : Nat) (t : Int), (w + 1 - t).toNat < n_2 → (0 ≤ t ∧ t ≤ w + 1) → (∀ y : Int, 0 ≤ y → y < t → ¬ zIn cs (w - y) (q - y * num)) → ∀ (ls : Array Slot), lv_has ls 5 [(4, .int (jI (t))), (0, .ref h), (1, .int (jI (num))), (2, .int (jI (q))), (3, .int (jI (w)))] → W p l e (zr 3 0 0) s m args below meth c s.heap [] 0 0 Q (F0 m 3 ls []) from
    HL_1 _ 0 (Nat.lt_succ_self _) (by omega) (zall_0) ls (lv_sub hl [0, 1, 2, 3, 4] rfl)
  intro n_2
  induction n_2 with
  | zero => intro t hm ht hno; exact absurd hm (Nat.not_lt_zero _)
  | succ n_2 ih_3 =>
    intro t hm ht hno ls hl
    refine lv_iload S.1 S.2.1 dX0_withinByOne_3 (lv_at hl 0 rfl) ?_
    refine lv_iload_n S.1 S.2.1 dX0_withinByOne_5 rfl (lv_at hl 4 rfl) ?_
    refine z_icmp_gt (tgt := 34) S dX0_withinByOne_6 (by decide) (by omega) (fun c_6 => ?_) (fun c_6 => ?_)
    · skip
      refine z_iconst S dX0_withinByOne_34 ?_
      exact hQ (0) (by omega) (Or.inr ⟨rfl, fun z => (zIn_times hnum).mp z |>.elim (fun y hy => hno y hy.1.1 (by omega) hy.2)⟩) _ _ dX0_withinByOne_35
    · skip
      refine lv_aload_n S.1 S.2.1 dX0_withinByOne_9 rfl (lv_at hl 1 rfl) ?_
      refine lv_iload_n S.1 S.2.1 dX0_withinByOne_10 rfl (lv_at hl 3 rfl) ?_
      refine lv_iload S.1 S.2.1 dX0_withinByOne_11 (lv_at hl 0 rfl) ?_
      refine lv_iload_n S.1 S.2.1 dX0_withinByOne_13 rfl (lv_at hl 2 rfl) ?_
      have hp1 := Int.mul_nonneg (show 0 ≤ t by omega) (show 0 ≤ num by omega)
      have hp2 := Int.mul_le_mul (show t ≤ 9 by omega) (show num ≤ 99 by omega) (by omega) (by omega)
      refine z_imul S dX0_withinByOne_14 ?_
      refine z_isub S dX0_withinByOne_15 ?_
      refine lv_iload_n S.1 S.2.1 dX0_withinByOne_16 rfl (lv_at hl 4 rfl) ?_
      refine lv_iload S.1 S.2.1 dX0_withinByOne_17 (lv_at hl 0 rfl) ?_
      refine z_isub S dX0_withinByOne_19 ?_
      refine z_ri (z_rV S hK (c_X0_within l E h a0 fw (q - (t * num)) (w - t) cs (by omega) (by omega) (hT)) gX0_withinByOne_X0_within rfl hv_X0_within ⟨Nat.le_of_ble_eq_true rfl, Nat.le_of_ble_eq_true rfl⟩ (va_recv hK hP (ci := 0) (q0 := 0) rfl rfl) hP hl.1 rfl (Nat.le_of_ble_eq_true rfl) ⟨by decide, by decide⟩ rfl dX0_withinByOne_20) (fun r_20 h_20 => ?_)
      refine z_if_eq (tgt := 28) S dX0_withinByOne_23 (by decide) (by omega) (fun c_23 => ?_) (fun c_23 => ?_)
      · skip
        refine z_iinc (lv' := [(4, .int (jI (t + 1))), (0, .ref h), (1, .int (jI (num))), (2, .int (jI (q))), (3, .int (jI (w)))]) S hl (k := 0) rfl (by decide) rfl dX0_withinByOne_28 (fun ls hl => ?_)
        refine z_goto (tgt := 3) S dX0_withinByOne_31 (by decide) ?_
        exact ih_3 (t + 1) (by omega) (by omega) (zall_step hno (zB_f h_20 (by omega))) ls (lv_sub hl [0, 1, 2, 3, 4] rfl)
      · skip
        refine z_iconst S dX0_withinByOne_26 ?_
        exact hQ (1) (by omega) (Or.inl ⟨rfl, (zIn_times hnum).mpr ⟨t, by omega, zB_t h_20 (by omega)⟩⟩) _ _ dX0_withinByOne_27

set_option maxHeartbeats 1000000 in
set_option maxRecDepth 20000 in
theorem c_X0_isReached_0 (l : Launch) (E : zE) (h : Nat) (a0 : Nat) (b0 : Nat) (fw : Int → Int) (L : Nat) (mo : Int → Int) (n : Int) (q : Int) (w : Int) (cs : Int → Prop) (hn : n ≤ 0 ∧ -5 ≤ n) (hL : n ≤ L ∧ L ≤ 3) (hq : -2147483648 ≤ q ∧ q ≤ 999) (hw : 0 ≤ w ∧ w ≤ 9) (hmo : (∀ i, 0 ≤ i → i < n → 1 ≤ mo i ∧ mo i ≤ 99)) (hT : zTab cs fw 999 1000000) : zRi l E yX0_isReached wsX0_isReached (zr 3 0 0) [.ref h, .ref b0, .int (jI (n)), .int (jI (q)), .int (jI (w))] (fun H => zP E ([(h, .inr (0, [.ref a0])), (a0, eI E 1000 fw), (b0, eI E L mo)]) H) (fun r => (r = 1 ∧ (zIn (zMore cs mo n) w q)) ∨ (r = 0 ∧ ¬ (zIn (zMore cs mo n) w q))) := by
  refine zRz_of (own := RX0) (cc := cX0_isReached) (maxL := 6) (by decide) rfl (Nat.le_of_ble_eq_true rfl) rfl ?_
  intro p e s m args below meth c Q S hK hP hQ ls hl
  have hl : lv_has ls 6 [(0, .ref h), (1, .ref b0), (2, .int (jI (n))), (3, .int (jI (q))), (4, .int (jI (w)))] := hl
  refine lv_iload_n S.1 S.2.1 dX0_isReached_0 rfl (lv_at hl 2 rfl) ?_
  refine z_if_le (tgt := 14) S dX0_isReached_1 (by decide) (by omega) (fun c_1 => ?_) (fun c_1 => ?_)
  · skip
    refine lv_aload_n S.1 S.2.1 dX0_isReached_14 rfl (lv_at hl 0 rfl) ?_
    refine lv_iload_n S.1 S.2.1 dX0_isReached_15 rfl (lv_at hl 3 rfl) ?_
    refine lv_iload S.1 S.2.1 dX0_isReached_16 (lv_at hl 4 rfl) ?_
    refine z_ri (z_rV S hK (c_X0_within l E h a0 fw q w cs (by omega) (by omega) (hT)) gX0_isReached_X0_within rfl hv_X0_within ⟨Nat.le_of_ble_eq_true rfl, Nat.le_of_ble_eq_true rfl⟩ (va_recv hK hP (ci := 0) (q0 := 0) rfl rfl) (hP.sub [0, 1] rfl) hl.1 rfl (Nat.le_of_ble_eq_true rfl) ⟨by decide, by decide⟩ rfl dX0_isReached_18) (fun r_18 h_18 => ?_)
    exact hQ (r_18) (by omega) (Or.elim h_18 (fun z => Or.inl ⟨z.1, (zIn_cong (fun a _ _ => zMore_0 (by omega) a)).mpr z.2⟩) (fun z => Or.inr ⟨z.1, fun y => z.2 ((zIn_cong (fun a _ _ => zMore_0 (by omega) a)).mp y)⟩)) _ _ dX0_isReached_21
  · omega

set_option maxHeartbeats 1000000 in
set_option maxRecDepth 20000 in
theorem c_X0_isReached_1 (l : Launch) (E : zE) (h : Nat) (a0 : Nat) (b0 : Nat) (fw : Int → Int) (L : Nat) (mo : Int → Int) (n : Int) (q : Int) (w : Int) (cs : Int → Prop) (hn : n = 1) (hL : n ≤ L ∧ L ≤ 3) (hq : -2147483648 ≤ q ∧ q ≤ 999) (hw : 0 ≤ w ∧ w ≤ 9) (hmo : (∀ i, 0 ≤ i → i < n → 1 ≤ mo i ∧ mo i ≤ 99)) (hT : zTab cs fw 999 1000000) : zRi l E yX0_isReached wsX0_isReached (zr 4 0 0) [.ref h, .ref b0, .int (jI (n)), .int (jI (q)), .int (jI (w))] (fun H => zP E ([(h, .inr (0, [.ref a0])), (a0, eI E 1000 fw), (b0, eI E L mo)]) H) (fun r => (r = 1 ∧ (zIn (zMore cs mo n) w q)) ∨ (r = 0 ∧ ¬ (zIn (zMore cs mo n) w q))) := by
  refine zRz_of (own := RX0) (cc := cX0_isReached) (maxL := 6) (by decide) rfl (Nat.le_of_ble_eq_true rfl) rfl ?_
  intro p e s m args below meth c Q S hK hP hQ ls hl
  have hl : lv_has ls 6 [(0, .ref h), (1, .ref b0), (2, .int (jI (n))), (3, .int (jI (q))), (4, .int (jI (w)))] := hl
  refine lv_iload_n S.1 S.2.1 dX0_isReached_0 rfl (lv_at hl 2 rfl) ?_
  refine z_if_le (tgt := 14) S dX0_isReached_1 (by decide) (by omega) (fun c_1 => ?_) (fun c_1 => ?_)
  · skip
    refine lv_aload_n S.1 S.2.1 dX0_isReached_14 rfl (lv_at hl 0 rfl) ?_
    refine lv_iload_n S.1 S.2.1 dX0_isReached_15 rfl (lv_at hl 3 rfl) ?_
    refine lv_iload S.1 S.2.1 dX0_isReached_16 (lv_at hl 4 rfl) ?_
    refine z_ri (z_rV S hK (c_X0_within l E h a0 fw q w cs (by omega) (by omega) (hT)) gX0_isReached_X0_within rfl hv_X0_within ⟨Nat.le_of_ble_eq_true rfl, Nat.le_of_ble_eq_true rfl⟩ (va_recv hK hP (ci := 0) (q0 := 0) rfl rfl) (hP.sub [0, 1] rfl) hl.1 rfl (Nat.le_of_ble_eq_true rfl) ⟨by decide, by decide⟩ rfl dX0_isReached_18) (fun r_18 h_18 => ?_)
    exact hQ (r_18) (by omega) (Or.elim h_18 (fun z => absurd z.2 (zIn_neg (by omega))) (fun z => Or.inr ⟨z.1, zIn_neg (by omega)⟩)) _ _ dX0_isReached_21
  · skip
    refine lv_iload_n S.1 S.2.1 dX0_isReached_4 rfl (lv_at hl 2 rfl) ?_
    refine lv_aload_n S.1 S.2.1 dX0_isReached_5 rfl (lv_at hl 1 rfl) ?_
    refine z_alen S hK hP 2 rfl dX0_isReached_6 ?_
    refine z_icmp_gt (tgt := 14) S dX0_isReached_7 (by decide) (by omega) (fun c_7 => ?_) (fun c_7 => ?_)
    · omega
    · skip
      refine lv_iload_n S.1 S.2.1 dX0_isReached_10 rfl (lv_at hl 3 rfl) ?_
      refine z_if_ge (tgt := 22) S dX0_isReached_11 (by decide) (by omega) (fun c_11 => ?_) (fun c_11 => ?_)
      · skip
        refine z_iconst S dX0_isReached_22 ?_
        refine lv_istore (lv' := [(5, .int (jI (0))), (0, .ref h), (1, .ref b0), (2, .int (jI (n))), (3, .int (jI (q))), (4, .int (jI (w)))]) S.1 S.2.1 dX0_isReached_23 hl (by decide) rfl (fun ls hl => ?_)
        suffices HL_1 : ∀ (n_2 : Nat) (t : Int), (w + 1 - t).toNat < n_2 → (0 ≤ t ∧ t ≤ w + 1) → (∀ y : Int, 0 ≤ y → y < t → ¬ zIn (zMore cs mo (n - 1)) (w - y) (q - y * mo (n - 1))) → ∀ (ls : Array Slot), lv_has ls 6 [(5, .int (jI (t))), (0, .ref h), (1, .ref b0), (2, .int (jI (n))), (3, .int (jI (q))), (4, .int (jI (w)))] → W p l e (zr 4 0 0) s m args below meth c s.heap [] 0 0 Q (F0 m 25 ls []) from
          HL_1 _ 0 (Nat.lt_succ_self _) (by omega) (zall_0) ls (lv_sub hl [0, 1, 2, 3, 4, 5] rfl)
        intro n_2
        induction n_2 with
        | zero => intro t hm ht hno; exact absurd hm (Nat.not_lt_zero _)
        | succ n_2 ih_3 =>
          intro t hm ht hno ls hl
          refine lv_iload S.1 S.2.1 dX0_isReached_25 (lv_at hl 0 rfl) ?_
          refine lv_iload S.1 S.2.1 dX0_isReached_27 (lv_at hl 5 rfl) ?_
          refine z_icmp_gt (tgt := 66) S dX0_isReached_29 (by decide) (by omega) (fun c_29 => ?_) (fun c_29 => ?_)
          · skip
            refine z_iconst S dX0_isReached_66 ?_
            exact hQ (0) (by omega) (Or.inr ⟨rfl, fun z => (zIn_times (hmo (n - 1) (by omega) (by omega))).mp ((zIn_cong (fun a _ _ => zMore_next (by omega) a)).mp z) |>.elim (fun y hy => hno y hy.1.1 (by omega) hy.2)⟩) _ _ dX0_isReached_67
          · skip
            refine lv_aload_n S.1 S.2.1 dX0_isReached_32 rfl (lv_at hl 1 rfl) ?_
            refine lv_aload_n S.1 S.2.1 dX0_isReached_33 rfl (lv_at hl 2 rfl) ?_
            refine lv_iload_n S.1 S.2.1 dX0_isReached_34 rfl (lv_at hl 3 rfl) ?_
            skip
            refine z_iconst S dX0_isReached_35 ?_
            refine z_isub S dX0_isReached_36 ?_
            refine lv_iload_n S.1 S.2.1 dX0_isReached_37 rfl (lv_at hl 4 rfl) ?_
            refine lv_iload S.1 S.2.1 dX0_isReached_38 (lv_at hl 0 rfl) ?_
            refine lv_aload_n S.1 S.2.1 dX0_isReached_40 rfl (lv_at hl 2 rfl) ?_
            refine lv_iload_n S.1 S.2.1 dX0_isReached_41 rfl (lv_at hl 3 rfl) ?_
            refine z_iconst S dX0_isReached_42 ?_
            refine z_isub S dX0_isReached_43 ?_
            refine z_iald S hK hP 2 rfl (by omega) dX0_isReached_44 ?_
            refine z_imul S dX0_isReached_45 ?_
            refine z_isub S dX0_isReached_46 ?_
            refine lv_iload S.1 S.2.1 dX0_isReached_47 (lv_at hl 5 rfl) ?_
            refine lv_iload S.1 S.2.1 dX0_isReached_49 (lv_at hl 0 rfl) ?_
            refine z_isub S dX0_isReached_51 ?_
            have hm1 := hmo (n - 1) (by omega) (by omega)
            have hp1 := Int.mul_nonneg (show 0 ≤ t by omega) (show 0 ≤ mo (n - 1) by omega)
            have hp2 := Int.mul_le_mul (show t ≤ 9 by omega) (show mo (n - 1) ≤ 99 by omega) (by omega) (by omega)
            refine z_ri (z_rS S hK (c_X0_isReached_0 l E h a0 b0 fw L mo (n - 1) (q - (t * (mo (n - 1)))) (w - t) cs (by omega) (by omega) (by omega) (by omega) (fun i q1 q2 => hmo i q1 (by omega)) hT) gX0_isReached_X0_isReached rfl hs_X0_isReached ⟨Nat.le_of_ble_eq_true rfl, Nat.le_of_ble_eq_true rfl⟩ hP hl.1 rfl (Nat.le_of_ble_eq_true rfl) ⟨by decide, by decide⟩ rfl dX0_isReached_52) (fun r_52 h_52 => ?_)
            refine z_if_eq (tgt := 60) S dX0_isReached_55 (by decide) (by omega) (fun c_55 => ?_) (fun c_55 => ?_)
            · skip
              refine z_iinc (lv' := [(5, .int (jI (t + 1))), (0, .ref h), (1, .ref b0), (2, .int (jI (n))), (3, .int (jI (q))), (4, .int (jI (w)))]) S hl (k := 0) rfl (by decide) rfl dX0_isReached_60 (fun ls hl => ?_)
              refine z_goto (tgt := 25) S dX0_isReached_63 (by decide) ?_
              exact ih_3 (t + 1) (by omega) (by omega) (zall_step hno (zB_f h_52 (by omega))) ls (lv_sub hl [0, 1, 2, 3, 4, 5] rfl)
            · skip
              refine z_iconst S dX0_isReached_58 ?_
              exact hQ (1) (by omega) (Or.inl ⟨rfl, (zIn_cong (fun a _ _ => zMore_next (by omega) a)).mpr ((zIn_times (hmo (n - 1) (by omega) (by omega))).mpr ⟨t, by omega, zB_t h_52 (by omega)⟩)⟩) _ _ dX0_isReached_59
      · skip
        refine lv_aload_n S.1 S.2.1 dX0_isReached_14 rfl (lv_at hl 0 rfl) ?_
        refine lv_iload_n S.1 S.2.1 dX0_isReached_15 rfl (lv_at hl 3 rfl) ?_
        refine lv_iload S.1 S.2.1 dX0_isReached_16 (lv_at hl 4 rfl) ?_
        refine z_ri (z_rV S hK (c_X0_within l E h a0 fw q w cs (by omega) (by omega) (hT)) gX0_isReached_X0_within rfl hv_X0_within ⟨Nat.le_of_ble_eq_true rfl, Nat.le_of_ble_eq_true rfl⟩ (va_recv hK hP (ci := 0) (q0 := 0) rfl rfl) (hP.sub [0, 1] rfl) hl.1 rfl (Nat.le_of_ble_eq_true rfl) ⟨by decide, by decide⟩ rfl dX0_isReached_18) (fun r_18 h_18 => ?_)
        exact hQ (r_18) (by omega) (Or.elim h_18 (fun z => absurd z.2 (zIn_neg (by omega))) (fun z => Or.inr ⟨z.1, zIn_neg (by omega)⟩)) _ _ dX0_isReached_21

set_option maxHeartbeats 1000000 in
set_option maxRecDepth 20000 in
theorem c_X0_isReached_2 (l : Launch) (E : zE) (h : Nat) (a0 : Nat) (b0 : Nat) (fw : Int → Int) (L : Nat) (mo : Int → Int) (n : Int) (q : Int) (w : Int) (cs : Int → Prop) (hn : n = 2) (hL : n ≤ L ∧ L ≤ 3) (hq : -2147483648 ≤ q ∧ q ≤ 999) (hw : 0 ≤ w ∧ w ≤ 9) (hmo : (∀ i, 0 ≤ i → i < n → 1 ≤ mo i ∧ mo i ≤ 99)) (hT : zTab cs fw 999 1000000) : zRi l E yX0_isReached wsX0_isReached (zr 5 0 0) [.ref h, .ref b0, .int (jI (n)), .int (jI (q)), .int (jI (w))] (fun H => zP E ([(h, .inr (0, [.ref a0])), (a0, eI E 1000 fw), (b0, eI E L mo)]) H) (fun r => (r = 1 ∧ (zIn (zMore cs mo n) w q)) ∨ (r = 0 ∧ ¬ (zIn (zMore cs mo n) w q))) := by
  refine zRz_of (own := RX0) (cc := cX0_isReached) (maxL := 6) (by decide) rfl (Nat.le_of_ble_eq_true rfl) rfl ?_
  intro p e s m args below meth c Q S hK hP hQ ls hl
  have hl : lv_has ls 6 [(0, .ref h), (1, .ref b0), (2, .int (jI (n))), (3, .int (jI (q))), (4, .int (jI (w)))] := hl
  refine lv_iload_n S.1 S.2.1 dX0_isReached_0 rfl (lv_at hl 2 rfl) ?_
  refine z_if_le (tgt := 14) S dX0_isReached_1 (by decide) (by omega) (fun c_1 => ?_) (fun c_1 => ?_)
  · skip
    refine lv_aload_n S.1 S.2.1 dX0_isReached_14 rfl (lv_at hl 0 rfl) ?_
    refine lv_iload_n S.1 S.2.1 dX0_isReached_15 rfl (lv_at hl 3 rfl) ?_
    refine lv_iload S.1 S.2.1 dX0_isReached_16 (lv_at hl 4 rfl) ?_
    refine z_ri (z_rV S hK (c_X0_within l E h a0 fw q w cs (by omega) (by omega) (hT)) gX0_isReached_X0_within rfl hv_X0_within ⟨Nat.le_of_ble_eq_true rfl, Nat.le_of_ble_eq_true rfl⟩ (va_recv hK hP (ci := 0) (q0 := 0) rfl rfl) (hP.sub [0, 1] rfl) hl.1 rfl (Nat.le_of_ble_eq_true rfl) ⟨by decide, by decide⟩ rfl dX0_isReached_18) (fun r_18 h_18 => ?_)
    exact hQ (r_18) (by omega) (Or.elim h_18 (fun z => absurd z.2 (zIn_neg (by omega))) (fun z => Or.inr ⟨z.1, zIn_neg (by omega)⟩)) _ _ dX0_isReached_21
  · skip
    refine lv_iload_n S.1 S.2.1 dX0_isReached_4 rfl (lv_at hl 2 rfl) ?_
    refine lv_aload_n S.1 S.2.1 dX0_isReached_5 rfl (lv_at hl 1 rfl) ?_
    refine z_alen S hK hP 2 rfl dX0_isReached_6 ?_
    refine z_icmp_gt (tgt := 14) S dX0_isReached_7 (by decide) (by omega) (fun c_7 => ?_) (fun c_7 => ?_)
    · omega
    · skip
      refine lv_iload_n S.1 S.2.1 dX0_isReached_10 rfl (lv_at hl 3 rfl) ?_
      refine z_if_ge (tgt := 22) S dX0_isReached_11 (by decide) (by omega) (fun c_11 => ?_) (fun c_11 => ?_)
      · skip
        refine z_iconst S dX0_isReached_22 ?_
        refine lv_istore (lv' := [(5, .int (jI (0))), (0, .ref h), (1, .ref b0), (2, .int (jI (n))), (3, .int (jI (q))), (4, .int (jI (w)))]) S.1 S.2.1 dX0_isReached_23 hl (by decide) rfl (fun ls hl => ?_)
        suffices HL_1 : ∀ (n_2 : Nat) (t : Int), (w + 1 - t).toNat < n_2 → (0 ≤ t ∧ t ≤ w + 1) → (∀ y : Int, 0 ≤ y → y < t → ¬ zIn (zMore cs mo (n - 1)) (w - y) (q - y * mo (n - 1))) → ∀ (ls : Array Slot), lv_has ls 6 [(5, .int (jI (t))), (0, .ref h), (1, .ref b0), (2, .int (jI (n))), (3, .int (jI (q))), (4, .int (jI (w)))] → W p l e (zr 5 0 0) s m args below meth c s.heap [] 0 0 Q (F0 m 25 ls []) from
          HL_1 _ 0 (Nat.lt_succ_self _) (by omega) (zall_0) ls (lv_sub hl [0, 1, 2, 3, 4, 5] rfl)
        intro n_2
        induction n_2 with
        | zero => intro t hm ht hno; exact absurd hm (Nat.not_lt_zero _)
        | succ n_2 ih_3 =>
          intro t hm ht hno ls hl
          refine lv_iload S.1 S.2.1 dX0_isReached_25 (lv_at hl 0 rfl) ?_
          refine lv_iload S.1 S.2.1 dX0_isReached_27 (lv_at hl 5 rfl) ?_
          refine z_icmp_gt (tgt := 66) S dX0_isReached_29 (by decide) (by omega) (fun c_29 => ?_) (fun c_29 => ?_)
          · skip
            refine z_iconst S dX0_isReached_66 ?_
            exact hQ (0) (by omega) (Or.inr ⟨rfl, fun z => (zIn_times (hmo (n - 1) (by omega) (by omega))).mp ((zIn_cong (fun a _ _ => zMore_next (by omega) a)).mp z) |>.elim (fun y hy => hno y hy.1.1 (by omega) hy.2)⟩) _ _ dX0_isReached_67
          · skip
            refine lv_aload_n S.1 S.2.1 dX0_isReached_32 rfl (lv_at hl 1 rfl) ?_
            refine lv_aload_n S.1 S.2.1 dX0_isReached_33 rfl (lv_at hl 2 rfl) ?_
            refine lv_iload_n S.1 S.2.1 dX0_isReached_34 rfl (lv_at hl 3 rfl) ?_
            skip
            refine z_iconst S dX0_isReached_35 ?_
            refine z_isub S dX0_isReached_36 ?_
            refine lv_iload_n S.1 S.2.1 dX0_isReached_37 rfl (lv_at hl 4 rfl) ?_
            refine lv_iload S.1 S.2.1 dX0_isReached_38 (lv_at hl 0 rfl) ?_
            refine lv_aload_n S.1 S.2.1 dX0_isReached_40 rfl (lv_at hl 2 rfl) ?_
            refine lv_iload_n S.1 S.2.1 dX0_isReached_41 rfl (lv_at hl 3 rfl) ?_
            refine z_iconst S dX0_isReached_42 ?_
            refine z_isub S dX0_isReached_43 ?_
            refine z_iald S hK hP 2 rfl (by omega) dX0_isReached_44 ?_
            refine z_imul S dX0_isReached_45 ?_
            refine z_isub S dX0_isReached_46 ?_
            refine lv_iload S.1 S.2.1 dX0_isReached_47 (lv_at hl 5 rfl) ?_
            refine lv_iload S.1 S.2.1 dX0_isReached_49 (lv_at hl 0 rfl) ?_
            refine z_isub S dX0_isReached_51 ?_
            have hm1 := hmo (n - 1) (by omega) (by omega)
            have hp1 := Int.mul_nonneg (show 0 ≤ t by omega) (show 0 ≤ mo (n - 1) by omega)
            have hp2 := Int.mul_le_mul (show t ≤ 9 by omega) (show mo (n - 1) ≤ 99 by omega) (by omega) (by omega)
            refine z_ri (z_rS S hK (c_X0_isReached_1 l E h a0 b0 fw L mo (n - 1) (q - (t * (mo (n - 1)))) (w - t) cs (by omega) (by omega) (by omega) (by omega) (fun i q1 q2 => hmo i q1 (by omega)) hT) gX0_isReached_X0_isReached rfl hs_X0_isReached ⟨Nat.le_of_ble_eq_true rfl, Nat.le_of_ble_eq_true rfl⟩ hP hl.1 rfl (Nat.le_of_ble_eq_true rfl) ⟨by decide, by decide⟩ rfl dX0_isReached_52) (fun r_52 h_52 => ?_)
            refine z_if_eq (tgt := 60) S dX0_isReached_55 (by decide) (by omega) (fun c_55 => ?_) (fun c_55 => ?_)
            · skip
              refine z_iinc (lv' := [(5, .int (jI (t + 1))), (0, .ref h), (1, .ref b0), (2, .int (jI (n))), (3, .int (jI (q))), (4, .int (jI (w)))]) S hl (k := 0) rfl (by decide) rfl dX0_isReached_60 (fun ls hl => ?_)
              refine z_goto (tgt := 25) S dX0_isReached_63 (by decide) ?_
              exact ih_3 (t + 1) (by omega) (by omega) (zall_step hno (zB_f h_52 (by omega))) ls (lv_sub hl [0, 1, 2, 3, 4, 5] rfl)
            · skip
              refine z_iconst S dX0_isReached_58 ?_
              exact hQ (1) (by omega) (Or.inl ⟨rfl, (zIn_cong (fun a _ _ => zMore_next (by omega) a)).mpr ((zIn_times (hmo (n - 1) (by omega) (by omega))).mpr ⟨t, by omega, zB_t h_52 (by omega)⟩)⟩) _ _ dX0_isReached_59
      · skip
        refine lv_aload_n S.1 S.2.1 dX0_isReached_14 rfl (lv_at hl 0 rfl) ?_
        refine lv_iload_n S.1 S.2.1 dX0_isReached_15 rfl (lv_at hl 3 rfl) ?_
        refine lv_iload S.1 S.2.1 dX0_isReached_16 (lv_at hl 4 rfl) ?_
        refine z_ri (z_rV S hK (c_X0_within l E h a0 fw q w cs (by omega) (by omega) (hT)) gX0_isReached_X0_within rfl hv_X0_within ⟨Nat.le_of_ble_eq_true rfl, Nat.le_of_ble_eq_true rfl⟩ (va_recv hK hP (ci := 0) (q0 := 0) rfl rfl) (hP.sub [0, 1] rfl) hl.1 rfl (Nat.le_of_ble_eq_true rfl) ⟨by decide, by decide⟩ rfl dX0_isReached_18) (fun r_18 h_18 => ?_)
        exact hQ (r_18) (by omega) (Or.elim h_18 (fun z => absurd z.2 (zIn_neg (by omega))) (fun z => Or.inr ⟨z.1, zIn_neg (by omega)⟩)) _ _ dX0_isReached_21

set_option maxHeartbeats 1000000 in
set_option maxRecDepth 20000 in
theorem c_X0_isReached_3 (l : Launch) (E : zE) (h : Nat) (a0 : Nat) (b0 : Nat) (fw : Int → Int) (L : Nat) (mo : Int → Int) (n : Int) (q : Int) (w : Int) (cs : Int → Prop) (hn : n = 3) (hL : n ≤ L ∧ L ≤ 3) (hq : -2147483648 ≤ q ∧ q ≤ 999) (hw : 0 ≤ w ∧ w ≤ 9) (hmo : (∀ i, 0 ≤ i → i < n → 1 ≤ mo i ∧ mo i ≤ 99)) (hT : zTab cs fw 999 1000000) : zRi l E yX0_isReached wsX0_isReached (zr 6 0 0) [.ref h, .ref b0, .int (jI (n)), .int (jI (q)), .int (jI (w))] (fun H => zP E ([(h, .inr (0, [.ref a0])), (a0, eI E 1000 fw), (b0, eI E L mo)]) H) (fun r => (r = 1 ∧ (zIn (zMore cs mo n) w q)) ∨ (r = 0 ∧ ¬ (zIn (zMore cs mo n) w q))) := by
  refine zRz_of (own := RX0) (cc := cX0_isReached) (maxL := 6) (by decide) rfl (Nat.le_of_ble_eq_true rfl) rfl ?_
  intro p e s m args below meth c Q S hK hP hQ ls hl
  have hl : lv_has ls 6 [(0, .ref h), (1, .ref b0), (2, .int (jI (n))), (3, .int (jI (q))), (4, .int (jI (w)))] := hl
  refine lv_iload_n S.1 S.2.1 dX0_isReached_0 rfl (lv_at hl 2 rfl) ?_
  refine z_if_le (tgt := 14) S dX0_isReached_1 (by decide) (by omega) (fun c_1 => ?_) (fun c_1 => ?_)
  · skip
    refine lv_aload_n S.1 S.2.1 dX0_isReached_14 rfl (lv_at hl 0 rfl) ?_
    refine lv_iload_n S.1 S.2.1 dX0_isReached_15 rfl (lv_at hl 3 rfl) ?_
    refine lv_iload S.1 S.2.1 dX0_isReached_16 (lv_at hl 4 rfl) ?_
    refine z_ri (z_rV S hK (c_X0_within l E h a0 fw q w cs (by omega) (by omega) (hT)) gX0_isReached_X0_within rfl hv_X0_within ⟨Nat.le_of_ble_eq_true rfl, Nat.le_of_ble_eq_true rfl⟩ (va_recv hK hP (ci := 0) (q0 := 0) rfl rfl) (hP.sub [0, 1] rfl) hl.1 rfl (Nat.le_of_ble_eq_true rfl) ⟨by decide, by decide⟩ rfl dX0_isReached_18) (fun r_18 h_18 => ?_)
    exact hQ (r_18) (by omega) (Or.elim h_18 (fun z => absurd z.2 (zIn_neg (by omega))) (fun z => Or.inr ⟨z.1, zIn_neg (by omega)⟩)) _ _ dX0_isReached_21
  · skip
    refine lv_iload_n S.1 S.2.1 dX0_isReached_4 rfl (lv_at hl 2 rfl) ?_
    refine lv_aload_n S.1 S.2.1 dX0_isReached_5 rfl (lv_at hl 1 rfl) ?_
    refine z_alen S hK hP 2 rfl dX0_isReached_6 ?_
    refine z_icmp_gt (tgt := 14) S dX0_isReached_7 (by decide) (by omega) (fun c_7 => ?_) (fun c_7 => ?_)
    · omega
    · skip
      refine lv_iload_n S.1 S.2.1 dX0_isReached_10 rfl (lv_at hl 3 rfl) ?_
      refine z_if_ge (tgt := 22) S dX0_isReached_11 (by decide) (by omega) (fun c_11 => ?_) (fun c_11 => ?_)
      · skip
        refine z_iconst S dX0_isReached_22 ?_
        refine lv_istore (lv' := [(5, .int (jI (0))), (0, .ref h), (1, .ref b0), (2, .int (jI (n))), (3, .int (jI (q))), (4, .int (jI (w)))]) S.1 S.2.1 dX0_isReached_23 hl (by decide) rfl (fun ls hl => ?_)
        suffices HL_1 : ∀ (n_2 : Nat) (t : Int), (w + 1 - t).toNat < n_2 → (0 ≤ t ∧ t ≤ w + 1) → (∀ y : Int, 0 ≤ y → y < t → ¬ zIn (zMore cs mo (n - 1)) (w - y) (q - y * mo (n - 1))) → ∀ (ls : Array Slot), lv_has ls 6 [(5, .int (jI (t))), (0, .ref h), (1, .ref b0), (2, .int (jI (n))), (3, .int (jI (q))), (4, .int (jI (w)))] → W p l e (zr 6 0 0) s m args below meth c s.heap [] 0 0 Q (F0 m 25 ls []) from
          HL_1 _ 0 (Nat.lt_succ_self _) (by omega) (zall_0) ls (lv_sub hl [0, 1, 2, 3, 4, 5] rfl)
        intro n_2
        induction n_2 with
        | zero => intro t hm ht hno; exact absurd hm (Nat.not_lt_zero _)
        | succ n_2 ih_3 =>
          intro t hm ht hno ls hl
          refine lv_iload S.1 S.2.1 dX0_isReached_25 (lv_at hl 0 rfl) ?_
          refine lv_iload S.1 S.2.1 dX0_isReached_27 (lv_at hl 5 rfl) ?_
          refine z_icmp_gt (tgt := 66) S dX0_isReached_29 (by decide) (by omega) (fun c_29 => ?_) (fun c_29 => ?_)
          · skip
            refine z_iconst S dX0_isReached_66 ?_
            exact hQ (0) (by omega) (Or.inr ⟨rfl, fun z => (zIn_times (hmo (n - 1) (by omega) (by omega))).mp ((zIn_cong (fun a _ _ => zMore_next (by omega) a)).mp z) |>.elim (fun y hy => hno y hy.1.1 (by omega) hy.2)⟩) _ _ dX0_isReached_67
          · skip
            refine lv_aload_n S.1 S.2.1 dX0_isReached_32 rfl (lv_at hl 1 rfl) ?_
            refine lv_aload_n S.1 S.2.1 dX0_isReached_33 rfl (lv_at hl 2 rfl) ?_
            refine lv_iload_n S.1 S.2.1 dX0_isReached_34 rfl (lv_at hl 3 rfl) ?_
            skip
            refine z_iconst S dX0_isReached_35 ?_
            refine z_isub S dX0_isReached_36 ?_
            refine lv_iload_n S.1 S.2.1 dX0_isReached_37 rfl (lv_at hl 4 rfl) ?_
            refine lv_iload S.1 S.2.1 dX0_isReached_38 (lv_at hl 0 rfl) ?_
            refine lv_aload_n S.1 S.2.1 dX0_isReached_40 rfl (lv_at hl 2 rfl) ?_
            refine lv_iload_n S.1 S.2.1 dX0_isReached_41 rfl (lv_at hl 3 rfl) ?_
            refine z_iconst S dX0_isReached_42 ?_
            refine z_isub S dX0_isReached_43 ?_
            refine z_iald S hK hP 2 rfl (by omega) dX0_isReached_44 ?_
            refine z_imul S dX0_isReached_45 ?_
            refine z_isub S dX0_isReached_46 ?_
            refine lv_iload S.1 S.2.1 dX0_isReached_47 (lv_at hl 5 rfl) ?_
            refine lv_iload S.1 S.2.1 dX0_isReached_49 (lv_at hl 0 rfl) ?_
            refine z_isub S dX0_isReached_51 ?_
            have hm1 := hmo (n - 1) (by omega) (by omega)
            have hp1 := Int.mul_nonneg (show 0 ≤ t by omega) (show 0 ≤ mo (n - 1) by omega)
            have hp2 := Int.mul_le_mul (show t ≤ 9 by omega) (show mo (n - 1) ≤ 99 by omega) (by omega) (by omega)
            refine z_ri (z_rS S hK (c_X0_isReached_2 l E h a0 b0 fw L mo (n - 1) (q - (t * (mo (n - 1)))) (w - t) cs (by omega) (by omega) (by omega) (by omega) (fun i q1 q2 => hmo i q1 (by omega)) hT) gX0_isReached_X0_isReached rfl hs_X0_isReached ⟨Nat.le_of_ble_eq_true rfl, Nat.le_of_ble_eq_true rfl⟩ hP hl.1 rfl (Nat.le_of_ble_eq_true rfl) ⟨by decide, by decide⟩ rfl dX0_isReached_52) (fun r_52 h_52 => ?_)
            refine z_if_eq (tgt := 60) S dX0_isReached_55 (by decide) (by omega) (fun c_55 => ?_) (fun c_55 => ?_)
            · skip
              refine z_iinc (lv' := [(5, .int (jI (t + 1))), (0, .ref h), (1, .ref b0), (2, .int (jI (n))), (3, .int (jI (q))), (4, .int (jI (w)))]) S hl (k := 0) rfl (by decide) rfl dX0_isReached_60 (fun ls hl => ?_)
              refine z_goto (tgt := 25) S dX0_isReached_63 (by decide) ?_
              exact ih_3 (t + 1) (by omega) (by omega) (zall_step hno (zB_f h_52 (by omega))) ls (lv_sub hl [0, 1, 2, 3, 4, 5] rfl)
            · skip
              refine z_iconst S dX0_isReached_58 ?_
              exact hQ (1) (by omega) (Or.inl ⟨rfl, (zIn_cong (fun a _ _ => zMore_next (by omega) a)).mpr ((zIn_times (hmo (n - 1) (by omega) (by omega))).mpr ⟨t, by omega, zB_t h_52 (by omega)⟩)⟩) _ _ dX0_isReached_59
      · skip
        refine lv_aload_n S.1 S.2.1 dX0_isReached_14 rfl (lv_at hl 0 rfl) ?_
        refine lv_iload_n S.1 S.2.1 dX0_isReached_15 rfl (lv_at hl 3 rfl) ?_
        refine lv_iload S.1 S.2.1 dX0_isReached_16 (lv_at hl 4 rfl) ?_
        refine z_ri (z_rV S hK (c_X0_within l E h a0 fw q w cs (by omega) (by omega) (hT)) gX0_isReached_X0_within rfl hv_X0_within ⟨Nat.le_of_ble_eq_true rfl, Nat.le_of_ble_eq_true rfl⟩ (va_recv hK hP (ci := 0) (q0 := 0) rfl rfl) (hP.sub [0, 1] rfl) hl.1 rfl (Nat.le_of_ble_eq_true rfl) ⟨by decide, by decide⟩ rfl dX0_isReached_18) (fun r_18 h_18 => ?_)
        exact hQ (r_18) (by omega) (Or.elim h_18 (fun z => absurd z.2 (zIn_neg (by omega))) (fun z => Or.inr ⟨z.1, zIn_neg (by omega)⟩)) _ _ dX0_isReached_21

set_option maxHeartbeats 1000000 in
set_option maxRecDepth 20000 in
theorem c_X0_withinBy (l : Launch) (E : zE) (h : Nat) (a0 : Nat) (b0 : Nat) (fw : Int → Int) (L : Nat) (mo : Int → Int) (n : Int) (q : Int) (w : Int) (cs : Int → Prop) (hn : 0 ≤ n ∧ n ≤ 3) (hL : n ≤ L ∧ L ≤ 3) (hq : -2147483648 ≤ q ∧ q ≤ 999) (hw : 0 ≤ w ∧ w ≤ 9) (hmo : (∀ i, 0 ≤ i → i < n → 1 ≤ mo i ∧ mo i ≤ 99)) (hT : zTab cs fw 999 1000000) : zRi l E yX0_withinBy wsX0_withinBy (zr 7 0 0) [.ref h, .ref b0, .int (jI (n)), .int (jI (q)), .int (jI (w))] (fun H => zP E ([(h, .inr (0, [.ref a0])), (a0, eI E 1000 fw), (b0, eI E L mo)]) H) (fun r => (r = 1 ∧ (zIn (zMore cs mo n) w q)) ∨ (r = 0 ∧ ¬ (zIn (zMore cs mo n) w q))) := by
  refine zRz_of (own := RX0) (cc := cX0_withinBy) (maxL := 5) (by decide) rfl (Nat.le_of_ble_eq_true rfl) rfl ?_
  intro p e s m args below meth c Q S hK hP hQ ls hl
  have hl : lv_has ls 5 [(0, .ref h), (1, .ref b0), (2, .int (jI (n))), (3, .int (jI (q))), (4, .int (jI (w)))] := hl
  refine lv_aload_n S.1 S.2.1 dX0_withinBy_0 rfl (lv_at hl 0 rfl) ?_
  refine lv_aload_n S.1 S.2.1 dX0_withinBy_1 rfl (lv_at hl 1 rfl) ?_
  refine lv_iload_n S.1 S.2.1 dX0_withinBy_2 rfl (lv_at hl 2 rfl) ?_
  refine lv_aload_n S.1 S.2.1 dX0_withinBy_3 rfl (lv_at hl 1 rfl) ?_
  refine z_alen S hK hP 2 rfl dX0_withinBy_4 ?_
  refine z_min S (by omega) q_X0_withinBy_1 q_X0_withinBy_2 q_X0_withinBy_3 q_X0_withinBy_4 hl.1 (by decide) (Nat.le_of_ble_eq_true rfl) (by decide) dX0_withinBy_5 ?_
  have hm_1 := zmin_is n (((L : Nat) : Int))
  refine lv_iload_n S.1 S.2.1 dX0_withinBy_8 rfl (lv_at hl 3 rfl) ?_
  refine lv_iload S.1 S.2.1 dX0_withinBy_9 (lv_at hl 4 rfl) ?_
  have hnz : zmin n ((L : Nat) : Int) = n := by have := zmin_is n ((L : Nat) : Int); omega
  rw [hnz]
  refine z_ri (post := fun r => (r = 1 ∧ (zIn (zMore cs mo n) w q)) ∨ (r = 0 ∧ ¬ (zIn (zMore cs mo n) w q))) (av := [.ref h, .ref b0, .int (jI n), .int (jI q), .int (jI w)].toArray) (by
    have hn4 : n = 0 ∨ n = 1 ∨ n = 2 ∨ n = 3 := (by omega)
    rcases hn4 with e | e | e | e
    · exact (z_rS S hK (c_X0_isReached_0 l E h a0 b0 fw L mo n q w cs (by omega) (by omega) (by omega) (by omega) hmo hT) gX0_withinBy_X0_isReached rfl hs_X0_isReached ⟨Nat.le_of_ble_eq_true rfl, Nat.le_of_ble_eq_true rfl⟩ hP hl.1 rfl (Nat.le_of_ble_eq_true rfl) ⟨by decide, by decide⟩ rfl dX0_withinBy_11)
    · exact (z_rS S hK (c_X0_isReached_1 l E h a0 b0 fw L mo n q w cs (by omega) (by omega) (by omega) (by omega) hmo hT) gX0_withinBy_X0_isReached rfl hs_X0_isReached ⟨Nat.le_of_ble_eq_true rfl, Nat.le_of_ble_eq_true rfl⟩ hP hl.1 rfl (Nat.le_of_ble_eq_true rfl) ⟨by decide, by decide⟩ rfl dX0_withinBy_11)
    · exact (z_rS S hK (c_X0_isReached_2 l E h a0 b0 fw L mo n q w cs (by omega) (by omega) (by omega) (by omega) hmo hT) gX0_withinBy_X0_isReached rfl hs_X0_isReached ⟨Nat.le_of_ble_eq_true rfl, Nat.le_of_ble_eq_true rfl⟩ hP hl.1 rfl (Nat.le_of_ble_eq_true rfl) ⟨by decide, by decide⟩ rfl dX0_withinBy_11)
    · exact (z_rS S hK (c_X0_isReached_3 l E h a0 b0 fw L mo n q w cs (by omega) (by omega) (by omega) (by omega) hmo hT) gX0_withinBy_X0_isReached rfl hs_X0_isReached ⟨Nat.le_of_ble_eq_true rfl, Nat.le_of_ble_eq_true rfl⟩ hP hl.1 rfl (Nat.le_of_ble_eq_true rfl) ⟨by decide, by decide⟩ rfl dX0_withinBy_11)) (fun r_11 h_11 => ?_)
  exact hQ (r_11) (by omega) (h_11) _ _ dX0_withinBy_14

set_option maxHeartbeats 1000000 in
set_option maxRecDepth 20000 in
theorem c_X0_clear (l : Launch) (E : zE) (h : Nat) (a0 : Nat) (fw : Int → Int) : zMv l E yX0_clear wsX0_clear (zr 1 0 0) [.ref h] ([(h, .inr (0, [.ref a0])), (a0, eI E 1000 fw)]) (fun _ => True) (fun (u : Int → Int) => zTab (fun _ => False) u 999 1000000) (fun (u : Int → Int) => [(h, .inr (0, [.ref a0])), (a0, eI E 1000 u)]) 0 0 := by
  refine zMv_of (own := RX0) (cc := cX0_clear) (maxL := 2) (by decide) rfl (Nat.le_of_ble_eq_true rfl) rfl ?_
  intro p e s m args below meth c Q A S hK hini hA hS hP hD hAe hG hQ ls hl
  have hl : lv_has ls 2 [(0, .ref h)] := hl
  refine z_iconst S dX0_clear_0 ?_
  refine lv_istore_n (lv' := [(1, .int (jI (0))), (0, .ref h)]) S.1 S.2.1 dX0_clear_1 rfl hl (by decide) rfl (fun ls hl => ?_)
  suffices HL_1 : ∀ (n_2 : Nat) (q : Int) (g : Int → Int), (1000 - q).toNat < n_2 → (0 ≤ q ∧ q ≤ 1000) → (∀ y, 0 ≤ y → y < q → (y = 0 ∧ g y = 0) ∨ (y ≠ 0 ∧ g y = 1000000)) → ∀ (H : Heap) (locs : List Loc), zP E ([(h, .inr (0, [.ref a0])), (a0, eI E 1000 g)]) H → va_D A ([(h, .inr (0, [.ref a0])), (a0, eI E 1000 g)]) → va_S A s.heap H locs → ∀ (ls : Array Slot), lv_has ls 2 [(1, .int (jI (q))), (0, .ref h)] → W p l e (zr 1 0 0) s m args below meth c H locs 0 0 Q (F0 m 2 ls []) from
    HL_1 _ 0 fw (Nat.lt_succ_self _) (by omega) (zall_0) _ _ hP hD hS ls (lv_sub hl [0, 1] rfl)
  intro n_2
  induction n_2 with
  | zero => intro q g hm hq hg; exact absurd hm (Nat.not_lt_zero _)
  | succ n_2 ih_3 =>
    intro q g hm hq hg H locs hP hD hS ls hl
    refine lv_iload_n S.1 S.2.1 dX0_clear_2 rfl (lv_at hl 0 rfl) ?_
    refine lv_aload_n S.1 S.2.1 dX0_clear_3 rfl (lv_at hl 1 rfl) ?_
    refine z_get S hK hP 0 rfl rfl 0 (by decide) i_X0_clear_0 q_X0_clear_1 rfl dX0_clear_4 ?_
    refine z_alen S hK hP 1 rfl dX0_clear_7 ?_
    refine z_icmp_ge (tgt := 33) S dX0_clear_8 (by decide) (by omega) (fun c_8 => ?_) (fun c_8 => ?_)
    · skip
      exact hQ (g) _ _ (zTab_none (fun y q1 q2 => hg y q1 (by omega))) hP hD hS _ _ dX0_clear_33
    · skip
      refine lv_aload_n S.1 S.2.1 dX0_clear_11 rfl (lv_at hl 1 rfl) ?_
      refine z_get S hK hP 0 rfl rfl 0 (by decide) i_X0_clear_0 q_X0_clear_1 rfl dX0_clear_12 ?_
      refine lv_iload_n S.1 S.2.1 dX0_clear_15 rfl (lv_at hl 0 rfl) ?_
      refine lv_iload_n S.1 S.2.1 dX0_clear_16 rfl (lv_at hl 0 rfl) ?_
      refine z_if_ne (tgt := 24) S dX0_clear_17 (by decide) (by omega) (fun c_17 => ?_) (fun c_17 => ?_)
      · skip
        refine z_ldc (n := 1000000) S q_X0_clear_2 (by decide +kernel) dX0_clear_24 ?_
        refine z_iast S hK hP hD hS 1 rfl (by omega) dX0_clear_26 (fun H locs hP hD hS => ?_)
        have hP : zP E ([(h, .inr (0, [.ref a0])), (a0, eI E 1000 (zu g q 1000000))]) H := hP
        have hD : va_D A ([(h, .inr (0, [.ref a0])), (a0, eI E 1000 (zu g q 1000000))]) := hD
        refine z_iinc (lv' := [(1, .int (jI (q + 1))), (0, .ref h)]) S hl (k := 0) rfl (by decide) rfl dX0_clear_27 (fun ls hl => ?_)
        refine z_goto (tgt := 2) S dX0_clear_30 (by decide) ?_
        exact ih_3 (q + 1) (zu g q 1000000) (by omega) (by omega) (zall_step (fun y q1 q2 => by rw [zu_n (by omega)]; exact hg y q1 q2) (by rw [zu_s]; omega)) _ _ hP hD hS ls (lv_sub hl [0, 1] rfl)
      · skip
        refine z_iconst S dX0_clear_20 ?_
        refine z_goto (tgt := 26) S dX0_clear_21 (by decide) ?_
        refine z_iast S hK hP hD hS 1 rfl (by omega) dX0_clear_26 (fun H locs hP hD hS => ?_)
        have hP : zP E ([(h, .inr (0, [.ref a0])), (a0, eI E 1000 (zu g q 0))]) H := hP
        have hD : va_D A ([(h, .inr (0, [.ref a0])), (a0, eI E 1000 (zu g q 0))]) := hD
        refine z_iinc (lv' := [(1, .int (jI (q + 1))), (0, .ref h)]) S hl (k := 0) rfl (by decide) rfl dX0_clear_27 (fun ls hl => ?_)
        refine z_goto (tgt := 2) S dX0_clear_30 (by decide) ?_
        exact ih_3 (q + 1) (zu g q 0) (by omega) (by omega) (zall_step (fun y q1 q2 => by rw [zu_n (by omega)]; exact hg y q1 q2) (by rw [zu_s]; omega)) _ _ hP hD hS ls (lv_sub hl [0, 1] rfl)

set_option maxHeartbeats 1000000 in
set_option maxRecDepth 20000 in
theorem c_X0_add (l : Launch) (E : zE) (h : Nat) (a0 : Nat) (fw : Int → Int) (num : Int) (cs : Int → Prop) (hnum : 1 ≤ num ∧ num ≤ 99) (hT : zTab cs fw 999 1000000) : zMv l E yX0_add wsX0_add (zr 2 0 0) [.ref h, .int (jI (num))] ([(h, .inr (0, [.ref a0])), (a0, eI E 1000 fw)]) (fun _ => True) (fun (u : Int → Int) => zTab (zPlus cs num) u 999 1000000) (fun (u : Int → Int) => [(h, .inr (0, [.ref a0])), (a0, eI E 1000 u)]) 0 0 := by
  refine zMv_of (own := RX0) (cc := cX0_add) (maxL := 3) (by decide) rfl (Nat.le_of_ble_eq_true rfl) rfl ?_
  intro p e s m args below meth c Q A S hK hini hA hS hP hD hAe hG hQ ls hl
  have hl : lv_has ls 3 [(0, .ref h), (1, .int (jI (num)))] := hl
  refine lv_iload_n S.1 S.2.1 dX0_add_0 rfl (lv_at hl 1 rfl) ?_
  refine z_iconst S dX0_add_1 ?_
  refine z_icmp_ge (tgt := 6) S dX0_add_2 (by decide) (by omega) (fun c_2 => ?_) (fun c_2 => ?_)
  · skip
    refine lv_iload_n S.1 S.2.1 dX0_add_6 rfl (lv_at hl 1 rfl) ?_
    refine lv_istore_n (lv' := [(2, .int (jI (num))), (0, .ref h), (1, .int (jI (num)))]) S.1 S.2.1 dX0_add_7 rfl hl (by decide) rfl (fun ls hl => ?_)
    suffices HL_1 : ∀ (n_2 : Nat) (q : Int) (g : Int → Int), (1000 - q).toNat < n_2 → (num ≤ q ∧ q ≤ 1000) → (zTab (zPlus cs num) g (q - 1) 1000000) → (∀ y, q ≤ y → y ≤ 999 → g y = fw y) → ∀ (H : Heap) (locs : List Loc), zP E ([(h, .inr (0, [.ref a0])), (a0, eI E 1000 g)]) H → va_D A ([(h, .inr (0, [.ref a0])), (a0, eI E 1000 g)]) → va_S A s.heap H locs → ∀ (ls : Array Slot), lv_has ls 3 [(2, .int (jI (q))), (0, .ref h), (1, .int (jI (num)))] → W p l e (zr 2 0 0) s m args below meth c H locs 0 0 Q (F0 m 8 ls []) from
      HL_1 _ num fw (Nat.lt_succ_self _) (by omega) (zTab_add0 hnum hT (by omega)) (fun y _ _ => rfl) _ _ hP hD hS ls (lv_sub hl [0, 1, 2] rfl)
    intro n_2
    induction n_2 with
    | zero => intro q g hm hq hF hsame; exact absurd hm (Nat.not_lt_zero _)
    | succ n_2 ih_3 =>
      intro q g hm hq hF hsame H locs hP hD hS ls hl
      refine lv_iload_n S.1 S.2.1 dX0_add_8 rfl (lv_at hl 0 rfl) ?_
      refine lv_aload_n S.1 S.2.1 dX0_add_9 rfl (lv_at hl 1 rfl) ?_
      refine z_get S hK hP 0 rfl rfl 0 (by decide) i_X0_add_0 q_X0_add_1 rfl dX0_add_10 ?_
      refine z_alen S hK hP 1 rfl dX0_add_13 ?_
      refine z_icmp_ge (tgt := 48) S dX0_add_14 (by decide) (by omega) (fun c_14 => ?_) (fun c_14 => ?_)
      · skip
        exact hQ (g) _ _ (by have e : q - 1 = 999 := (by omega); rw [e] at hF; exact hF) hP hD hS _ _ dX0_add_48
      · skip
        have hr1 := zTab_rng hT (q := q) (by omega) (by omega)
        have hr2 := zTab_rng hF (q := q - num) (by omega) (by omega)
        have hsq := hsame q (by omega) (by omega)
        refine lv_aload_n S.1 S.2.1 dX0_add_17 rfl (lv_at hl 1 rfl) ?_
        refine z_get S hK hP 0 rfl rfl 0 (by decide) i_X0_add_0 q_X0_add_1 rfl dX0_add_18 ?_
        refine lv_iload_n S.1 S.2.1 dX0_add_21 rfl (lv_at hl 0 rfl) ?_
        refine lv_aload_n S.1 S.2.1 dX0_add_22 rfl (lv_at hl 1 rfl) ?_
        refine z_get S hK hP 0 rfl rfl 0 (by decide) i_X0_add_0 q_X0_add_1 rfl dX0_add_23 ?_
        refine lv_iload_n S.1 S.2.1 dX0_add_26 rfl (lv_at hl 0 rfl) ?_
        refine z_iald S hK hP 1 rfl (by omega) dX0_add_27 ?_
        refine lv_aload_n S.1 S.2.1 dX0_add_28 rfl (lv_at hl 1 rfl) ?_
        refine z_get S hK hP 0 rfl rfl 0 (by decide) i_X0_add_0 q_X0_add_1 rfl dX0_add_29 ?_
        refine lv_iload_n S.1 S.2.1 dX0_add_32 rfl (lv_at hl 0 rfl) ?_
        refine lv_iload_n S.1 S.2.1 dX0_add_33 rfl (lv_at hl 2 rfl) ?_
        refine z_isub S dX0_add_34 ?_
        refine z_iald S hK hP 1 rfl (by omega) dX0_add_35 ?_
        refine z_iconst S dX0_add_36 ?_
        refine z_iadd S dX0_add_37 ?_
        refine z_min S (by omega) q_X0_add_2 q_X0_add_3 q_X0_add_4 q_X0_add_5 hl.1 (by decide) (Nat.le_of_ble_eq_true rfl) (by decide) dX0_add_38 ?_
        have hm_4 := zmin_is (g (q)) ((g (q - num)) + 1)
        refine z_iast S hK hP hD hS 1 rfl (by omega) dX0_add_41 (fun H locs hP hD hS => ?_)
        have hP : zP E ([(h, .inr (0, [.ref a0])), (a0, eI E 1000 (zu g q (zmin (g (q)) ((g (q - num)) + 1))))]) H := hP
        have hD : va_D A ([(h, .inr (0, [.ref a0])), (a0, eI E 1000 (zu g q (zmin (g (q)) ((g (q - num)) + 1))))]) := hD
        refine z_iinc (lv' := [(2, .int (jI (q + 1))), (0, .ref h), (1, .int (jI (num)))]) S hl (k := 0) rfl (by decide) rfl dX0_add_42 (fun ls hl => ?_)
        refine z_goto (tgt := 8) S dX0_add_45 (by decide) ?_
        exact ih_3 (q + 1) (zu g q (zmin (g (q)) ((g (q - num)) + 1))) (by omega) (by omega) (by rw [show q + 1 - 1 = q by omega]; exact zTab_add1 hnum hT hF (by omega) (by omega) (by omega)) (fun y q1 q2 => by rw [zu_n (by omega)]; exact hsame y (by omega) q2) _ _ hP hD hS ls (lv_sub hl [0, 1, 2] rfl)
  · omega
