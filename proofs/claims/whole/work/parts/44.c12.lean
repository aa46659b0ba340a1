def zlan (i : Int) : Int → Int := fun j => if 0 ≤ j ∧ j < i then -1 else 0
theorem zlan_0 : zlan 0 = fun _ => 0 := by
  funext j
  unfold zlan
  rw [if_neg (by omega)]
theorem zlan_next {i : Int} (h : 0 ≤ i) : zu (zlan i) i (-1) = zlan (i + 1) := by
  funext j
  by_cases e : j = i
  · rw [e, zu_s]; unfold zlan; rw [if_pos (by omega)]
  · rw [zu_n e]; unfold zlan
    by_cases q : 0 ≤ j ∧ j < i
    · rw [if_pos q, if_pos (by omega)]
    · rw [if_neg q, if_neg (by omega)]
theorem q_X0_init_1 : Cond.methodLink RX0 3 objectInit ∈ wsX0_init := List.mem_of_getElem? (i := 1) rfl
theorem q_X0_init_2 : Cond.instanceMethod objectInit ∈ wsX0_init := List.mem_of_getElem? (i := 2) rfl
theorem q_X0_init_3 : Cond.code objectInit ⟨#[0xb1]⟩ 1 none ∈ wsX0_init := List.mem_of_getElem? (i := 3) rfl
theorem q_X0_init_4 : Cond.arrayClass .int ∈ wsX0_init := List.mem_of_getElem? (i := 4) rfl
theorem i_X0_init_0 : ∀ w ∈ u_ws RX0 TX0 1, w ∈ wsX0_init := fun w h => List.mem_cons_of_mem _ (List.mem_append_right _ h)
theorem q_X0_init_5 : Cond.fieldLink RX0 9 "LivingNumbers$Fewest" "words" "[I" ∈ wsX0_init := List.mem_of_getElem? (i := 5) rfl
theorem q_X8_init_1 : Cond.methodLink RX8 1 objectInit ∈ wsX8_init := List.mem_of_getElem? (i := 1) rfl
theorem q_X8_init_2 : Cond.instanceMethod objectInit ∈ wsX8_init := List.mem_of_getElem? (i := 2) rfl
theorem q_X8_init_3 : Cond.code objectInit ⟨#[0xb1]⟩ 1 none ∈ wsX8_init := List.mem_of_getElem? (i := 3) rfl
theorem i_X8_init_8 : ∀ w ∈ u_ws RX8 TX8 1, w ∈ wsX8_init := fun w h => List.mem_cons_of_mem _ (List.mem_append_right _ h)
theorem q_X8_init_4 : Cond.fieldLink RX8 7 "LivingNumbers$Trace" "value" "I" ∈ wsX8_init := List.mem_of_getElem? (i := 4) rfl
theorem q_X5_init_1 : Cond.methodLink RX5 3 objectInit ∈ wsX5_init := List.mem_of_getElem? (i := 1) rfl
theorem q_X5_init_2 : Cond.instanceMethod objectInit ∈ wsX5_init := List.mem_of_getElem? (i := 2) rfl
theorem q_X5_init_3 : Cond.code objectInit ⟨#[0xb1]⟩ 1 none ∈ wsX5_init := List.mem_of_getElem? (i := 3) rfl
theorem q_X5_init_4 : Cond.arrayClass .int ∈ wsX5_init := List.mem_of_getElem? (i := 4) rfl
theorem i_X5_init_5 : ∀ w ∈ u_ws RX5 TX5 2, w ∈ wsX5_init := fun w h => List.mem_cons_of_mem _ (List.mem_append_right _ h)
theorem q_X5_init_5 : Cond.fieldLink RX5 9 "LivingNumbers$Recall" "chosen" "[I" ∈ wsX5_init := List.mem_of_getElem? (i := 5) rfl
theorem q_X5_init_6 : Cond.fieldLink RX5 15 "LivingNumbers$Recall" "numbers" "[I" ∈ wsX5_init := List.mem_of_getElem? (i := 6) rfl
theorem q_X6_init_1 : Cond.methodLink RX6 3 objectInit ∈ wsX6_init := List.mem_of_getElem? (i := 1) rfl
theorem q_X6_init_2 : Cond.instanceMethod objectInit ∈ wsX6_init := List.mem_of_getElem? (i := 2) rfl
theorem q_X6_init_3 : Cond.code objectInit ⟨#[0xb1]⟩ 1 none ∈ wsX6_init := List.mem_of_getElem? (i := 3) rfl
theorem q_X6_init_4 : Cond.arrayClass .int ∈ wsX6_init := List.mem_of_getElem? (i := 4) rfl
theorem i_X6_init_6 : ∀ w ∈ u_ws RX6 TX6 2, w ∈ wsX6_init := fun w h => List.mem_cons_of_mem _ (List.mem_append_right _ h)
theorem q_X6_init_5 : Cond.fieldLink RX6 9 "LivingNumbers$RollText" "codes" "[I" ∈ wsX6_init := List.mem_of_getElem? (i := 5) rfl
theorem q_X6_init_6 : Cond.fieldLink RX6 15 "LivingNumbers$RollText" "length" "I" ∈ wsX6_init := List.mem_of_getElem? (i := 6) rfl
theorem q_X3_init_1 : Cond.methodLink RX3 1 objectInit ∈ wsX3_init := List.mem_of_getElem? (i := 1) rfl
theorem q_X3_init_2 : Cond.instanceMethod objectInit ∈ wsX3_init := List.mem_of_getElem? (i := 2) rfl
theorem q_X3_init_3 : Cond.code objectInit ⟨#[0xb1]⟩ 1 none ∈ wsX3_init := List.mem_of_getElem? (i := 3) rfl
theorem i_X3_init_1 : ∀ w ∈ u_ws RX1 TX1 4, w ∈ wsX3_init := fun w h => List.mem_cons_of_mem _ (List.mem_append_left _ (List.mem_append_left _ (List.mem_append_right _ h)))
theorem q_X3_init_4 : Cond.fieldLink RX3 7 "LivingNumbers$Named" "village" "I" ∈ wsX3_init := List.mem_of_getElem? (i := 4) rfl
theorem q_X3_init_5 : Cond.fieldLink RX3 13 "LivingNumbers$Named" "number" "I" ∈ wsX3_init := List.mem_of_getElem? (i := 5) rfl
theorem q_X3_init_6 : Cond.fieldLink RX3 16 "LivingNumbers$Named" "from" "I" ∈ wsX3_init := List.mem_of_getElem? (i := 6) rfl
theorem q_X3_init_7 : Cond.fieldLink RX3 19 "LivingNumbers$Named" "till" "I" ∈ wsX3_init := List.mem_of_getElem? (i := 7) rfl
theorem i_X3_init_2 : ∀ w ∈ u_ws RX2 TX2 4, w ∈ wsX3_init := fun w h => List.mem_cons_of_mem _ (List.mem_append_left _ (List.mem_append_right _ h))
theorem i_X3_init_3 : ∀ w ∈ u_ws RX3 TX3 4, w ∈ wsX3_init := fun w h => List.mem_cons_of_mem _ (List.mem_append_right _ h)
theorem q_X2_init_1 : Cond.methodLink RX2 1 yX3_init ∈ wsX2_init := List.mem_of_getElem? (i := 1) rfl
theorem q_X2_init_3 : Cond.initialized RX3 ∈ wsX2_init := List.mem_of_getElem? (i := 3) rfl
theorem q_X2_init_2 : Cond.instanceMethod yX3_init ∈ wsX2_init := List.mem_of_getElem? (i := 2) rfl
theorem hs_X3_init : yX3_init.cls ≠ "java/lang/invoke/MethodHandle" ∧ yX3_init.cls ≠ "java/lang/invoke/VarHandle" ∧ (parseMethodDescriptor yX3_init.desc).map (fun d => d.parameters.length) = some 4 := by decide +kernel
theorem q_X1_init_1 : Cond.methodLink RX1 1 yX2_init ∈ wsX1_init := List.mem_of_getElem? (i := 1) rfl
theorem q_X1_init_3 : Cond.initialized RX2 ∈ wsX1_init := List.mem_of_getElem? (i := 3) rfl
theorem q_X1_init_2 : Cond.instanceMethod yX2_init ∈ wsX1_init := List.mem_of_getElem? (i := 2) rfl
theorem hs_X2_init : yX2_init.cls ≠ "java/lang/invoke/MethodHandle" ∧ yX2_init.cls ≠ "java/lang/invoke/VarHandle" ∧ (parseMethodDescriptor yX2_init.desc).map (fun d => d.parameters.length) = some 4 := by decide +kernel
theorem q_X7_init_1 : Cond.methodLink RX7 3 objectInit ∈ wsX7_init := List.mem_of_getElem? (i := 1) rfl
theorem q_X7_init_2 : Cond.instanceMethod objectInit ∈ wsX7_init := List.mem_of_getElem? (i := 2) rfl
theorem q_X7_init_3 : Cond.code objectInit ⟨#[0xb1]⟩ 1 none ∈ wsX7_init := List.mem_of_getElem? (i := 3) rfl
theorem q_X7_init_4 : Cond.arrayClass .int ∈ wsX7_init := List.mem_of_getElem? (i := 4) rfl
theorem i_X7_init_7 : ∀ w ∈ u_ws RX7 TX7 3, w ∈ wsX7_init := fun w h => List.mem_cons_of_mem _ (List.mem_append_right _ h)
theorem q_X7_init_5 : Cond.fieldLink RX7 9 "LivingNumbers$Sheets" "cells" "[I" ∈ wsX7_init := List.mem_of_getElem? (i := 5) rfl
theorem q_X7_init_6 : Cond.fieldLink RX7 15 "LivingNumbers$Sheets" "lanes" "[I" ∈ wsX7_init := List.mem_of_getElem? (i := 6) rfl
theorem q_X7_init_7 : Cond.fieldLink RX7 18 "LivingNumbers$Sheets" "sizes" "[I" ∈ wsX7_init := List.mem_of_getElem? (i := 7) rfl
set_option maxHeartbeats 1000000 in
set_option maxRecDepth 20000 in
theorem c_X0_init (l : Launch) (E : zE) (h : Nat) : zMv l E yX0_init wsX0_init (zr 1 1 1000) [.ref h] ([(h, .inr (0, [.null]))]) (fun _ => True) (fun (u : Nat) => True) (fun (u : Nat) => [(h, .inr (0, [.ref u])), (u, eI E 1000 ((fun _ => 0)))]) 1 1000 := by
  refine zMv_of (own := RX0) (cc := cX0_init) (maxL := 1) (by decide) rfl (Nat.le_of_ble_eq_true rfl) rfl ?_
  intro p e s m args below meth c Q A S hK hini hA hS hP hD hAe hG hQ ls hl
  have hl : lv_has ls 1 [(0, .ref h)] := hl
  refine lv_aload_n S.1 S.2.1 dX0_init_0 rfl (lv_at hl 0 rfl) ?_
  refine W.objInit S.1 S.2.1 S.2.2.2.1 (S.2.2.2.2 _ q_X0_init_1) (S.2.2.2.2 _ q_X0_init_2) (S.2.2.2.2 _ q_X0_init_3) rfl (by rw [S.2.2.1]; exact hl.1) rfl dX0_init_1 (Nat.le_of_ble_eq_true rfl) (Nat.le_of_ble_eq_true rfl) ?_
  refine W.eq (g2 := F0 m 4 ls []) rfl ?_
  refine lv_aload_n S.1 S.2.1 dX0_init_4 rfl (lv_at hl 0 rfl) ?_
  refine z_sipush S (by decide +kernel) dX0_init_5 ?_
  refine z_newI S hK hP hD hS hA q_X0_init_4 (N := 1000) (by omega) (by omega) (Nat.le_of_ble_eq_true rfl) (Nat.le_of_ble_eq_true rfl) dX0_init_8 (fun q8 H hP hD hS => ?_)
  have hP : zP E ([(h, .inr (0, [.null])), (q8, eI E 1000 ((fun _ => 0)))]) H := hP
  have hD : va_D A ([(h, .inr (0, [.null])), (q8, eI E 1000 ((fun _ => 0)))]) := hD
  refine z_putFr (ty := tyX0 0) S hK hP hD hS 0 rfl rfl 0 (by decide) i_X0_init_0 q_X0_init_5 tyX0 tyX0_ok nmX0 hini rfl rfl (by decide +kernel) rfl rfl (Nat.le_of_ble_eq_true rfl) dX0_init_10 (fun H locs hP hD hS => ?_)
  have hP : zP E ([(h, .inr (0, [.ref q8])), (q8, eI E 1000 ((fun _ => 0)))]) H := hP
  have hD : va_D A ([(h, .inr (0, [.ref q8])), (q8, eI E 1000 ((fun _ => 0)))]) := hD
  exact hQ (q8) _ _ (trivial) hP hD hS _ _ dX0_init_13

set_option maxHeartbeats 1000000 in
set_option maxRecDepth 20000 in
theorem c_X8_init (l : Launch) (E : zE) (h : Nat) : zMv l E yX8_init wsX8_init (zr 1 0 0) [.ref h] ([(h, .inr (8, [.int (jI 0)]))]) (fun _ => True) (fun (u : Unit) => True) (fun (u : Unit) => [(h, .inr (8, [.int (jI 0)]))]) 0 0 := by
  refine zMv_of (own := RX8) (cc := cX8_init) (maxL := 1) (by decide) rfl (Nat.le_of_ble_eq_true rfl) rfl ?_
  intro p e s m args below meth c Q A S hK hini hA hS hP hD hAe hG hQ ls hl
  have hl : lv_has ls 1 [(0, .ref h)] := hl
  refine lv_aload_n S.1 S.2.1 dX8_init_0 rfl (lv_at hl 0 rfl) ?_
  refine W.objInit S.1 S.2.1 S.2.2.2.1 (S.2.2.2.2 _ q_X8_init_1) (S.2.2.2.2 _ q_X8_init_2) (S.2.2.2.2 _ q_X8_init_3) rfl (by rw [S.2.2.1]; exact hl.1) rfl dX8_init_1 (Nat.le_of_ble_eq_true rfl) (Nat.le_of_ble_eq_true rfl) ?_
  refine W.eq (g2 := F0 m 4 ls []) rfl ?_
  refine lv_aload_n S.1 S.2.1 dX8_init_4 rfl (lv_at hl 0 rfl) ?_
  refine z_iconst S dX8_init_5 ?_
  refine z_puti S hK hP hD hS 0 rfl rfl 0 (by decide) i_X8_init_8 q_X8_init_4 tyX8 tyX8_ok nmX8 rfl (by decide +kernel) (Nat.le_of_ble_eq_true rfl) dX8_init_6 (fun H locs hP hD hS => ?_)
  have hP : zP E ([(h, .inr (8, [.int (jI 0)]))]) H := hP
  have hD : va_D A ([(h, .inr (8, [.int (jI 0)]))]) := hD
  exact hQ (()) _ _ (trivial) hP hD hS _ _ dX8_init_9

set_option maxHeartbeats 1000000 in
set_option maxRecDepth 20000 in
theorem c_X5_init (l : Launch) (E : zE) (h : Nat) : zMv l E yX5_init wsX5_init (zr 1 2 6) [.ref h] ([(h, .inr (5, [.null, .null]))]) (fun _ => True) (fun (u : Nat × Nat) => True) (fun (u : Nat × Nat) => [(h, .inr (5, [.ref u.1, .ref u.2])), (u.1, eI E 3 ((fun _ => 0))), (u.2, eI E 3 ((fun _ => 0)))]) 2 6 := by
  refine zMv_of (own := RX5) (cc := cX5_init) (maxL := 1) (by decide) rfl (Nat.le_of_ble_eq_true rfl) rfl ?_
  intro p e s m args below meth c Q A S hK hini hA hS hP hD hAe hG hQ ls hl
  have hl : lv_has ls 1 [(0, .ref h)] := hl
  refine lv_aload_n S.1 S.2.1 dX5_init_0 rfl (lv_at hl 0 rfl) ?_
  refine W.objInit S.1 S.2.1 S.2.2.2.1 (S.2.2.2.2 _ q_X5_init_1) (S.2.2.2.2 _ q_X5_init_2) (S.2.2.2.2 _ q_X5_init_3) rfl (by rw [S.2.2.1]; exact hl.1) rfl dX5_init_1 (Nat.le_of_ble_eq_true rfl) (Nat.le_of_ble_eq_true rfl) ?_
  refine W.eq (g2 := F0 m 4 ls []) rfl ?_
  refine lv_aload_n S.1 S.2.1 dX5_init_4 rfl (lv_at hl 0 rfl) ?_
  refine z_iconst S dX5_init_5 ?_
  refine z_newI S hK hP hD hS hA q_X5_init_4 (N := 3) (by omega) (by omega) (Nat.le_of_ble_eq_true rfl) (Nat.le_of_ble_eq_true rfl) dX5_init_6 (fun q6 H hP hD hS => ?_)
  have hP : zP E ([(h, .inr (5, [.null, .null])), (q6, eI E 3 ((fun _ => 0)))]) H := hP
  have hD : va_D A ([(h, .inr (5, [.null, .null])), (q6, eI E 3 ((fun _ => 0)))]) := hD
  refine z_putFr (ty := tyX5 0) S hK hP hD hS 0 rfl rfl 0 (by decide) i_X5_init_5 q_X5_init_5 tyX5 tyX5_ok nmX5 hini rfl rfl (by decide +kernel) rfl rfl (Nat.le_of_ble_eq_true rfl) dX5_init_8 (fun H locs hP hD hS => ?_)
  have hP : zP E ([(h, .inr (5, [.ref q6, .null])), (q6, eI E 3 ((fun _ => 0)))]) H := hP
  have hD : va_D A ([(h, .inr (5, [.ref q6, .null])), (q6, eI E 3 ((fun _ => 0)))]) := hD
  refine lv_aload_n S.1 S.2.1 dX5_init_11 rfl (lv_at hl 0 rfl) ?_
  refine z_iconst S dX5_init_12 ?_
  refine z_newI S hK hP hD hS hA q_X5_init_4 (N := 3) (by omega) (by omega) (Nat.le_of_ble_eq_true rfl) (Nat.le_of_ble_eq_true rfl) dX5_init_13 (fun q13 H hP hD hS => ?_)
  have hP : zP E ([(h, .inr (5, [.ref q6, .null])), (q6, eI E 3 ((fun _ => 0))), (q13, eI E 3 ((fun _ => 0)))]) H := hP
  have hD : va_D A ([(h, .inr (5, [.ref q6, .null])), (q6, eI E 3 ((fun _ => 0))), (q13, eI E 3 ((fun _ => 0)))]) := hD
  refine z_putFr (ty := tyX5 1) S hK hP hD hS 0 rfl rfl 1 (by decide) i_X5_init_5 q_X5_init_6 tyX5 tyX5_ok nmX5 hini rfl rfl (by decide +kernel) rfl rfl (Nat.le_of_ble_eq_true rfl) dX5_init_15 (fun H locs hP hD hS => ?_)
  have hP : zP E ([(h, .inr (5, [.ref q6, .ref q13])), (q6, eI E 3 ((fun _ => 0))), (q13, eI E 3 ((fun _ => 0)))]) H := hP
  have hD : va_D A ([(h, .inr (5, [.ref q6, .ref q13])), (q6, eI E 3 ((fun _ => 0))), (q13, eI E 3 ((fun _ => 0)))]) := hD
  exact hQ ((q6, q13)) _ _ (trivial) hP hD hS _ _ dX5_init_18

set_option maxHeartbeats 1000000 in
set_option maxRecDepth 20000 in
theorem c_X6_init (l : Launch) (E : zE) (h : Nat) : zMv l E yX6_init wsX6_init (zr 1 1 100) [.ref h] ([(h, .inr (6, [.null, .int (jI 0)]))]) (fun _ => True) (fun (u : Nat) => True) (fun (u : Nat) => [(h, .inr (6, [.ref u, .int (jI 0)])), (u, eI E 100 ((fun _ => 0)))]) 1 100 := by
  refine zMv_of (own := RX6) (cc := cX6_init) (maxL := 1) (by decide) rfl (Nat.le_of_ble_eq_true rfl) rfl ?_
  intro p e s m args below meth c Q A S hK hini hA hS hP hD hAe hG hQ ls hl
  have hl : lv_has ls 1 [(0, .ref h)] := hl
  refine lv_aload_n S.1 S.2.1 dX6_init_0 rfl (lv_at hl 0 rfl) ?_
  refine W.objInit S.1 S.2.1 S.2.2.2.1 (S.2.2.2.2 _ q_X6_init_1) (S.2.2.2.2 _ q_X6_init_2) (S.2.2.2.2 _ q_X6_init_3) rfl (by rw [S.2.2.1]; exact hl.1) rfl dX6_init_1 (Nat.le_of_ble_eq_true rfl) (Nat.le_of_ble_eq_true rfl) ?_
  refine W.eq (g2 := F0 m 4 ls []) rfl ?_
  refine lv_aload_n S.1 S.2.1 dX6_init_4 rfl (lv_at hl 0 rfl) ?_
  refine z_bipush S (by decide +kernel) dX6_init_5 ?_
  refine z_newI S hK hP hD hS hA q_X6_init_4 (N := 100) (by omega) (by omega) (Nat.le_of_ble_eq_true rfl) (Nat.le_of_ble_eq_true rfl) dX6_init_7 (fun q7 H hP hD hS => ?_)
  have hP : zP E ([(h, .inr (6, [.null, .int (jI 0)])), (q7, eI E 100 ((fun _ => 0)))]) H := hP
  have hD : va_D A ([(h, .inr (6, [.null, .int (jI 0)])), (q7, eI E 100 ((fun _ => 0)))]) := hD
  refine z_putFr (ty := tyX6 0) S hK hP hD hS 0 rfl rfl 0 (by decide) i_X6_init_6 q_X6_init_5 tyX6 tyX6_ok nmX6 hini rfl rfl (by decide +kernel) rfl rfl (Nat.le_of_ble_eq_true rfl) dX6_init_9 (fun H locs hP hD hS => ?_)
  have hP : zP E ([(h, .inr (6, [.ref q7, .int (jI 0)])), (q7, eI E 100 ((fun _ => 0)))]) H := hP
  have hD : va_D A ([(h, .inr (6, [.ref q7, .int (jI 0)])), (q7, eI E 100 ((fun _ => 0)))]) := hD
  refine lv_aload_n S.1 S.2.1 dX6_init_12 rfl (lv_at hl 0 rfl) ?_
  refine z_iconst S dX6_init_13 ?_
  refine z_puti S hK hP hD hS 0 rfl rfl 1 (by decide) i_X6_init_6 q_X6_init_6 tyX6 tyX6_ok nmX6 rfl (by decide +kernel) (Nat.le_of_ble_eq_true rfl) dX6_init_14 (fun H locs hP hD hS => ?_)
  have hP : zP E ([(h, .inr (6, [.ref q7, .int (jI 0)])), (q7, eI E 100 ((fun _ => 0)))]) H := hP
  have hD : va_D A ([(h, .inr (6, [.ref q7, .int (jI 0)])), (q7, eI E 100 ((fun _ => 0)))]) := hD
  exact hQ (q7) _ _ (trivial) hP hD hS _ _ dX6_init_17

set_option maxHeartbeats 1000000 in
set_option maxRecDepth 20000 in
theorem c_X3_init_1 (l : Launch) (E : zE) (h : Nat) (vl : Int) (nb : Int) (fr : Int) (tl : Int) : zMv l E yX3_init wsX3_init (zr 1 0 0) [.ref h, .int (jI (vl)), .int (jI (nb)), .int (jI (fr)), .int (jI (tl))] ([(h, .inr (1, [.int (jI 0), .int (jI 0), .int (jI 0), .int (jI 0)]))]) (fun _ => True) (fun (u : Unit) => True) (fun (u : Unit) => [(h, .inr (1, [.int (jI vl), .int (jI nb), .int (jI fr), .int (jI tl)]))]) 0 0 := by
  refine zMv_of (own := RX3) (cc := cX3_init) (maxL := 5) (by decide) rfl (Nat.le_of_ble_eq_true rfl) rfl ?_
  intro p e s m args below meth c Q A S hK hini hA hS hP hD hAe hG hQ ls hl
  have hl : lv_has ls 5 [(0, .ref h), (1, .int (jI (vl))), (2, .int (jI (nb))), (3, .int (jI (fr))), (4, .int (jI (tl)))] := hl
  refine lv_aload_n S.1 S.2.1 dX3_init_0 rfl (lv_at hl 0 rfl) ?_
  refine W.objInit S.1 S.2.1 S.2.2.2.1 (S.2.2.2.2 _ q_X3_init_1) (S.2.2.2.2 _ q_X3_init_2) (S.2.2.2.2 _ q_X3_init_3) rfl (by rw [S.2.2.1]; exact hl.1) rfl dX3_init_1 (Nat.le_of_ble_eq_true rfl) (Nat.le_of_ble_eq_true rfl) ?_
  refine W.eq (g2 := F0 m 4 ls []) rfl ?_
  refine lv_aload_n S.1 S.2.1 dX3_init_4 rfl (lv_at hl 0 rfl) ?_
  refine lv_iload_n S.1 S.2.1 dX3_init_5 rfl (lv_at hl 1 rfl) ?_
  refine z_putFi S hK hP hD hS 0 rfl rfl 0 (by decide) i_X3_init_1 q_X3_init_4 tyX1 tyX1_ok nmX1 hini rfl rfl (by decide +kernel) (Nat.le_of_ble_eq_true rfl) dX3_init_6 (fun H locs hP hD hS => ?_)
  have hP : zP E ([(h, .inr (1, [.int (jI vl), .int (jI 0), .int (jI 0), .int (jI 0)]))]) H := hP
  have hD : va_D A ([(h, .inr (1, [.int (jI vl), .int (jI 0), .int (jI 0), .int (jI 0)]))]) := hD
  refine lv_aload_n S.1 S.2.1 dX3_init_9 rfl (lv_at hl 0 rfl) ?_
  refine lv_iload_n S.1 S.2.1 dX3_init_10 rfl (lv_at hl 2 rfl) ?_
  refine z_putFi S hK hP hD hS 0 rfl rfl 1 (by decide) i_X3_init_1 q_X3_init_5 tyX1 tyX1_ok nmX1 hini rfl rfl (by decide +kernel) (Nat.le_of_ble_eq_true rfl) dX3_init_11 (fun H locs hP hD hS => ?_)
  have hP : zP E ([(h, .inr (1, [.int (jI vl), .int (jI nb), .int (jI 0), .int (jI 0)]))]) H := hP
  have hD : va_D A ([(h, .inr (1, [.int (jI vl), .int (jI nb), .int (jI 0), .int (jI 0)]))]) := hD
  refine lv_aload_n S.1 S.2.1 dX3_init_14 rfl (lv_at hl 0 rfl) ?_
  refine lv_iload_n S.1 S.2.1 dX3_init_15 rfl (lv_at hl 3 rfl) ?_
  refine z_putFi S hK hP hD hS 0 rfl rfl 2 (by decide) i_X3_init_1 q_X3_init_6 tyX1 tyX1_ok nmX1 hini rfl rfl (by decide +kernel) (Nat.le_of_ble_eq_true rfl) dX3_init_16 (fun H locs hP hD hS => ?_)
  have hP : zP E ([(h, .inr (1, [.int (jI vl), .int (jI nb), .int (jI fr), .int (jI 0)]))]) H := hP
  have hD : va_D A ([(h, .inr (1, [.int (jI vl), .int (jI nb), .int (jI fr), .int (jI 0)]))]) := hD
  refine lv_aload_n S.1 S.2.1 dX3_init_19 rfl (lv_at hl 0 rfl) ?_
  refine lv_iload S.1 S.2.1 dX3_init_20 (lv_at hl 4 rfl) ?_
  refine z_putFi S hK hP hD hS 0 rfl rfl 3 (by decide) i_X3_init_1 q_X3_init_7 tyX1 tyX1_ok nmX1 hini rfl rfl (by decide +kernel) (Nat.le_of_ble_eq_true rfl) dX3_init_22 (fun H locs hP hD hS => ?_)
  have hP : zP E ([(h, .inr (1, [.int (jI vl), .int (jI nb), .int (jI fr), .int (jI tl)]))]) H := hP
  have hD : va_D A ([(h, .inr (1, [.int (jI vl), .int (jI nb), .int (jI fr), .int (jI tl)]))]) := hD
  exact hQ (()) _ _ (trivial) hP hD hS _ _ dX3_init_25

set_option maxHeartbeats 1000000 in
set_option maxRecDepth 20000 in
theorem c_X3_init_2 (l : Launch) (E : zE) (h : Nat) (vl : Int) (nb : Int) (fr : Int) (tl : Int) : zMv l E yX3_init wsX3_init (zr 1 0 0) [.ref h, .int (jI (vl)), .int (jI (nb)), .int (jI (fr)), .int (jI (tl))] ([(h, .inr (2, [.int (jI 0), .int (jI 0), .int (jI 0), .int (jI 0)]))]) (fun _ => True) (fun (u : Unit) => True) (fun (u : Unit) => [(h, .inr (2, [.int (jI vl), .int (jI nb), .int (jI fr), .int (jI tl)]))]) 0 0 := by
  refine zMv_of (own := RX3) (cc := cX3_init) (maxL := 5) (by decide) rfl (Nat.le_of_ble_eq_true rfl) rfl ?_
  intro p e s m args below meth c Q A S hK hini hA hS hP hD hAe hG hQ ls hl
  have hl : lv_has ls 5 [(0, .ref h), (1, .int (jI (vl))), (2, .int (jI (nb))), (3, .int (jI (fr))), (4, .int (jI (tl)))] := hl
  refine lv_aload_n S.1 S.2.1 dX3_init_0 rfl (lv_at hl 0 rfl) ?_
  refine W.objInit S.1 S.2.1 S.2.2.2.1 (S.2.2.2.2 _ q_X3_init_1) (S.2.2.2.2 _ q_X3_init_2) (S.2.2.2.2 _ q_X3_init_3) rfl (by rw [S.2.2.1]; exact hl.1) rfl dX3_init_1 (Nat.le_of_ble_eq_true rfl) (Nat.le_of_ble_eq_true rfl) ?_
  refine W.eq (g2 := F0 m 4 ls []) rfl ?_
  refine lv_aload_n S.1 S.2.1 dX3_init_4 rfl (lv_at hl 0 rfl) ?_
  refine lv_iload_n S.1 S.2.1 dX3_init_5 rfl (lv_at hl 1 rfl) ?_
  refine z_putFi S hK hP hD hS 0 rfl rfl 0 (by decide) i_X3_init_2 q_X3_init_4 tyX2 tyX2_ok nmX2 hini rfl rfl (by decide +kernel) (Nat.le_of_ble_eq_true rfl) dX3_init_6 (fun H locs hP hD hS => ?_)
  have hP : zP E ([(h, .inr (2, [.int (jI vl), .int (jI 0), .int (jI 0), .int (jI 0)]))]) H := hP
  have hD : va_D A ([(h, .inr (2, [.int (jI vl), .int (jI 0), .int (jI 0), .int (jI 0)]))]) := hD
  refine lv_aload_n S.1 S.2.1 dX3_init_9 rfl (lv_at hl 0 rfl) ?_
  refine lv_iload_n S.1 S.2.1 dX3_init_10 rfl (lv_at hl 2 rfl) ?_
  refine z_putFi S hK hP hD hS 0 rfl rfl 1 (by decide) i_X3_init_2 q_X3_init_5 tyX2 tyX2_ok nmX2 hini rfl rfl (by decide +kernel) (Nat.le_of_ble_eq_true rfl) dX3_init_11 (fun H locs hP hD hS => ?_)
  have hP : zP E ([(h, .inr (2, [.int (jI vl), .int (jI nb), .int (jI 0), .int (jI 0)]))]) H := hP
  have hD : va_D A ([(h, .inr (2, [.int (jI vl), .int (jI nb), .int (jI 0), .int (jI 0)]))]) := hD
  refine lv_aload_n S.1 S.2.1 dX3_init_14 rfl (lv_at hl 0 rfl) ?_
  refine lv_iload_n S.1 S.2.1 dX3_init_15 rfl (lv_at hl 3 rfl) ?_
  refine z_putFi S hK hP hD hS 0 rfl rfl 2 (by decide) i_X3_init_2 q_X3_init_6 tyX2 tyX2_ok nmX2 hini rfl rfl (by decide +kernel) (Nat.le_of_ble_eq_true rfl) dX3_init_16 (fun H locs hP hD hS => ?_)
  have hP : zP E ([(h, .inr (2, [.int (jI vl), .int (jI nb), .int (jI fr), .int (jI 0)]))]) H := hP
  have hD : va_D A ([(h, .inr (2, [.int (jI vl), .int (jI nb), .int (jI fr), .int (jI 0)]))]) := hD
  refine lv_aload_n S.1 S.2.1 dX3_init_19 rfl (lv_at hl 0 rfl) ?_
  refine lv_iload S.1 S.2.1 dX3_init_20 (lv_at hl 4 rfl) ?_
  refine z_putFi S hK hP hD hS 0 rfl rfl 3 (by decide) i_X3_init_2 q_X3_init_7 tyX2 tyX2_ok nmX2 hini rfl rfl (by decide +kernel) (Nat.le_of_ble_eq_true rfl) dX3_init_22 (fun H locs hP hD hS => ?_)
  have hP : zP E ([(h, .inr (2, [.int (jI vl), .int (jI nb), .int (jI fr), .int (jI tl)]))]) H := hP
  have hD : va_D A ([(h, .inr (2, [.int (jI vl), .int (jI nb), .int (jI fr), .int (jI tl)]))]) := hD
  exact hQ (()) _ _ (trivial) hP hD hS _ _ dX3_init_25

set_option maxHeartbeats 1000000 in
set_option maxRecDepth 20000 in
theorem c_X3_init_3 (l : Launch) (E : zE) (h : Nat) (vl : Int) (nb : Int) (fr : Int) (tl : Int) : zMv l E yX3_init wsX3_init (zr 1 0 0) [.ref h, .int (jI (vl)), .int (jI (nb)), .int (jI (fr)), .int (jI (tl))] ([(h, .inr (3, [.int (jI 0), .int (jI 0), .int (jI 0), .int (jI 0)]))]) (fun _ => True) (fun (u : Unit) => True) (fun (u : Unit) => [(h, .inr (3, [.int (jI vl), .int (jI nb), .int (jI fr), .int (jI tl)]))]) 0 0 := by
  refine zMv_of (own := RX3) (cc := cX3_init) (maxL := 5) (by decide) rfl (Nat.le_of_ble_eq_true rfl) rfl ?_
  intro p e s m args below meth c Q A S hK hini hA hS hP hD hAe hG hQ ls hl
  have hl : lv_has ls 5 [(0, .ref h), (1, .int (jI (vl))), (2, .int (jI (nb))), (3, .int (jI (fr))), (4, .int (jI (tl)))] := hl
  refine lv_aload_n S.1 S.2.1 dX3_init_0 rfl (lv_at hl 0 rfl) ?_
  refine W.objInit S.1 S.2.1 S.2.2.2.1 (S.2.2.2.2 _ q_X3_init_1) (S.2.2.2.2 _ q_X3_init_2) (S.2.2.2.2 _ q_X3_init_3) rfl (by rw [S.2.2.1]; exact hl.1) rfl dX3_init_1 (Nat.le_of_ble_eq_true rfl) (Nat.le_of_ble_eq_true rfl) ?_
  refine W.eq (g2 := F0 m 4 ls []) rfl ?_
  refine lv_aload_n S.1 S.2.1 dX3_init_4 rfl (lv_at hl 0 rfl) ?_
  refine lv_iload_n S.1 S.2.1 dX3_init_5 rfl (lv_at hl 1 rfl) ?_
  refine z_putFi S hK hP hD hS 0 rfl rfl 0 (by decide) i_X3_init_3 q_X3_init_4 tyX3 tyX3_ok nmX3 hini rfl rfl (by decide +kernel) (Nat.le_of_ble_eq_true rfl) dX3_init_6 (fun H locs hP hD hS => ?_)
  have hP : zP E ([(h, .inr (3, [.int (jI vl), .int (jI 0), .int (jI 0), .int (jI 0)]))]) H := hP
  have hD : va_D A ([(h, .inr (3, [.int (jI vl), .int (jI 0), .int (jI 0), .int (jI 0)]))]) := hD
  refine lv_aload_n S.1 S.2.1 dX3_init_9 rfl (lv_at hl 0 rfl) ?_
  refine lv_iload_n S.1 S.2.1 dX3_init_10 rfl (lv_at hl 2 rfl) ?_
  refine z_putFi S hK hP hD hS 0 rfl rfl 1 (by decide) i_X3_init_3 q_X3_init_5 tyX3 tyX3_ok nmX3 hini rfl rfl (by decide +kernel) (Nat.le_of_ble_eq_true rfl) dX3_init_11 (fun H locs hP hD hS => ?_)
  have hP : zP E ([(h, .inr (3, [.int (jI vl), .int (jI nb), .int (jI 0), .int (jI 0)]))]) H := hP
  have hD : va_D A ([(h, .inr (3, [.int (jI vl), .int (jI nb), .int (jI 0), .int (jI 0)]))]) := hD
  refine lv_aload_n S.1 S.2.1 dX3_init_14 rfl (lv_at hl 0 rfl) ?_
  refine lv_iload_n S.1 S.2.1 dX3_init_15 rfl (lv_at hl 3 rfl) ?_
  refine z_putFi S hK hP hD hS 0 rfl rfl 2 (by decide) i_X3_init_3 q_X3_init_6 tyX3 tyX3_ok nmX3 hini rfl rfl (by decide +kernel) (Nat.le_of_ble_eq_true rfl) dX3_init_16 (fun H locs hP hD hS => ?_)
  have hP : zP E ([(h, .inr (3, [.int (jI vl), .int (jI nb), .int (jI fr), .int (jI 0)]))]) H := hP
  have hD : va_D A ([(h, .inr (3, [.int (jI vl), .int (jI nb), .int (jI fr), .int (jI 0)]))]) := hD
  refine lv_aload_n S.1 S.2.1 dX3_init_19 rfl (lv_at hl 0 rfl) ?_
  refine lv_iload S.1 S.2.1 dX3_init_20 (lv_at hl 4 rfl) ?_
  refine z_putFi S hK hP hD hS 0 rfl rfl 3 (by decide) i_X3_init_3 q_X3_init_7 tyX3 tyX3_ok nmX3 hini rfl rfl (by decide +kernel) (Nat.le_of_ble_eq_true rfl) dX3_init_22 (fun H locs hP hD hS => ?_)
  have hP : zP E ([(h, .inr (3, [.int (jI vl), .int (jI nb), .int (jI fr), .int (jI tl)]))]) H := hP
  have hD : va_D A ([(h, .inr (3, [.int (jI vl), .int (jI nb), .int (jI fr), .int (jI tl)]))]) := hD
  exact hQ (()) _ _ (trivial) hP hD hS _ _ dX3_init_25

set_option maxHeartbeats 1000000 in
set_option maxRecDepth 20000 in
theorem c_X2_init_1 (l : Launch) (E : zE) (h : Nat) (vl : Int) (nb : Int) (fr : Int) (tl : Int) : zMv l E yX2_init wsX2_init (zr 2 0 0) [.ref h, .int (jI (vl)), .int (jI (nb)), .int (jI (fr)), .int (jI (tl))] ([(h, .inr (1, [.int (jI 0), .int (jI 0), .int (jI 0), .int (jI 0)]))]) (fun _ => True) (fun (u : Unit) => True) (fun (u : Unit) => [(h, .inr (1, [.int (jI vl), .int (jI nb), .int (jI fr), .int (jI tl)]))]) 0 0 := by
  refine zMv_of (own := RX2) (cc := cX2_init) (maxL := 5) (by decide) rfl (Nat.le_of_ble_eq_true rfl) rfl ?_
  intro p e s m args below meth c Q A S hK hini hA hS hP hD hAe hG hQ ls hl
  have hl : lv_has ls 5 [(0, .ref h), (1, .int (jI (vl))), (2, .int (jI (nb))), (3, .int (jI (fr))), (4, .int (jI (tl)))] := hl
  refine lv_aload_n S.1 S.2.1 dX2_init_0 rfl (lv_at hl 0 rfl) ?_
  refine lv_iload_n S.1 S.2.1 dX2_init_1 rfl (lv_at hl 1 rfl) ?_
  refine lv_iload_n S.1 S.2.1 dX2_init_2 rfl (lv_at hl 2 rfl) ?_
  refine lv_iload_n S.1 S.2.1 dX2_init_3 rfl (lv_at hl 3 rfl) ?_
  refine lv_iload S.1 S.2.1 dX2_init_4 (lv_at hl 4 rfl) ?_
  refine z_mv (wr := []) (z_mI S hK (c_X3_init_1 l E h vl nb fr tl _) ggX2_init_X3_init q_X2_init_3 q_X2_init_1 q_X2_init_2 rfl rfl hs_X3_init ⟨(Nat.le_of_ble_eq_true rfl), (Nat.le_of_ble_eq_true rfl)⟩ (hP.sub [0] rfl) (hD.sub [0] (by decide) rfl) trivial hl.1 rfl (Nat.le_of_ble_eq_true rfl) ⟨(Nat.le_of_ble_eq_true rfl), (Nat.le_of_ble_eq_true rfl)⟩ rfl dX2_init_6) hP hD hS hA [0] [] [0] rfl rfl (by decide) (by decide) (fun (u : Unit) => [(h, .inr (1, [.int (jI vl), .int (jI nb), .int (jI fr), .int (jI tl)]))]) (by decide) (fun _ => rfl) (fun u H locs h_6 hP hD hS => ?_)
  have hP : zP E ([(h, .inr (1, [.int (jI vl), .int (jI nb), .int (jI fr), .int (jI tl)]))]) H := hP
  have hD : va_D A ([(h, .inr (1, [.int (jI vl), .int (jI nb), .int (jI fr), .int (jI tl)]))]) := hD
  exact hQ (()) _ _ (trivial) hP hD hS _ _ dX2_init_9

set_option maxHeartbeats 1000000 in
set_option maxRecDepth 20000 in
theorem c_X2_init_2 (l : Launch) (E : zE) (h : Nat) (vl : Int) (nb : Int) (fr : Int) (tl : Int) : zMv l E yX2_init wsX2_init (zr 2 0 0) [.ref h, .int (jI (vl)), .int (jI (nb)), .int (jI (fr)), .int (jI (tl))] ([(h, .inr (2, [.int (jI 0), .int (jI 0), .int (jI 0), .int (jI 0)]))]) (fun _ => True) (fun (u : Unit) => True) (fun (u : Unit) => [(h, .inr (2, [.int (jI vl), .int (jI nb), .int (jI fr), .int (jI tl)]))]) 0 0 := by
  refine zMv_of (own := RX2) (cc := cX2_init) (maxL := 5) (by decide) rfl (Nat.le_of_ble_eq_true rfl) rfl ?_
  intro p e s m args below meth c Q A S hK hini hA hS hP hD hAe hG hQ ls hl
  have hl : lv_has ls 5 [(0, .ref h), (1, .int (jI (vl))), (2, .int (jI (nb))), (3, .int (jI (fr))), (4, .int (jI (tl)))] := hl
  refine lv_aload_n S.1 S.2.1 dX2_init_0 rfl (lv_at hl 0 rfl) ?_
  refine lv_iload_n S.1 S.2.1 dX2_init_1 rfl (lv_at hl 1 rfl) ?_
  refine lv_iload_n S.1 S.2.1 dX2_init_2 rfl (lv_at hl 2 rfl) ?_
  refine lv_iload_n S.1 S.2.1 dX2_init_3 rfl (lv_at hl 3 rfl) ?_
  refine lv_iload S.1 S.2.1 dX2_init_4 (lv_at hl 4 rfl) ?_
  refine z_mv (wr := []) (z_mI S hK (c_X3_init_2 l E h vl nb fr tl _) ggX2_init_X3_init q_X2_init_3 q_X2_init_1 q_X2_init_2 rfl rfl hs_X3_init ⟨(Nat.le_of_ble_eq_true rfl), (Nat.le_of_ble_eq_true rfl)⟩ (hP.sub [0] rfl) (hD.sub [0] (by decide) rfl) trivial hl.1 rfl (Nat.le_of_ble_eq_true rfl) ⟨(Nat.le_of_ble_eq_true rfl), (Nat.le_of_ble_eq_true rfl)⟩ rfl dX2_init_6) hP hD hS hA [0] [] [0] rfl rfl (by decide) (by decide) (fun (u : Unit) => [(h, .inr (2, [.int (jI vl), .int (jI nb), .int (jI fr), .int (jI tl)]))]) (by decide) (fun _ => rfl) (fun u H locs h_6 hP hD hS => ?_)
  have hP : zP E ([(h, .inr (2, [.int (jI vl), .int (jI nb), .int (jI fr), .int (jI tl)]))]) H := hP
  have hD : va_D A ([(h, .inr (2, [.int (jI vl), .int (jI nb), .int (jI fr), .int (jI tl)]))]) := hD
  exact hQ (()) _ _ (trivial) hP hD hS _ _ dX2_init_9

set_option maxHeartbeats 1000000 in
set_option maxRecDepth 20000 in
theorem c_X1_init_1 (l : Launch) (E : zE) (h : Nat) (vl : Int) (nb : Int) (fr : Int) (tl : Int) : zMv l E yX1_init wsX1_init (zr 3 0 0) [.ref h, .int (jI (vl)), .int (jI (nb)), .int (jI (fr)), .int (jI (tl))] ([(h, .inr (1, [.int (jI 0), .int (jI 0), .int (jI 0), .int (jI 0)]))]) (fun _ => True) (fun (u : Unit) => True) (fun (u : Unit) => [(h, .inr (1, [.int (jI vl), .int (jI nb), .int (jI fr), .int (jI tl)]))]) 0 0 := by
  refine zMv_of (own := RX1) (cc := cX1_init) (maxL := 5) (by decide) rfl (Nat.le_of_ble_eq_true rfl) rfl ?_
  intro p e s m args below meth c Q A S hK hini hA hS hP hD hAe hG hQ ls hl
  have hl : lv_has ls 5 [(0, .ref h), (1, .int (jI (vl))), (2, .int (jI (nb))), (3, .int (jI (fr))), (4, .int (jI (tl)))] := hl
  refine lv_aload_n S.1 S.2.1 dX1_init_0 rfl (lv_at hl 0 rfl) ?_
  refine lv_iload_n S.1 S.2.1 dX1_init_1 rfl (lv_at hl 1 rfl) ?_
  refine lv_iload_n S.1 S.2.1 dX1_init_2 rfl (lv_at hl 2 rfl) ?_
  refine lv_iload_n S.1 S.2.1 dX1_init_3 rfl (lv_at hl 3 rfl) ?_
  refine lv_iload S.1 S.2.1 dX1_init_4 (lv_at hl 4 rfl) ?_
  refine z_mv (wr := []) (z_mI S hK (c_X2_init_1 l E h vl nb fr tl _) ggX1_init_X2_init q_X1_init_3 q_X1_init_1 q_X1_init_2 rfl rfl hs_X2_init ⟨(Nat.le_of_ble_eq_true rfl), (Nat.le_of_ble_eq_true rfl)⟩ (hP.sub [0] rfl) (hD.sub [0] (by decide) rfl) trivial hl.1 rfl (Nat.le_of_ble_eq_true rfl) ⟨(Nat.le_of_ble_eq_true rfl), (Nat.le_of_ble_eq_true rfl)⟩ rfl dX1_init_6) hP hD hS hA [0] [] [0] rfl rfl (by decide) (by decide) (fun (u : Unit) => [(h, .inr (1, [.int (jI vl), .int (jI nb), .int (jI fr), .int (jI tl)]))]) (by decide) (fun _ => rfl) (fun u H locs h_6 hP hD hS => ?_)
  have hP : zP E ([(h, .inr (1, [.int (jI vl), .int (jI nb), .int (jI fr), .int (jI tl)]))]) H := hP
  have hD : va_D A ([(h, .inr (1, [.int (jI vl), .int (jI nb), .int (jI fr), .int (jI tl)]))]) := hD
  exact hQ (()) _ _ (trivial) hP hD hS _ _ dX1_init_9

set_option maxHeartbeats 1000000 in
set_option maxRecDepth 20000 in
theorem c_X7_init (l : Launch) (E : zE) (h : Nat) : zMv l E yX7_init wsX7_init (zr 1 3 408) [.ref h] ([(h, .inr (7, [.null, .null, .null]))]) (fun _ => True) (fun (u : Nat × (Nat × Nat)) => True) (fun (u : Nat × (Nat × Nat)) => [(h, .inr (7, [.ref u.1, .ref u.2.1, .ref u.2.2])), (u.1, eI E 400 ((fun _ => 0))), (u.2.1, eI E 4 (zlan 4)), (u.2.2, eI E 4 ((fun _ => 0)))]) 3 408 := by
  refine zMv_of (own := RX7) (cc := cX7_init) (maxL := 2) (by decide) rfl (Nat.le_of_ble_eq_true rfl) rfl ?_
  intro p e s m args below meth c Q A S hK hini hA hS hP hD hAe hG hQ ls hl
  have hl : lv_has ls 2 [(0, .ref h)] := hl
  refine lv_aload_n S.1 S.2.1 dX7_init_0 rfl (lv_at hl 0 rfl) ?_
  refine W.objInit S.1 S.2.1 S.2.2.2.1 (S.2.2.2.2 _ q_X7_init_1) (S.2.2.2.2 _ q_X7_init_2) (S.2.2.2.2 _ q_X7_init_3) rfl (by rw [S.2.2.1]; exact hl.1) rfl dX7_init_1 (Nat.le_of_ble_eq_true rfl) (Nat.le_of_ble_eq_true rfl) ?_
  refine W.eq (g2 := F0 m 4 ls []) rfl ?_
  refine lv_aload_n S.1 S.2.1 dX7_init_4 rfl (lv_at hl 0 rfl) ?_
  refine z_sipush S (by decide +kernel) dX7_init_5 ?_
  refine z_newI S hK hP hD hS hA q_X7_init_4 (N := 400) (by omega) (by omega) (Nat.le_of_ble_eq_true rfl) (Nat.le_of_ble_eq_true rfl) dX7_init_8 (fun q8 H hP hD hS => ?_)
  have hP : zP E ([(h, .inr (7, [.null, .null, .null])), (q8, eI E 400 ((fun _ => 0)))]) H := hP
  have hD : va_D A ([(h, .inr (7, [.null, .null, .null])), (q8, eI E 400 ((fun _ => 0)))]) := hD
  refine z_putFr (ty := tyX7 0) S hK hP hD hS 0 rfl rfl 0 (by decide) i_X7_init_7 q_X7_init_5 tyX7 tyX7_ok nmX7 hini rfl rfl (by decide +kernel) rfl rfl (Nat.le_of_ble_eq_true rfl) dX7_init_10 (fun H locs hP hD hS => ?_)
  have hP : zP E ([(h, .inr (7, [.ref q8, .null, .null])), (q8, eI E 400 ((fun _ => 0)))]) H := hP
  have hD : va_D A ([(h, .inr (7, [.ref q8, .null, .null])), (q8, eI E 400 ((fun _ => 0)))]) := hD
  refine lv_aload_n S.1 S.2.1 dX7_init_13 rfl (lv_at hl 0 rfl) ?_
  refine z_iconst S dX7_init_14 ?_
  refine z_newI S hK hP hD hS hA q_X7_init_4 (N := 4) (by omega) (by omega) (Nat.le_of_ble_eq_true rfl) (Nat.le_of_ble_eq_true rfl) dX7_init_15 (fun q15 H hP hD hS => ?_)
  have hP : zP E ([(h, .inr (7, [.ref q8, .null, .null])), (q8, eI E 400 ((fun _ => 0))), (q15, eI E 4 ((fun _ => 0)))]) H := hP
  have hD : va_D A ([(h, .inr (7, [.ref q8, .null, .null])), (q8, eI E 400 ((fun _ => 0))), (q15, eI E 4 ((fun _ => 0)))]) := hD
  refine z_putFr (ty := tyX7 1) S hK hP hD hS 0 rfl rfl 1 (by decide) i_X7_init_7 q_X7_init_6 tyX7 tyX7_ok nmX7 hini rfl rfl (by decide +kernel) rfl rfl (Nat.le_of_ble_eq_true rfl) dX7_init_17 (fun H locs hP hD hS => ?_)
  have hP : zP E ([(h, .inr (7, [.ref q8, .ref q15, .null])), (q8, eI E 400 ((fun _ => 0))), (q15, eI E 4 ((fun _ => 0)))]) H := hP
  have hD : va_D A ([(h, .inr (7, [.ref q8, .ref q15, .null])), (q8, eI E 400 ((fun _ => 0))), (q15, eI E 4 ((fun _ => 0)))]) := hD
  refine lv_aload_n S.1 S.2.1 dX7_init_20 rfl (lv_at hl 0 rfl) ?_
  refine z_iconst S dX7_init_21 ?_
  refine z_newI S hK hP hD hS hA q_X7_init_4 (N := 4) (by omega) (by omega) (Nat.le_of_ble_eq_true rfl) (Nat.le_of_ble_eq_true rfl) dX7_init_22 (fun q22 H hP hD hS => ?_)
  have hP : zP E ([(h, .inr (7, [.ref q8, .ref q15, .null])), (q8, eI E 400 ((fun _ => 0))), (q15, eI E 4 ((fun _ => 0))), (q22, eI E 4 ((fun _ => 0)))]) H := hP
  have hD : va_D A ([(h, .inr (7, [.ref q8, .ref q15, .null])), (q8, eI E 400 ((fun _ => 0))), (q15, eI E 4 ((fun _ => 0))), (q22, eI E 4 ((fun _ => 0)))]) := hD
  refine z_putFr (ty := tyX7 2) S hK hP hD hS 0 rfl rfl 2 (by decide) i_X7_init_7 q_X7_init_7 tyX7 tyX7_ok nmX7 hini rfl rfl (by decide +kernel) rfl rfl (Nat.le_of_ble_eq_true rfl) dX7_init_24 (fun H locs hP hD hS => ?_)
  have hP : zP E ([(h, .inr (7, [.ref q8, .ref q15, .ref q22])), (q8, eI E 400 ((fun _ => 0))), (q15, eI E 4 ((fun _ => 0))), (q22, eI E 4 ((fun _ => 0)))]) H := hP
  have hD : va_D A ([(h, .inr (7, [.ref q8, .ref q15, .ref q22])), (q8, eI E 400 ((fun _ => 0))), (q15, eI E 4 ((fun _ => 0))), (q22, eI E 4 ((fun _ => 0)))]) := hD
  refine z_iconst S dX7_init_27 ?_
  refine lv_istore_n (lv' := [(1, .int (jI (0))), (0, .ref h)]) S.1 S.2.1 dX7_init_28 rfl hl (by decide) rfl (fun ls hl => ?_)
  suffices HL_1 : ∀ (n_2 : Nat) (i : Int) (g : Int → Int), (4 - i).toNat < n_2 → (0 ≤ i ∧ i ≤ 4) → (g = zlan i) → ∀ (H : Heap) (locs : List Loc), zP E ([(h, .inr (7, [.ref q8, .ref q15, .ref q22])), (q8, eI E 400 ((fun _ => 0))), (q15, eI E 4 g), (q22, eI E 4 ((fun _ => 0)))]) H → va_D A ([(h, .inr (7, [.ref q8, .ref q15, .ref q22])), (q8, eI E 400 ((fun _ => 0))), (q15, eI E 4 g), (q22, eI E 4 ((fun _ => 0)))]) → va_S A s.heap H locs → ∀ (ls : Array Slot), lv_has ls 2 [(1, .int (jI (i))), (0, .ref h)] → W p l e (zr 1 3 408) s m args below meth c H locs 3 408 Q (F0 m 29 ls []) from
    HL_1 _ 0 ((fun _ => 0)) (Nat.lt_succ_self _) (by omega) (zlan_0.symm) _ _ hP hD hS ls (lv_sub hl [0, 1] rfl)
  intro n_2
  induction n_2 with
  | zero => intro i g hm hi hg; exact absurd hm (Nat.not_lt_zero _)
  | succ n_2 ih_3 =>
    intro i g hm hi hg H locs hP hD hS ls hl
    refine lv_iload_n S.1 S.2.1 dX7_init_29 rfl (lv_at hl 0 rfl) ?_
    refine lv_aload_n S.1 S.2.1 dX7_init_30 rfl (lv_at hl 1 rfl) ?_
    refine z_get S hK hP 0 rfl rfl 1 (by decide) i_X7_init_7 q_X7_init_6 rfl dX7_init_31 ?_
    refine z_alen S hK hP 2 rfl dX7_init_34 ?_
    refine z_icmp_ge (tgt := 51) S dX7_init_35 (by decide) (by omega) (fun c_35 => ?_) (fun c_35 => ?_)
    · skip
      have hge : g = zlan 4 := by rw [hg, show i = 4 by omega]
      subst hge
      exact hQ ((q8, (q15, q22))) _ _ (trivial) hP hD hS _ _ dX7_init_51
    · skip
      refine lv_aload_n S.1 S.2.1 dX7_init_38 rfl (lv_at hl 1 rfl) ?_
      refine z_get S hK hP 0 rfl rfl 1 (by decide) i_X7_init_7 q_X7_init_6 rfl dX7_init_39 ?_
      refine lv_iload_n S.1 S.2.1 dX7_init_42 rfl (lv_at hl 0 rfl) ?_
      refine z_iconst S dX7_init_43 ?_
      refine z_iast S hK hP hD hS 2 rfl (by omega) dX7_init_44 (fun H locs hP hD hS => ?_)
      have hP : zP E ([(h, .inr (7, [.ref q8, .ref q15, .ref q22])), (q8, eI E 400 ((fun _ => 0))), (q15, eI E 4 (zu g i (-1))), (q22, eI E 4 ((fun _ => 0)))]) H := hP
      have hD : va_D A ([(h, .inr (7, [.ref q8, .ref q15, .ref q22])), (q8, eI E 400 ((fun _ => 0))), (q15, eI E 4 (zu g i (-1))), (q22, eI E 4 ((fun _ => 0)))]) := hD
      refine z_iinc (lv' := [(1, .int (jI (i + 1))), (0, .ref h)]) S hl (k := 0) rfl (by decide) rfl dX7_init_45 (fun ls hl => ?_)
      refine z_goto (tgt := 29) S dX7_init_48 (by decide) ?_
      exact ih_3 (i + 1) (zu g i (-1)) (by omega) (by omega) (by rw [hg]; exact zlan_next (by omega)) _ _ hP hD hS ls (lv_sub hl [0, 1] rfl)
