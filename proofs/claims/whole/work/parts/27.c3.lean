theorem i_X8_leave_8 : ∀ w ∈ u_ws RX8 TX8 1, w ∈ wsX8_leave := fun w h => List.mem_cons_of_mem _ (List.mem_append_right _ h)
theorem q_X8_leave_1 : Cond.fieldLink RX8 7 "LivingNumbers$Trace" "value" "I" ∈ wsX8_leave := List.mem_of_getElem? (i := 1) rfl
theorem i_X8_left_8 : ∀ w ∈ u_ws RX8 TX8 1, w ∈ wsX8_left := fun w h => List.mem_cons_of_mem _ (List.mem_append_right _ h)
theorem q_X8_left_1 : Cond.fieldLink RX8 7 "LivingNumbers$Trace" "value" "I" ∈ wsX8_left := List.mem_of_getElem? (i := 1) rfl
theorem i_X3_isKnown_2 : ∀ w ∈ u_ws RX2 TX2 4, w ∈ wsX3_isKnown := fun w h => List.mem_cons_of_mem _ (List.mem_append_left _ (List.mem_append_right _ h))
theorem q_X3_isKnown_1 : Cond.fieldLink RX3 7 "LivingNumbers$Named" "village" "I" ∈ wsX3_isKnown := List.mem_of_getElem? (i := 1) rfl
theorem i_X3_isKnown_3 : ∀ w ∈ u_ws RX3 TX3 4, w ∈ wsX3_isKnown := fun w h => List.mem_cons_of_mem _ (List.mem_append_right _ h)
theorem i_X3_number_1 : ∀ w ∈ u_ws RX1 TX1 4, w ∈ wsX3_number := fun w h => List.mem_cons_of_mem _ (List.mem_append_left _ (List.mem_append_left _ (List.mem_append_right _ h)))
theorem q_X3_number_1 : Cond.fieldLink RX3 13 "LivingNumbers$Named" "number" "I" ∈ wsX3_number := List.mem_of_getElem? (i := 1) rfl
theorem i_X3_part_1 : ∀ w ∈ u_ws RX1 TX1 4, w ∈ wsX3_part := fun w h => List.mem_cons_of_mem _ (List.mem_append_left _ (List.mem_append_left _ (List.mem_append_right _ h)))
theorem q_X3_part_4 : Cond.fieldLink RX3 19 "LivingNumbers$Named" "till" "I" ∈ wsX3_part := List.mem_of_getElem? (i := 4) rfl
theorem q_X3_part_12 : Cond.code yX3_kind cX3_kind 1 (some .int) ∈ wsX3_part := List.mem_of_getElem? (i := 12) rfl
theorem hu_0___I : "LivingNumbers$Named" ≠ "java/lang/invoke/MethodHandle" ∧ "LivingNumbers$Named" ≠ "java/lang/invoke/VarHandle" ∧ (parseMethodDescriptor "()I").map (fun d => d.parameters.length) = some 0 := by decide +kernel
theorem q_X3_part_1 : Cond.fieldLink RX3 7 "LivingNumbers$Named" "village" "I" ∈ wsX3_part := List.mem_of_getElem? (i := 1) rfl
theorem q_X3_part_2 : Cond.fieldLink RX3 13 "LivingNumbers$Named" "number" "I" ∈ wsX3_part := List.mem_of_getElem? (i := 2) rfl
theorem q_X3_part_3 : Cond.fieldLink RX3 16 "LivingNumbers$Named" "from" "I" ∈ wsX3_part := List.mem_of_getElem? (i := 3) rfl
theorem q_X3_isHeard_10 : Cond.code yX3_isKnown cX3_isKnown 2 (some .boolean) ∈ wsX3_isHeard := List.mem_of_getElem? (i := 10) rfl
theorem hu_1__I_Z : "LivingNumbers$Named" ≠ "java/lang/invoke/MethodHandle" ∧ "LivingNumbers$Named" ≠ "java/lang/invoke/VarHandle" ∧ (parseMethodDescriptor "(I)Z").map (fun d => d.parameters.length) = some 1 := by decide +kernel
theorem i_X3_isHeard_1 : ∀ w ∈ u_ws RX1 TX1 4, w ∈ wsX3_isHeard := fun w h => List.mem_cons_of_mem _ (List.mem_append_left _ (List.mem_append_left _ (List.mem_append_right _ h)))
theorem q_X3_isHeard_1 : Cond.fieldLink RX3 16 "LivingNumbers$Named" "from" "I" ∈ wsX3_isHeard := List.mem_of_getElem? (i := 1) rfl
theorem q_X3_isHeard_2 : Cond.fieldLink RX3 19 "LivingNumbers$Named" "till" "I" ∈ wsX3_isHeard := List.mem_of_getElem? (i := 2) rfl
theorem q_X3_isHeard_24 : Cond.code yX3_longer cX3_longer 1 (some .int) ∈ wsX3_isHeard := List.mem_of_getElem? (i := 24) rfl
theorem i_X3_number_2 : ∀ w ∈ u_ws RX2 TX2 4, w ∈ wsX3_number := fun w h => List.mem_cons_of_mem _ (List.mem_append_left _ (List.mem_append_right _ h))
theorem i_X3_part_2 : ∀ w ∈ u_ws RX2 TX2 4, w ∈ wsX3_part := fun w h => List.mem_cons_of_mem _ (List.mem_append_left _ (List.mem_append_right _ h))
theorem i_X3_isHeard_2 : ∀ w ∈ u_ws RX2 TX2 4, w ∈ wsX3_isHeard := fun w h => List.mem_cons_of_mem _ (List.mem_append_left _ (List.mem_append_right _ h))
theorem i_X3_number_3 : ∀ w ∈ u_ws RX3 TX3 4, w ∈ wsX3_number := fun w h => List.mem_cons_of_mem _ (List.mem_append_right _ h)
theorem i_X3_part_3 : ∀ w ∈ u_ws RX3 TX3 4, w ∈ wsX3_part := fun w h => List.mem_cons_of_mem _ (List.mem_append_right _ h)
theorem hv_X3_kind : yX3_kind.cls = RX3 ∧ yX3_kind.cls ≠ "java/lang/invoke/MethodHandle" ∧ yX3_kind.cls ≠ "java/lang/invoke/VarHandle" ∧ (parseMethodDescriptor yX3_kind.desc).map (fun d => d.parameters.length) = some 0 := by decide +kernel
theorem hv_X3_isKnown : yX3_isKnown.cls = RX3 ∧ yX3_isKnown.cls ≠ "java/lang/invoke/MethodHandle" ∧ yX3_isKnown.cls ≠ "java/lang/invoke/VarHandle" ∧ (parseMethodDescriptor yX3_isKnown.desc).map (fun d => d.parameters.length) = some 1 := by decide +kernel
theorem i_X3_isHeard_3 : ∀ w ∈ u_ws RX3 TX3 4, w ∈ wsX3_isHeard := fun w h => List.mem_cons_of_mem _ (List.mem_append_right _ h)
theorem hv_X3_longer : yX3_longer.cls = RX3 ∧ yX3_longer.cls ≠ "java/lang/invoke/MethodHandle" ∧ yX3_longer.cls ≠ "java/lang/invoke/VarHandle" ∧ (parseMethodDescriptor yX3_longer.desc).map (fun d => d.parameters.length) = some 0 := by decide +kernel
set_option maxHeartbeats 1000000 in
set_option maxRecDepth 20000 in
theorem c_X8_leave (l : Launch) (E : zE) (h : Nat) (tr : Int) (n : Int) : zMv l E yX8_leave wsX8_leave (zr 1 0 0) [.ref h, .int (jI (n))] ([(h, .inr (8, [.int (jI tr)]))]) (fun _ => True) (fun (u : Unit) => True) (fun (u : Unit) => [(h, .inr (8, [.int (jI (31 * tr + n))]))]) 0 0 := by
  refine zMv_of (own := RX8) (cc := cX8_leave) (maxL := 2) (by decide) rfl (Nat.le_of_ble_eq_true rfl) rfl ?_
  intro p e s m args below meth c Q A S hK hini hA hS hP hD hAe hG hQ ls hl
  have hl : lv_has ls 2 [(0, .ref h), (1, .int (jI (n)))] := hl
  refine lv_aload_n S.1 S.2.1 dX8_leave_0 rfl (lv_at hl 0 rfl) ?_
  refine z_bipush S (by decide +kernel) dX8_leave_1 ?_
  refine lv_aload_n S.1 S.2.1 dX8_leave_3 rfl (lv_at hl 0 rfl) ?_
  refine z_get S hK hP 0 rfl rfl 0 (by decide) i_X8_leave_8 q_X8_leave_1 rfl dX8_leave_4 ?_
  refine z_imul S dX8_leave_7 ?_
  refine lv_iload_n S.1 S.2.1 dX8_leave_8 rfl (lv_at hl 1 rfl) ?_
  refine z_iadd S dX8_leave_9 ?_
  refine z_puti S hK hP hD hS 0 rfl rfl 0 (by decide) i_X8_leave_8 q_X8_leave_1 tyX8 tyX8_ok nmX8 rfl (by decide +kernel) (Nat.le_of_ble_eq_true rfl) dX8_leave_10 (fun H locs hP hD hS => ?_)
  have hP : zP E ([(h, .inr (8, [.int (jI ((31 * tr) + n))]))]) H := hP
  have hD : va_D A ([(h, .inr (8, [.int (jI ((31 * tr) + n))]))]) := hD
  exact hQ (()) _ _ (trivial) hP hD hS _ _ dX8_leave_13

set_option maxHeartbeats 1000000 in
set_option maxRecDepth 20000 in
theorem c_X8_left (l : Launch) (E : zE) (h : Nat) (tr : Int) : zRi l E yX8_left wsX8_left (zr 1 0 0) [.ref h] (fun H => zP E ([(h, .inr (8, [.int (jI tr)]))]) H) (fun r => r = tr) := by
  refine zRi_of (own := RX8) (cc := cX8_left) (maxL := 1) (by decide) rfl (Nat.le_of_ble_eq_true rfl) rfl ?_
  intro p e s m args below meth c Q S hK hP hQ ls hl
  have hl : lv_has ls 1 [(0, .ref h)] := hl
  refine lv_aload_n S.1 S.2.1 dX8_left_0 rfl (lv_at hl 0 rfl) ?_
  refine z_get S hK hP 0 rfl rfl 0 (by decide) i_X8_left_8 q_X8_left_1 rfl dX8_left_1 ?_
  exact hQ (tr) (rfl) _ _ dX8_left_4

set_option maxHeartbeats 1000000 in
set_option maxRecDepth 20000 in
theorem c_X1_kind_1 (l : Launch) (E : zE) (h : Nat) : zRi l E yX1_kind wsX1_kind (zr 1 0 0) [.ref h] (fun _ => True) (fun r => r = 2) := by
  refine zRi_of (own := RX1) (cc := cX1_kind) (maxL := 1) (by decide) rfl (Nat.le_of_ble_eq_true rfl) rfl ?_
  intro p e s m args below meth c Q S hK hP hQ ls hl
  have hl : lv_has ls 1 [(0, .ref h)] := hl
  refine z_iconst S dX1_kind_0 ?_
  exact hQ (2) (rfl) _ _ dX1_kind_1

set_option maxHeartbeats 1000000 in
set_option maxRecDepth 20000 in
theorem c_X2_kind_2 (l : Launch) (E : zE) (h : Nat) : zRi l E yX2_kind wsX2_kind (zr 1 0 0) [.ref h] (fun _ => True) (fun r => r = 1) := by
  refine zRi_of (own := RX2) (cc := cX2_kind) (maxL := 1) (by decide) rfl (Nat.le_of_ble_eq_true rfl) rfl ?_
  intro p e s m args below meth c Q S hK hP hQ ls hl
  have hl : lv_has ls 1 [(0, .ref h)] := hl
  refine z_iconst S dX2_kind_0 ?_
  exact hQ (1) (rfl) _ _ dX2_kind_1

set_option maxHeartbeats 1000000 in
set_option maxRecDepth 20000 in
theorem c_X3_kind_3 (l : Launch) (E : zE) (h : Nat) : zRi l E yX3_kind wsX3_kind (zr 1 0 0) [.ref h] (fun _ => True) (fun r => r = 0) := by
  refine zRi_of (own := RX3) (cc := cX3_kind) (maxL := 1) (by decide) rfl (Nat.le_of_ble_eq_true rfl) rfl ?_
  intro p e s m args below meth c Q S hK hP hQ ls hl
  have hl : lv_has ls 1 [(0, .ref h)] := hl
  refine z_iconst S dX3_kind_0 ?_
  exact hQ (0) (rfl) _ _ dX3_kind_1

set_option maxHeartbeats 1000000 in
set_option maxRecDepth 20000 in
theorem c_X1_isKnown_1 (l : Launch) (E : zE) (h : Nat) (v : Int) : zRi l E yX1_isKnown wsX1_isKnown (zr 1 0 0) [.ref h, .int (jI (v))] (fun _ => True) (fun r => r = 1) := by
  refine zRz_of (own := RX1) (cc := cX1_isKnown) (maxL := 2) (by decide) rfl (Nat.le_of_ble_eq_true rfl) rfl ?_
  intro p e s m args below meth c Q S hK hP hQ ls hl
  have hl : lv_has ls 2 [(0, .ref h), (1, .int (jI (v)))] := hl
  refine z_iconst S dX1_isKnown_0 ?_
  exact hQ (1) (by omega) (rfl) _ _ dX1_isKnown_1

set_option maxHeartbeats 1000000 in
set_option maxRecDepth 20000 in
theorem c_X2_longer_1 (l : Launch) (E : zE) (h : Nat) : zRi l E yX2_longer wsX2_longer (zr 1 0 0) [.ref h] (fun _ => True) (fun r => r = 10) := by
  refine zRi_of (own := RX2) (cc := cX2_longer) (maxL := 1) (by decide) rfl (Nat.le_of_ble_eq_true rfl) rfl ?_
  intro p e s m args below meth c Q S hK hP hQ ls hl
  have hl : lv_has ls 1 [(0, .ref h)] := hl
  refine z_bipush S (by decide +kernel) dX2_longer_0 ?_
  exact hQ (10) (rfl) _ _ dX2_longer_2

set_option maxHeartbeats 1000000 in
set_option maxRecDepth 20000 in
theorem c_X2_longer_2 (l : Launch) (E : zE) (h : Nat) : zRi l E yX2_longer wsX2_longer (zr 1 0 0) [.ref h] (fun _ => True) (fun r => r = 10) := by
  refine zRi_of (own := RX2) (cc := cX2_longer) (maxL := 1) (by decide) rfl (Nat.le_of_ble_eq_true rfl) rfl ?_
  intro p e s m args below meth c Q S hK hP hQ ls hl
  have hl : lv_has ls 1 [(0, .ref h)] := hl
  refine z_bipush S (by decide +kernel) dX2_longer_0 ?_
  exact hQ (10) (rfl) _ _ dX2_longer_2

set_option maxHeartbeats 1000000 in
set_option maxRecDepth 20000 in
theorem c_X3_longer_3 (l : Launch) (E : zE) (h : Nat) : zRi l E yX3_longer wsX3_longer (zr 1 0 0) [.ref h] (fun _ => True) (fun r => r = 0) := by
  refine zRi_of (own := RX3) (cc := cX3_longer) (maxL := 1) (by decide) rfl (Nat.le_of_ble_eq_true rfl) rfl ?_
  intro p e s m args below meth c Q S hK hP hQ ls hl
  have hl : lv_has ls 1 [(0, .ref h)] := hl
  refine z_iconst S dX3_longer_0 ?_
  exact hQ (0) (rfl) _ _ dX3_longer_1

set_option maxHeartbeats 1000000 in
set_option maxRecDepth 20000 in
theorem c_X3_isKnown_2 (l : Launch) (E : zE) (h : Nat) (vl : Int) (nb : Int) (fr : Int) (tl : Int) (v : Int) (h_v : -2147483648 ≤ v ∧ v ≤ 2147483647) (hvl : 0 ≤ vl ∧ vl ≤ 1) : zRi l E yX3_isKnown wsX3_isKnown (zr 1 0 0) [.ref h, .int (jI (v))] (fun H => zP E ([(h, .inr (2, [.int (jI vl), .int (jI nb), .int (jI fr), .int (jI tl)]))]) H) (fun r => (r = 1 ∧ (vl = v)) ∨ (r = 0 ∧ ¬ (vl = v))) := by
  refine zRz_of (own := RX3) (cc := cX3_isKnown) (maxL := 2) (by decide) rfl (Nat.le_of_ble_eq_true rfl) rfl ?_
  intro p e s m args below meth c Q S hK hP hQ ls hl
  have hl : lv_has ls 2 [(0, .ref h), (1, .int (jI (v)))] := hl
  refine lv_iload_n S.1 S.2.1 dX3_isKnown_0 rfl (lv_at hl 1 rfl) ?_
  refine lv_aload_n S.1 S.2.1 dX3_isKnown_1 rfl (lv_at hl 0 rfl) ?_
  refine z_get S hK hP 0 rfl rfl 0 (by decide) i_X3_isKnown_2 q_X3_isKnown_1 rfl dX3_isKnown_2 ?_
  refine z_icmp_ne (tgt := 12) S dX3_isKnown_5 (by decide) (by omega) (fun c_5 => ?_) (fun c_5 => ?_)
  · skip
    refine z_iconst S dX3_isKnown_12 ?_
    exact hQ (0) (by omega) (by omega) _ _ dX3_isKnown_13
  · skip
    refine z_iconst S dX3_isKnown_8 ?_
    refine z_goto (tgt := 13) S dX3_isKnown_9 (by decide) ?_
    exact hQ (1) (by omega) (by omega) _ _ dX3_isKnown_13

set_option maxHeartbeats 1000000 in
set_option maxRecDepth 20000 in
theorem c_X3_isKnown_3 (l : Launch) (E : zE) (h : Nat) (vl : Int) (nb : Int) (fr : Int) (tl : Int) (v : Int) (h_v : -2147483648 ≤ v ∧ v ≤ 2147483647) (hvl : 0 ≤ vl ∧ vl ≤ 1) : zRi l E yX3_isKnown wsX3_isKnown (zr 1 0 0) [.ref h, .int (jI (v))] (fun H => zP E ([(h, .inr (3, [.int (jI vl), .int (jI nb), .int (jI fr), .int (jI tl)]))]) H) (fun r => (r = 1 ∧ (vl = v)) ∨ (r = 0 ∧ ¬ (vl = v))) := by
  refine zRz_of (own := RX3) (cc := cX3_isKnown) (maxL := 2) (by decide) rfl (Nat.le_of_ble_eq_true rfl) rfl ?_
  intro p e s m args below meth c Q S hK hP hQ ls hl
  have hl : lv_has ls 2 [(0, .ref h), (1, .int (jI (v)))] := hl
  refine lv_iload_n S.1 S.2.1 dX3_isKnown_0 rfl (lv_at hl 1 rfl) ?_
  refine lv_aload_n S.1 S.2.1 dX3_isKnown_1 rfl (lv_at hl 0 rfl) ?_
  refine z_get S hK hP 0 rfl rfl 0 (by decide) i_X3_isKnown_3 q_X3_isKnown_1 rfl dX3_isKnown_2 ?_
  refine z_icmp_ne (tgt := 12) S dX3_isKnown_5 (by decide) (by omega) (fun c_5 => ?_) (fun c_5 => ?_)
  · skip
    refine z_iconst S dX3_isKnown_12 ?_
    exact hQ (0) (by omega) (by omega) _ _ dX3_isKnown_13
  · skip
    refine z_iconst S dX3_isKnown_8 ?_
    refine z_goto (tgt := 13) S dX3_isKnown_9 (by decide) ?_
    exact hQ (1) (by omega) (by omega) _ _ dX3_isKnown_13

set_option maxHeartbeats 1000000 in
set_option maxRecDepth 20000 in
theorem c_X3_number_1 (l : Launch) (E : zE) (h : Nat) (vl : Int) (nb : Int) (fr : Int) (tl : Int) : zRi l E yX3_number wsX3_number (zr 1 0 0) [.ref h] (fun H => zP E ([(h, .inr (1, [.int (jI vl), .int (jI nb), .int (jI fr), .int (jI tl)]))]) H) (fun r => r = nb) := by
  refine zRi_of (own := RX3) (cc := cX3_number) (maxL := 1) (by decide) rfl (Nat.le_of_ble_eq_true rfl) rfl ?_
  intro p e s m args below meth c Q S hK hP hQ ls hl
  have hl : lv_has ls 1 [(0, .ref h)] := hl
  refine lv_aload_n S.1 S.2.1 dX3_number_0 rfl (lv_at hl 0 rfl) ?_
  refine z_get S hK hP 0 rfl rfl 1 (by decide) i_X3_number_1 q_X3_number_1 rfl dX3_number_1 ?_
  exact hQ (nb) (rfl) _ _ dX3_number_4

set_option maxHeartbeats 1000000 in
set_option maxRecDepth 20000 in
theorem c_X3_part_1 (l : Launch) (E : zE) (h : Nat) (vl : Int) (nb : Int) (fr : Int) (tl : Int) (what : Int) (kd : Int) (hw : 0 ≤ what ∧ what ≤ 4) (hk : kd = 2) : zRi l E yX3_part wsX3_part (zr 2 0 0) [.ref h, .int (jI (what))] (fun H => zP E ([(h, .inr (1, [.int (jI vl), .int (jI nb), .int (jI fr), .int (jI tl)]))]) H) (fun r => (what = 0 ∧ r = kd) ∨ (what = 1 ∧ r = vl) ∨ (what = 2 ∧ r = nb) ∨ (what = 3 ∧ r = fr) ∨ (what = 4 ∧ r = tl)) := by
  refine zRi_of (own := RX3) (cc := cX3_part) (maxL := 2) (by decide) rfl (Nat.le_of_ble_eq_true rfl) rfl ?_
  intro p e s m args below meth c Q S hK hP hQ ls hl
  have hl : lv_has ls 2 [(0, .ref h), (1, .int (jI (what)))] := hl
  refine lv_iload_n S.1 S.2.1 dX3_part_0 rfl (lv_at hl 1 rfl) ?_
  rcases zsw what 0 3 with c_1 | c_1
  · refine z_swOut (tgt := 52) S dX3_part_1 (by omega) (by omega) (by decide) ?_
    refine lv_aload_n S.1 S.2.1 dX3_part_52 rfl (lv_at hl 0 rfl) ?_
    refine z_get S hK hP 0 rfl rfl 3 (by decide) i_X3_part_1 q_X3_part_4 rfl dX3_part_53 ?_
    exact hQ (tl) (by omega) _ _ dX3_part_56
  · have hsw : what = 0 ∨ what = 1 ∨ what = 2 ∨ what = 3 := by omega
    rcases hsw with hsw | hsw | hsw | hsw
    · refine z_swIn (tgt := 32) (off := 31) S dX3_part_1 (by omega) hsw (by decide) (by decide) (by decide) (by decide) ?_
      refine lv_aload_n S.1 S.2.1 dX3_part_32 rfl (lv_at hl 0 rfl) ?_
      refine z_ri (z_rO S hK (c_X1_kind_1 l E h  ) gX3_part_X1_kind_u22X1 q_X3_part_12 rfl hu_0___I ⟨Nat.le_of_ble_eq_true rfl, Nat.le_of_ble_eq_true rfl⟩ (va_recv hK hP (ci := 1) (q0 := 0) rfl rfl) trivial hl.1 rfl (Nat.le_of_ble_eq_true rfl) ⟨by decide, by decide⟩ rfl dX3_part_33) (fun r_33 h_33 => ?_)
      rw [h_33]
      exact hQ (2) (by omega) _ _ dX3_part_36
    · refine z_swIn (tgt := 37) (off := 36) S dX3_part_1 (by omega) hsw (by decide) (by decide) (by decide) (by decide) ?_
      refine lv_aload_n S.1 S.2.1 dX3_part_37 rfl (lv_at hl 0 rfl) ?_
      refine z_get S hK hP 0 rfl rfl 0 (by decide) i_X3_part_1 q_X3_part_1 rfl dX3_part_38 ?_
      exact hQ (vl) (by omega) _ _ dX3_part_41
    · refine z_swIn (tgt := 42) (off := 41) S dX3_part_1 (by omega) hsw (by decide) (by decide) (by decide) (by decide) ?_
      refine lv_aload_n S.1 S.2.1 dX3_part_42 rfl (lv_at hl 0 rfl) ?_
      refine z_get S hK hP 0 rfl rfl 1 (by decide) i_X3_part_1 q_X3_part_2 rfl dX3_part_43 ?_
      exact hQ (nb) (by omega) _ _ dX3_part_46
    · refine z_swIn (tgt := 47) (off := 46) S dX3_part_1 (by omega) hsw (by decide) (by decide) (by decide) (by decide) ?_
      refine lv_aload_n S.1 S.2.1 dX3_part_47 rfl (lv_at hl 0 rfl) ?_
      refine z_get S hK hP 0 rfl rfl 2 (by decide) i_X3_part_1 q_X3_part_3 rfl dX3_part_48 ?_
      exact hQ (fr) (by omega) _ _ dX3_part_51

set_option maxHeartbeats 1000000 in
set_option maxRecDepth 20000 in
theorem c_X3_isHeard_1 (l : Launch) (E : zE) (h : Nat) (vl : Int) (nb : Int) (fr : Int) (tl : Int) (v : Int) (d : Int) (kd : Int) (h_v : -2147483648 ≤ v ∧ v ≤ 2147483647) (h_d : -2147483648 ≤ d ∧ d ≤ 2147483647) (hvl : 0 ≤ vl ∧ vl ≤ 1) (hfr : 0 ≤ fr ∧ fr ≤ 98) (htl : fr < tl ∧ tl ≤ 99) (hk : kd = 2) : zRi l E yX3_isHeard wsX3_isHeard (zr 2 0 0) [.ref h, .int (jI (v)), .int (jI (d))] (fun H => zP E ([(h, .inr (1, [.int (jI vl), .int (jI nb), .int (jI fr), .int (jI tl)]))]) H) (fun r => (r = 1 ∧ (zlv kd vl fr tl v d)) ∨ (r = 0 ∧ ¬ (zlv kd vl fr tl v d))) := by
  refine zRz_of (own := RX3) (cc := cX3_isHeard) (maxL := 3) (by decide) rfl (Nat.le_of_ble_eq_true rfl) rfl ?_
  intro p e s m args below meth c Q S hK hP hQ ls hl
  have hl : lv_has ls 3 [(0, .ref h), (1, .int (jI (v))), (2, .int (jI (d)))] := hl
  refine lv_aload_n S.1 S.2.1 dX3_isHeard_0 rfl (lv_at hl 0 rfl) ?_
  refine lv_iload_n S.1 S.2.1 dX3_isHeard_1 rfl (lv_at hl 1 rfl) ?_
  refine z_ri (z_rO S hK (c_X1_isKnown_1 l E h v ) gX3_isHeard_X1_isKnown_u26X1 q_X3_isHeard_10 rfl hu_1__I_Z ⟨Nat.le_of_ble_eq_true rfl, Nat.le_of_ble_eq_true rfl⟩ (va_recv hK hP (ci := 1) (q0 := 0) rfl rfl) trivial hl.1 rfl (Nat.le_of_ble_eq_true rfl) ⟨by decide, by decide⟩ rfl dX3_isHeard_2) (fun r_2 h_2 => ?_)
  rw [h_2]
  refine z_if_eq (tgt := 33) S dX3_isHeard_5 (by decide) (by omega) (fun c_5 => ?_) (fun c_5 => ?_)
  · omega
  · skip
    refine lv_iload_n S.1 S.2.1 dX3_isHeard_8 rfl (lv_at hl 2 rfl) ?_
    refine lv_aload_n S.1 S.2.1 dX3_isHeard_9 rfl (lv_at hl 0 rfl) ?_
    refine z_get S hK hP 0 rfl rfl 2 (by decide) i_X3_isHeard_1 q_X3_isHeard_1 rfl dX3_isHeard_10 ?_
    refine z_icmp_lt (tgt := 33) S dX3_isHeard_13 (by decide) (by omega) (fun c_13 => ?_) (fun c_13 => ?_)
    · skip
      refine z_iconst S dX3_isHeard_33 ?_
      exact hQ (0) (by omega) (by unfold zlv; omega) _ _ dX3_isHeard_34
    · skip
      refine lv_iload_n S.1 S.2.1 dX3_isHeard_16 rfl (lv_at hl 2 rfl) ?_
      refine lv_aload_n S.1 S.2.1 dX3_isHeard_17 rfl (lv_at hl 0 rfl) ?_
      refine z_get S hK hP 0 rfl rfl 3 (by decide) i_X3_isHeard_1 q_X3_isHeard_2 rfl dX3_isHeard_18 ?_
      refine lv_aload_n S.1 S.2.1 dX3_isHeard_21 rfl (lv_at hl 0 rfl) ?_
      refine z_ri (z_rO S hK (c_X2_longer_1 l E h  ) gX3_isHeard_X2_longer_u30X1 q_X3_isHeard_24 rfl hu_0___I ⟨Nat.le_of_ble_eq_true rfl, Nat.le_of_ble_eq_true rfl⟩ (va_recv hK hP (ci := 1) (q0 := 0) rfl rfl) trivial hl.1 rfl (Nat.le_of_ble_eq_true rfl) ⟨by decide, by decide⟩ rfl dX3_isHeard_22) (fun r_22 h_22 => ?_)
      rw [h_22]
      refine z_iadd S dX3_isHeard_25 ?_
      refine z_icmp_ge (tgt := 33) S dX3_isHeard_26 (by decide) (by omega) (fun c_26 => ?_) (fun c_26 => ?_)
      · skip
        refine z_iconst S dX3_isHeard_33 ?_
        exact hQ (0) (by omega) (by unfold zlv; omega) _ _ dX3_isHeard_34
      · skip
        refine z_iconst S dX3_isHeard_29 ?_
        refine z_goto (tgt := 34) S dX3_isHeard_30 (by decide) ?_
        exact hQ (1) (by omega) (by unfold zlv; omega) _ _ dX3_isHeard_34

set_option maxHeartbeats 1000000 in
set_option maxRecDepth 20000 in
theorem c_X3_number_2 (l : Launch) (E : zE) (h : Nat) (vl : Int) (nb : Int) (fr : Int) (tl : Int) : zRi l E yX3_number wsX3_number (zr 1 0 0) [.ref h] (fun H => zP E ([(h, .inr (2, [.int (jI vl), .int (jI nb), .int (jI fr), .int (jI tl)]))]) H) (fun r => r = nb) := by
  refine zRi_of (own := RX3) (cc := cX3_number) (maxL := 1) (by decide) rfl (Nat.le_of_ble_eq_true rfl) rfl ?_
  intro p e s m args below meth c Q S hK hP hQ ls hl
  have hl : lv_has ls 1 [(0, .ref h)] := hl
  refine lv_aload_n S.1 S.2.1 dX3_number_0 rfl (lv_at hl 0 rfl) ?_
  refine z_get S hK hP 0 rfl rfl 1 (by decide) i_X3_number_2 q_X3_number_1 rfl dX3_number_1 ?_
  exact hQ (nb) (rfl) _ _ dX3_number_4

set_option maxHeartbeats 1000000 in
set_option maxRecDepth 20000 in
theorem c_X3_part_2 (l : Launch) (E : zE) (h : Nat) (vl : Int) (nb : Int) (fr : Int) (tl : Int) (what : Int) (kd : Int) (hw : 0 ≤ what ∧ what ≤ 4) (hk : kd = 1) : zRi l E yX3_part wsX3_part (zr 2 0 0) [.ref h, .int (jI (what))] (fun H => zP E ([(h, .inr (2, [.int (jI vl), .int (jI nb), .int (jI fr), .int (jI tl)]))]) H) (fun r => (what = 0 ∧ r = kd) ∨ (what = 1 ∧ r = vl) ∨ (what = 2 ∧ r = nb) ∨ (what = 3 ∧ r = fr) ∨ (what = 4 ∧ r = tl)) := by
  refine zRi_of (own := RX3) (cc := cX3_part) (maxL := 2) (by decide) rfl (Nat.le_of_ble_eq_true rfl) rfl ?_
  intro p e s m args below meth c Q S hK hP hQ ls hl
  have hl : lv_has ls 2 [(0, .ref h), (1, .int (jI (what)))] := hl
  refine lv_iload_n S.1 S.2.1 dX3_part_0 rfl (lv_at hl 1 rfl) ?_
  rcases zsw what 0 3 with c_1 | c_1
  · refine z_swOut (tgt := 52) S dX3_part_1 (by omega) (by omega) (by decide) ?_
    refine lv_aload_n S.1 S.2.1 dX3_part_52 rfl (lv_at hl 0 rfl) ?_
    refine z_get S hK hP 0 rfl rfl 3 (by decide) i_X3_part_2 q_X3_part_4 rfl dX3_part_53 ?_
    exact hQ (tl) (by omega) _ _ dX3_part_56
  · have hsw : what = 0 ∨ what = 1 ∨ what = 2 ∨ what = 3 := by omega
    rcases hsw with hsw | hsw | hsw | hsw
    · refine z_swIn (tgt := 32) (off := 31) S dX3_part_1 (by omega) hsw (by decide) (by decide) (by decide) (by decide) ?_
      refine lv_aload_n S.1 S.2.1 dX3_part_32 rfl (lv_at hl 0 rfl) ?_
      refine z_ri (z_rO S hK (c_X2_kind_2 l E h  ) gX3_part_X2_kind_u22X2 q_X3_part_12 rfl hu_0___I ⟨Nat.le_of_ble_eq_true rfl, Nat.le_of_ble_eq_true rfl⟩ (va_recv hK hP (ci := 2) (q0 := 0) rfl rfl) trivial hl.1 rfl (Nat.le_of_ble_eq_true rfl) ⟨by decide, by decide⟩ rfl dX3_part_33) (fun r_33 h_33 => ?_)
      rw [h_33]
      exact hQ (1) (by omega) _ _ dX3_part_36
    · refine z_swIn (tgt := 37) (off := 36) S dX3_part_1 (by omega) hsw (by decide) (by decide) (by decide) (by decide) ?_
      refine lv_aload_n S.1 S.2.1 dX3_part_37 rfl (lv_at hl 0 rfl) ?_
      refine z_get S hK hP 0 rfl rfl 0 (by decide) i_X3_part_2 q_X3_part_1 rfl dX3_part_38 ?_
      exact hQ (vl) (by omega) _ _ dX3_part_41
    · refine z_swIn (tgt := 42) (off := 41) S dX3_part_1 (by omega) hsw (by decide) (by decide) (by decide) (by decide) ?_
      refine lv_aload_n S.1 S.2.1 dX3_part_42 rfl (lv_at hl 0 rfl) ?_
      refine z_get S hK hP 0 rfl rfl 1 (by decide) i_X3_part_2 q_X3_part_2 rfl dX3_part_43 ?_
      exact hQ (nb) (by omega) _ _ dX3_part_46
    · refine z_swIn (tgt := 47) (off := 46) S dX3_part_1 (by omega) hsw (by decide) (by decide) (by decide) (by decide) ?_
      refine lv_aload_n S.1 S.2.1 dX3_part_47 rfl (lv_at hl 0 rfl) ?_
      refine z_get S hK hP 0 rfl rfl 2 (by decide) i_X3_part_2 q_X3_part_3 rfl dX3_part_48 ?_
      exact hQ (fr) (by omega) _ _ dX3_part_51

set_option maxHeartbeats 1000000 in
set_option maxRecDepth 20000 in
theorem c_X3_isHeard_2 (l : Launch) (E : zE) (h : Nat) (vl : Int) (nb : Int) (fr : Int) (tl : Int) (v : Int) (d : Int) (kd : Int) (h_v : -2147483648 ≤ v ∧ v ≤ 2147483647) (h_d : -2147483648 ≤ d ∧ d ≤ 2147483647) (hvl : 0 ≤ vl ∧ vl ≤ 1) (hfr : 0 ≤ fr ∧ fr ≤ 98) (htl : fr < tl ∧ tl ≤ 99) (hk : kd = 1) : zRi l E yX3_isHeard wsX3_isHeard (zr 2 0 0) [.ref h, .int (jI (v)), .int (jI (d))] (fun H => zP E ([(h, .inr (2, [.int (jI vl), .int (jI nb), .int (jI fr), .int (jI tl)]))]) H) (fun r => (r = 1 ∧ (zlv kd vl fr tl v d)) ∨ (r = 0 ∧ ¬ (zlv kd vl fr tl v d))) := by
  refine zRz_of (own := RX3) (cc := cX3_isHeard) (maxL := 3) (by decide) rfl (Nat.le_of_ble_eq_true rfl) rfl ?_
  intro p e s m args below meth c Q S hK hP hQ ls hl
  have hl : lv_has ls 3 [(0, .ref h), (1, .int (jI (v))), (2, .int (jI (d)))] := hl
  refine lv_aload_n S.1 S.2.1 dX3_isHeard_0 rfl (lv_at hl 0 rfl) ?_
  refine lv_iload_n S.1 S.2.1 dX3_isHeard_1 rfl (lv_at hl 1 rfl) ?_
  refine z_ri (z_rU S hK (c_X3_isKnown_2 l E h vl nb fr tl v (by omega) (by omega)) gX3_isHeard_X3_isKnown_u26X2 rfl rfl hu_1__I_Z ⟨Nat.le_of_ble_eq_true rfl, Nat.le_of_ble_eq_true rfl⟩ (va_recv hK hP (ci := 2) (q0 := 0) rfl rfl) hP hl.1 rfl (Nat.le_of_ble_eq_true rfl) ⟨by decide, by decide⟩ rfl dX3_isHeard_2) (fun r_2 h_2 => ?_)
  refine z_if_eq (tgt := 33) S dX3_isHeard_5 (by decide) (by omega) (fun c_5 => ?_) (fun c_5 => ?_)
  · skip
    refine z_iconst S dX3_isHeard_33 ?_
    exact hQ (0) (by omega) (by unfold zlv; omega) _ _ dX3_isHeard_34
  · skip
    refine lv_iload_n S.1 S.2.1 dX3_isHeard_8 rfl (lv_at hl 2 rfl) ?_
    refine lv_aload_n S.1 S.2.1 dX3_isHeard_9 rfl (lv_at hl 0 rfl) ?_
    refine z_get S hK hP 0 rfl rfl 2 (by decide) i_X3_isHeard_2 q_X3_isHeard_1 rfl dX3_isHeard_10 ?_
    refine z_icmp_lt (tgt := 33) S dX3_isHeard_13 (by decide) (by omega) (fun c_13 => ?_) (fun c_13 => ?_)
    · skip
      refine z_iconst S dX3_isHeard_33 ?_
      exact hQ (0) (by omega) (by unfold zlv; omega) _ _ dX3_isHeard_34
    · skip
      refine lv_iload_n S.1 S.2.1 dX3_isHeard_16 rfl (lv_at hl 2 rfl) ?_
      refine lv_aload_n S.1 S.2.1 dX3_isHeard_17 rfl (lv_at hl 0 rfl) ?_
      refine z_get S hK hP 0 rfl rfl 3 (by decide) i_X3_isHeard_2 q_X3_isHeard_2 rfl dX3_isHeard_18 ?_
      refine lv_aload_n S.1 S.2.1 dX3_isHeard_21 rfl (lv_at hl 0 rfl) ?_
      refine z_ri (z_rO S hK (c_X2_longer_2 l E h  ) gX3_isHeard_X2_longer_u30X2 q_X3_isHeard_24 rfl hu_0___I ⟨Nat.le_of_ble_eq_true rfl, Nat.le_of_ble_eq_true rfl⟩ (va_recv hK hP (ci := 2) (q0 := 0) rfl rfl) trivial hl.1 rfl (Nat.le_of_ble_eq_true rfl) ⟨by decide, by decide⟩ rfl dX3_isHeard_22) (fun r_22 h_22 => ?_)
      rw [h_22]
      refine z_iadd S dX3_isHeard_25 ?_
      refine z_icmp_ge (tgt := 33) S dX3_isHeard_26 (by decide) (by omega) (fun c_26 => ?_) (fun c_26 => ?_)
      · skip
        refine z_iconst S dX3_isHeard_33 ?_
        exact hQ (0) (by omega) (by unfold zlv; omega) _ _ dX3_isHeard_34
      · skip
        refine z_iconst S dX3_isHeard_29 ?_
        refine z_goto (tgt := 34) S dX3_isHeard_30 (by decide) ?_
        exact hQ (1) (by omega) (by unfold zlv; omega) _ _ dX3_isHeard_34

set_option maxHeartbeats 1000000 in
set_option maxRecDepth 20000 in
theorem c_X3_number_3 (l : Launch) (E : zE) (h : Nat) (vl : Int) (nb : Int) (fr : Int) (tl : Int) : zRi l E yX3_number wsX3_number (zr 1 0 0) [.ref h] (fun H => zP E ([(h, .inr (3, [.int (jI vl), .int (jI nb), .int (jI fr), .int (jI tl)]))]) H) (fun r => r = nb) := by
  refine zRi_of (own := RX3) (cc := cX3_number) (maxL := 1) (by decide) rfl (Nat.le_of_ble_eq_true rfl) rfl ?_
  intro p e s m args below meth c Q S hK hP hQ ls hl
  have hl : lv_has ls 1 [(0, .ref h)] := hl
  refine lv_aload_n S.1 S.2.1 dX3_number_0 rfl (lv_at hl 0 rfl) ?_
  refine z_get S hK hP 0 rfl rfl 1 (by decide) i_X3_number_3 q_X3_number_1 rfl dX3_number_1 ?_
  exact hQ (nb) (rfl) _ _ dX3_number_4

set_option maxHeartbeats 1000000 in
set_option maxRecDepth 20000 in
theorem c_X3_part_3 (l : Launch) (E : zE) (h : Nat) (vl : Int) (nb : Int) (fr : Int) (tl : Int) (what : Int) (kd : Int) (hw : 0 ≤ what ∧ what ≤ 4) (hk : kd = 0) : zRi l E yX3_part wsX3_part (zr 2 0 0) [.ref h, .int (jI (what))] (fun H => zP E ([(h, .inr (3, [.int (jI vl), .int (jI nb), .int (jI fr), .int (jI tl)]))]) H) (fun r => (what = 0 ∧ r = kd) ∨ (what = 1 ∧ r = vl) ∨ (what = 2 ∧ r = nb) ∨ (what = 3 ∧ r = fr) ∨ (what = 4 ∧ r = tl)) := by
  refine zRi_of (own := RX3) (cc := cX3_part) (maxL := 2) (by decide) rfl (Nat.le_of_ble_eq_true rfl) rfl ?_
  intro p e s m args below meth c Q S hK hP hQ ls hl
  have hl : lv_has ls 2 [(0, .ref h), (1, .int (jI (what)))] := hl
  refine lv_iload_n S.1 S.2.1 dX3_part_0 rfl (lv_at hl 1 rfl) ?_
  rcases zsw what 0 3 with c_1 | c_1
  · refine z_swOut (tgt := 52) S dX3_part_1 (by omega) (by omega) (by decide) ?_
    refine lv_aload_n S.1 S.2.1 dX3_part_52 rfl (lv_at hl 0 rfl) ?_
    refine z_get S hK hP 0 rfl rfl 3 (by decide) i_X3_part_3 q_X3_part_4 rfl dX3_part_53 ?_
    exact hQ (tl) (by omega) _ _ dX3_part_56
  · have hsw : what = 0 ∨ what = 1 ∨ what = 2 ∨ what = 3 := by omega
    rcases hsw with hsw | hsw | hsw | hsw
    · refine z_swIn (tgt := 32) (off := 31) S dX3_part_1 (by omega) hsw (by decide) (by decide) (by decide) (by decide) ?_
      refine lv_aload_n S.1 S.2.1 dX3_part_32 rfl (lv_at hl 0 rfl) ?_
      refine z_ri (z_rV S hK (c_X3_kind_3 l E h  ) gX3_part_X3_kind rfl hv_X3_kind ⟨Nat.le_of_ble_eq_true rfl, Nat.le_of_ble_eq_true rfl⟩ (va_recv hK hP (ci := 3) (q0 := 0) rfl rfl) trivial hl.1 rfl (Nat.le_of_ble_eq_true rfl) ⟨by decide, by decide⟩ rfl dX3_part_33) (fun r_33 h_33 => ?_)
      rw [h_33]
      exact hQ (0) (by omega) _ _ dX3_part_36
    · refine z_swIn (tgt := 37) (off := 36) S dX3_part_1 (by omega) hsw (by decide) (by decide) (by decide) (by decide) ?_
      refine lv_aload_n S.1 S.2.1 dX3_part_37 rfl (lv_at hl 0 rfl) ?_
      refine z_get S hK hP 0 rfl rfl 0 (by decide) i_X3_part_3 q_X3_part_1 rfl dX3_part_38 ?_
      exact hQ (vl) (by omega) _ _ dX3_part_41
    · refine z_swIn (tgt := 42) (off := 41) S dX3_part_1 (by omega) hsw (by decide) (by decide) (by decide) (by decide) ?_
      refine lv_aload_n S.1 S.2.1 dX3_part_42 rfl (lv_at hl 0 rfl) ?_
      refine z_get S hK hP 0 rfl rfl 1 (by decide) i_X3_part_3 q_X3_part_2 rfl dX3_part_43 ?_
      exact hQ (nb) (by omega) _ _ dX3_part_46
    · refine z_swIn (tgt := 47) (off := 46) S dX3_part_1 (by omega) hsw (by decide) (by decide) (by decide) (by decide) ?_
      refine lv_aload_n S.1 S.2.1 dX3_part_47 rfl (lv_at hl 0 rfl) ?_
      refine z_get S hK hP 0 rfl rfl 2 (by decide) i_X3_part_3 q_X3_part_3 rfl dX3_part_48 ?_
      exact hQ (fr) (by omega) _ _ dX3_part_51

set_option maxHeartbeats 1000000 in
set_option maxRecDepth 20000 in
theorem c_X3_isHeard_3 (l : Launch) (E : zE) (h : Nat) (vl : Int) (nb : Int) (fr : Int) (tl : Int) (v : Int) (d : Int) (kd : Int) (h_v : -2147483648 ≤ v ∧ v ≤ 2147483647) (h_d : -2147483648 ≤ d ∧ d ≤ 2147483647) (hvl : 0 ≤ vl ∧ vl ≤ 1) (hfr : 0 ≤ fr ∧ fr ≤ 98) (htl : fr < tl ∧ tl ≤ 99) (hk : kd = 0) : zRi l E yX3_isHeard wsX3_isHeard (zr 2 0 0) [.ref h, .int (jI (v)), .int (jI (d))] (fun H => zP E ([(h, .inr (3, [.int (jI vl), .int (jI nb), .int (jI fr), .int (jI tl)]))]) H) (fun r => (r = 1 ∧ (zlv kd vl fr tl v d)) ∨ (r = 0 ∧ ¬ (zlv kd vl fr tl v d))) := by
  refine zRz_of (own := RX3) (cc := cX3_isHeard) (maxL := 3) (by decide) rfl (Nat.le_of_ble_eq_true rfl) rfl ?_
  intro p e s m args below meth c Q S hK hP hQ ls hl
  have hl : lv_has ls 3 [(0, .ref h), (1, .int (jI (v))), (2, .int (jI (d)))] := hl
  refine lv_aload_n S.1 S.2.1 dX3_isHeard_0 rfl (lv_at hl 0 rfl) ?_
  refine lv_iload_n S.1 S.2.1 dX3_isHeard_1 rfl (lv_at hl 1 rfl) ?_
  refine z_ri (z_rV S hK (c_X3_isKnown_3 l E h vl nb fr tl v (by omega) (by omega)) gX3_isHeard_X3_isKnown rfl hv_X3_isKnown ⟨Nat.le_of_ble_eq_true rfl, Nat.le_of_ble_eq_true rfl⟩ (va_recv hK hP (ci := 3) (q0 := 0) rfl rfl) hP hl.1 rfl (Nat.le_of_ble_eq_true rfl) ⟨by decide, by decide⟩ rfl dX3_isHeard_2) (fun r_2 h_2 => ?_)
  refine z_if_eq (tgt := 33) S dX3_isHeard_5 (by decide) (by omega) (fun c_5 => ?_) (fun c_5 => ?_)
  · skip
    refine z_iconst S dX3_isHeard_33 ?_
    exact hQ (0) (by omega) (by unfold zlv; omega) _ _ dX3_isHeard_34
  · skip
    refine lv_iload_n S.1 S.2.1 dX3_isHeard_8 rfl (lv_at hl 2 rfl) ?_
    refine lv_aload_n S.1 S.2.1 dX3_isHeard_9 rfl (lv_at hl 0 rfl) ?_
    refine z_get S hK hP 0 rfl rfl 2 (by decide) i_X3_isHeard_3 q_X3_isHeard_1 rfl dX3_isHeard_10 ?_
    refine z_icmp_lt (tgt := 33) S dX3_isHeard_13 (by decide) (by omega) (fun c_13 => ?_) (fun c_13 => ?_)
    · skip
      refine z_iconst S dX3_isHeard_33 ?_
      exact hQ (0) (by omega) (by unfold zlv; omega) _ _ dX3_isHeard_34
    · skip
      refine lv_iload_n S.1 S.2.1 dX3_isHeard_16 rfl (lv_at hl 2 rfl) ?_
      refine lv_aload_n S.1 S.2.1 dX3_isHeard_17 rfl (lv_at hl 0 rfl) ?_
      refine z_get S hK hP 0 rfl rfl 3 (by decide) i_X3_isHeard_3 q_X3_isHeard_2 rfl dX3_isHeard_18 ?_
      refine lv_aload_n S.1 S.2.1 dX3_isHeard_21 rfl (lv_at hl 0 rfl) ?_
      refine z_ri (z_rV S hK (c_X3_longer_3 l E h  ) gX3_isHeard_X3_longer rfl hv_X3_longer ⟨Nat.le_of_ble_eq_true rfl, Nat.le_of_ble_eq_true rfl⟩ (va_recv hK hP (ci := 3) (q0 := 0) rfl rfl) trivial hl.1 rfl (Nat.le_of_ble_eq_true rfl) ⟨by decide, by decide⟩ rfl dX3_isHeard_22) (fun r_22 h_22 => ?_)
      rw [h_22]
      refine z_iadd S dX3_isHeard_25 ?_
      refine z_icmp_ge (tgt := 33) S dX3_isHeard_26 (by decide) (by omega) (fun c_26 => ?_) (fun c_26 => ?_)
      · skip
        refine z_iconst S dX3_isHeard_33 ?_
        exact hQ (0) (by omega) (by unfold zlv; omega) _ _ dX3_isHeard_34
      · skip
        refine z_iconst S dX3_isHeard_29 ?_
        refine z_goto (tgt := 34) S dX3_isHeard_30 (by decide) ?_
        exact hQ (1) (by omega) (by unfold zlv; omega) _ _ dX3_isHeard_34
