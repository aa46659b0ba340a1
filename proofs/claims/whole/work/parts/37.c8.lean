def cW (E : zE) (ac : Nat → Nat) (flt : Int) (ce la si : Int → Int) (ln : Int) (co : Int → Int) (n : Int) (on : Nat → Option Nat) (tr : Int) (fw cw ch nm : Int → Int) : va_W := [(ac 0, .inr (9, [.ref (ac 1), .ref (ac 5), .ref (ac 7), .ref (ac 9), .ref (ac 10), .ref (ac 12), .ref (ac 14), .int (jI flt)])), (ac 1, .inr (7, [.ref (ac 2), .ref (ac 3), .ref (ac 4)])), (ac 2, eI E 400 ce), (ac 3, eI E 4 la), (ac 4, eI E 4 si), (ac 5, .inr (6, [.ref (ac 6), .int (jI ln)])), (ac 6, eI E 100 co), (ac 7, .inr (4, [.ref (ac 8), .int (jI n)])), (ac 8, eN E 10 on), (ac 9, .inr (8, [.int (jI tr)])), (ac 10, .inr (0, [.ref (ac 11)])), (ac 11, eI E 1000 fw), (ac 12, .inr (0, [.ref (ac 13)])), (ac 13, eI E 1000 cw), (ac 14, .inr (5, [.ref (ac 15), .ref (ac 16)])), (ac 15, eI E 3 ch), (ac 16, eI E 3 nm)]
theorem i_X9_faulted_9 : ∀ w ∈ u_ws RX9 TX9 8, w ∈ wsX9_faulted := fun w h => List.mem_cons_of_mem _ (List.mem_append_right _ h)
theorem q_X9_faulted_1 : Cond.fieldLink RX9 56 "LivingNumbers" "latestFault" "I" ∈ wsX9_faulted := List.mem_of_getElem? (i := 1) rfl
theorem i_X9_faultAs_9 : ∀ w ∈ u_ws RX9 TX9 8, w ∈ wsX9_faultAs := fun w h => List.mem_cons_of_mem _ (List.mem_append_left _ (List.mem_append_right _ h))
theorem q_X9_faultAs_1 : Cond.fieldLink RX9 12 "LivingNumbers" "sheets" "LLivingNumbers$Sheets;" ∈ wsX9_faultAs := List.mem_of_getElem? (i := 1) rfl
theorem hv_X7_hasRow : yX7_hasRow.cls = RX7 ∧ yX7_hasRow.cls ≠ "java/lang/invoke/MethodHandle" ∧ yX7_hasRow.cls ≠ "java/lang/invoke/VarHandle" ∧ (parseMethodDescriptor yX7_hasRow.desc).map (fun d => d.parameters.length) = some 1 := by decide +kernel
theorem i_X9_refusalOfCells_9 : ∀ w ∈ u_ws RX9 TX9 8, w ∈ wsX9_refusalOfCells := fun w h => List.mem_cons_of_mem _ (List.mem_append_left _ (List.mem_append_right _ h))
theorem q_X9_refusalOfCells_1 : Cond.fieldLink RX9 56 "LivingNumbers" "latestFault" "I" ∈ wsX9_refusalOfCells := List.mem_of_getElem? (i := 1) rfl
theorem hs_X9_isVillage : yX9_isVillage.cls ≠ "java/lang/invoke/MethodHandle" ∧ yX9_isVillage.cls ≠ "java/lang/invoke/VarHandle" ∧ (parseMethodDescriptor yX9_isVillage.desc).map (fun d => d.parameters.length) = some 1 := by decide +kernel
theorem hs_X9_isSheet : yX9_isSheet.cls ≠ "java/lang/invoke/MethodHandle" ∧ yX9_isSheet.cls ≠ "java/lang/invoke/VarHandle" ∧ (parseMethodDescriptor yX9_isSheet.desc).map (fun d => d.parameters.length) = some 1 := by decide +kernel
theorem hs_X9_isLane : yX9_isLane.cls ≠ "java/lang/invoke/MethodHandle" ∧ yX9_isLane.cls ≠ "java/lang/invoke/VarHandle" ∧ (parseMethodDescriptor yX9_isLane.desc).map (fun d => d.parameters.length) = some 1 := by decide +kernel
theorem hv_X9_faultAs : yX9_faultAs.cls = RX9 ∧ yX9_faultAs.cls ≠ "java/lang/invoke/MethodHandle" ∧ yX9_faultAs.cls ≠ "java/lang/invoke/VarHandle" ∧ (parseMethodDescriptor yX9_faultAs.desc).map (fun d => d.parameters.length) = some 2 := by decide +kernel
theorem q_X9_refusalOfCells_2 : Cond.fieldLink RX9 12 "LivingNumbers" "sheets" "LLivingNumbers$Sheets;" ∈ wsX9_refusalOfCells := List.mem_of_getElem? (i := 2) rfl
theorem hv_X9_faulted : yX9_faulted.cls = RX9 ∧ yX9_faulted.cls ≠ "java/lang/invoke/MethodHandle" ∧ yX9_faulted.cls ≠ "java/lang/invoke/VarHandle" ∧ (parseMethodDescriptor yX9_faulted.desc).map (fun d => d.parameters.length) = some 1 := by decide +kernel
theorem hv_X9_refusalOfCells : yX9_refusalOfCells.cls = RX9 ∧ yX9_refusalOfCells.cls ≠ "java/lang/invoke/MethodHandle" ∧ yX9_refusalOfCells.cls ≠ "java/lang/invoke/VarHandle" ∧ (parseMethodDescriptor yX9_refusalOfCells.desc).map (fun d => d.parameters.length) = some 6 := by decide +kernel
theorem i_X9_refusalOfRow_9 : ∀ w ∈ u_ws RX9 TX9 8, w ∈ wsX9_refusalOfRow := fun w h => List.mem_cons_of_mem _ (List.mem_append_left _ (List.mem_append_left _ (List.mem_append_right _ h)))
theorem q_X9_refusalOfRow_1 : Cond.fieldLink RX9 28 "LivingNumbers" "people" "LLivingNumbers$People;" ∈ wsX9_refusalOfRow := List.mem_of_getElem? (i := 1) rfl
theorem q_X9_refusalOfRow_2 : Cond.fieldLink RX9 12 "LivingNumbers" "sheets" "LLivingNumbers$Sheets;" ∈ wsX9_refusalOfRow := List.mem_of_getElem? (i := 2) rfl
theorem i_X9_areBargains_9 : ∀ w ∈ u_ws RX9 TX9 8, w ∈ wsX9_areBargains := fun w h => List.mem_cons_of_mem _ (List.mem_append_left _ (List.mem_append_right _ h))
theorem q_X9_areBargains_1 : Cond.fieldLink RX9 12 "LivingNumbers" "sheets" "LLivingNumbers$Sheets;" ∈ wsX9_areBargains := List.mem_of_getElem? (i := 1) rfl
theorem hs_X9_isQuantity : yX9_isQuantity.cls ≠ "java/lang/invoke/MethodHandle" ∧ yX9_isQuantity.cls ≠ "java/lang/invoke/VarHandle" ∧ (parseMethodDescriptor yX9_isQuantity.desc).map (fun d => d.parameters.length) = some 1 := by decide +kernel
theorem i_X9_meaning_9 : ∀ w ∈ u_ws RX9 TX9 8, w ∈ wsX9_meaning := fun w h => List.mem_cons_of_mem _ (List.mem_append_left _ (List.mem_append_left _ (List.mem_append_left _ (List.mem_append_left _ (List.mem_append_left _ (List.mem_append_right _ h))))))
theorem q_X9_meaning_1 : Cond.fieldLink RX9 28 "LivingNumbers" "people" "LLivingNumbers$People;" ∈ wsX9_meaning := List.mem_of_getElem? (i := 1) rfl
theorem q_X9_meaning_2 : Cond.fieldLink RX9 12 "LivingNumbers" "sheets" "LLivingNumbers$Sheets;" ∈ wsX9_meaning := List.mem_of_getElem? (i := 2) rfl
theorem i_X9_fewestWords_9 : ∀ w ∈ u_ws RX9 TX9 8, w ∈ wsX9_fewestWords := fun w h => List.mem_cons_of_mem _ (List.mem_append_left _ (List.mem_append_left _ (List.mem_append_left _ (List.mem_append_left _ (List.mem_append_left _ (List.mem_append_right _ h))))))
theorem q_X9_fewestWords_1 : Cond.fieldLink RX9 28 "LivingNumbers" "people" "LLivingNumbers$People;" ∈ wsX9_fewestWords := List.mem_of_getElem? (i := 1) rfl
theorem q_X9_fewestWords_2 : Cond.fieldLink RX9 42 "LivingNumbers" "fewest" "LLivingNumbers$Fewest;" ∈ wsX9_fewestWords := List.mem_of_getElem? (i := 2) rfl
theorem hv_X4_teach : yX4_teach.cls = RX4 ∧ yX4_teach.cls ≠ "java/lang/invoke/MethodHandle" ∧ yX4_teach.cls ≠ "java/lang/invoke/VarHandle" ∧ (parseMethodDescriptor yX4_teach.desc).map (fun d => d.parameters.length) = some 4 := by decide +kernel
theorem q_X9_fewestWords_3 : Cond.constant RX9 213 (1000000) ∈ wsX9_fewestWords := List.mem_of_getElem? (i := 3) rfl
theorem i_X9_numberAt_9 : ∀ w ∈ u_ws RX9 TX9 8, w ∈ wsX9_numberAt := fun w h => List.mem_cons_of_mem _ (List.mem_append_left _ (List.mem_append_left _ (List.mem_append_left _ (List.mem_append_left _ (List.mem_append_left _ (List.mem_append_right _ h))))))
theorem q_X9_numberAt_1 : Cond.fieldLink RX9 28 "LivingNumbers" "people" "LLivingNumbers$People;" ∈ wsX9_numberAt := List.mem_of_getElem? (i := 1) rfl
theorem q_X9_numberAt_2 : Cond.fieldLink RX9 42 "LivingNumbers" "fewest" "LLivingNumbers$Fewest;" ∈ wsX9_numberAt := List.mem_of_getElem? (i := 2) rfl
theorem hv_X4_greatestStep : yX4_greatestStep.cls = RX4 ∧ yX4_greatestStep.cls ≠ "java/lang/invoke/MethodHandle" ∧ yX4_greatestStep.cls ≠ "java/lang/invoke/VarHandle" ∧ (parseMethodDescriptor yX4_greatestStep.desc).map (fun d => d.parameters.length) = some 4 := by decide +kernel
theorem i_X9_bargainsSaid_9 : ∀ w ∈ u_ws RX9 TX9 8, w ∈ wsX9_bargainsSaid := fun w h => List.mem_cons_of_mem _ (List.mem_append_left _ (List.mem_append_left _ (List.mem_append_right _ h)))
theorem q_X9_bargainsSaid_1 : Cond.fieldLink RX9 42 "LivingNumbers" "fewest" "LLivingNumbers$Fewest;" ∈ wsX9_bargainsSaid := List.mem_of_getElem? (i := 1) rfl
theorem q_X9_bargainsSaid_2 : Cond.fieldLink RX9 12 "LivingNumbers" "sheets" "LLivingNumbers$Sheets;" ∈ wsX9_bargainsSaid := List.mem_of_getElem? (i := 2) rfl
theorem hv_X0_withinByOne : yX0_withinByOne.cls = RX0 ∧ yX0_withinByOne.cls ≠ "java/lang/invoke/MethodHandle" ∧ yX0_withinByOne.cls ≠ "java/lang/invoke/VarHandle" ∧ (parseMethodDescriptor yX0_withinByOne.desc).map (fun d => d.parameters.length) = some 3 := by decide +kernel
set_option maxHeartbeats 1000000 in
set_option maxRecDepth 20000 in
theorem c_X9_isVillage (l : Launch) (E : zE) (v : Int) (h_v : -2147483648 ≤ v ∧ v ≤ 2147483647) : zRi l E yX9_isVillage wsX9_isVillage (zr 1 0 0) [.int (jI (v))] (fun _ => True) (fun r => (r = 1 ∧ (0 ≤ v ∧ v ≤ 1)) ∨ (r = 0 ∧ ¬ (0 ≤ v ∧ v ≤ 1))) := by
  refine zRz_of (own := RX9) (cc := cX9_isVillage) (maxL := 1) (by decide) rfl (Nat.le_of_ble_eq_true rfl) rfl ?_
  intro p e s m args below meth c Q S hK hP hQ ls hl
  have hl : lv_has ls 1 [(0, .int (jI (v)))] := hl
  refine lv_iload_n S.1 S.2.1 dX9_isVillage_0 rfl (lv_at hl 0 rfl) ?_
  refine z_if_lt (tgt := 13) S dX9_isVillage_1 (by decide) (by omega) (fun c_1 => ?_) (fun c_1 => ?_)
  · skip
    refine z_iconst S dX9_isVillage_13 ?_
    exact hQ (0) (by omega) (by omega) _ _ dX9_isVillage_14
  · skip
    refine lv_iload_n S.1 S.2.1 dX9_isVillage_4 rfl (lv_at hl 0 rfl) ?_
    refine z_iconst S dX9_isVillage_5 ?_
    refine z_icmp_ge (tgt := 13) S dX9_isVillage_6 (by decide) (by omega) (fun c_6 => ?_) (fun c_6 => ?_)
    · skip
      refine z_iconst S dX9_isVillage_13 ?_
      exact hQ (0) (by omega) (by omega) _ _ dX9_isVillage_14
    · skip
      refine z_iconst S dX9_isVillage_9 ?_
      refine z_goto (tgt := 14) S dX9_isVillage_10 (by decide) ?_
      exact hQ (1) (by omega) (by omega) _ _ dX9_isVillage_14

set_option maxHeartbeats 1000000 in
set_option maxRecDepth 20000 in
theorem c_X9_isDay (l : Launch) (E : zE) (d : Int) (h_d : -2147483648 ≤ d ∧ d ≤ 2147483647) : zRi l E yX9_isDay wsX9_isDay (zr 1 0 0) [.int (jI (d))] (fun _ => True) (fun r => (r = 1 ∧ (0 ≤ d ∧ d ≤ 109)) ∨ (r = 0 ∧ ¬ (0 ≤ d ∧ d ≤ 109))) := by
  refine zRz_of (own := RX9) (cc := cX9_isDay) (maxL := 1) (by decide) rfl (Nat.le_of_ble_eq_true rfl) rfl ?_
  intro p e s m args below meth c Q S hK hP hQ ls hl
  have hl : lv_has ls 1 [(0, .int (jI (d)))] := hl
  refine lv_iload_n S.1 S.2.1 dX9_isDay_0 rfl (lv_at hl 0 rfl) ?_
  refine z_if_lt (tgt := 14) S dX9_isDay_1 (by decide) (by omega) (fun c_1 => ?_) (fun c_1 => ?_)
  · skip
    refine z_iconst S dX9_isDay_14 ?_
    exact hQ (0) (by omega) (by omega) _ _ dX9_isDay_15
  · skip
    refine lv_iload_n S.1 S.2.1 dX9_isDay_4 rfl (lv_at hl 0 rfl) ?_
    refine z_bipush S (by decide +kernel) dX9_isDay_5 ?_
    refine z_icmp_ge (tgt := 14) S dX9_isDay_7 (by decide) (by omega) (fun c_7 => ?_) (fun c_7 => ?_)
    · skip
      refine z_iconst S dX9_isDay_14 ?_
      exact hQ (0) (by omega) (by omega) _ _ dX9_isDay_15
    · skip
      refine z_iconst S dX9_isDay_10 ?_
      refine z_goto (tgt := 15) S dX9_isDay_11 (by decide) ?_
      exact hQ (1) (by omega) (by omega) _ _ dX9_isDay_15

set_option maxHeartbeats 1000000 in
set_option maxRecDepth 20000 in
theorem c_X9_isQuantity (l : Launch) (E : zE) (q : Int) (h_q : -2147483648 ≤ q ∧ q ≤ 2147483647) : zRi l E yX9_isQuantity wsX9_isQuantity (zr 1 0 0) [.int (jI (q))] (fun _ => True) (fun r => (r = 1 ∧ (0 ≤ q ∧ q ≤ 999)) ∨ (r = 0 ∧ ¬ (0 ≤ q ∧ q ≤ 999))) := by
  refine zRz_of (own := RX9) (cc := cX9_isQuantity) (maxL := 1) (by decide) rfl (Nat.le_of_ble_eq_true rfl) rfl ?_
  intro p e s m args below meth c Q S hK hP hQ ls hl
  have hl : lv_has ls 1 [(0, .int (jI (q)))] := hl
  refine lv_iload_n S.1 S.2.1 dX9_isQuantity_0 rfl (lv_at hl 0 rfl) ?_
  refine z_if_lt (tgt := 15) S dX9_isQuantity_1 (by decide) (by omega) (fun c_1 => ?_) (fun c_1 => ?_)
  · skip
    refine z_iconst S dX9_isQuantity_15 ?_
    exact hQ (0) (by omega) (by omega) _ _ dX9_isQuantity_16
  · skip
    refine lv_iload_n S.1 S.2.1 dX9_isQuantity_4 rfl (lv_at hl 0 rfl) ?_
    refine z_sipush S (by decide +kernel) dX9_isQuantity_5 ?_
    refine z_icmp_ge (tgt := 15) S dX9_isQuantity_8 (by decide) (by omega) (fun c_8 => ?_) (fun c_8 => ?_)
    · skip
      refine z_iconst S dX9_isQuantity_15 ?_
      exact hQ (0) (by omega) (by omega) _ _ dX9_isQuantity_16
    · skip
      refine z_iconst S dX9_isQuantity_11 ?_
      refine z_goto (tgt := 16) S dX9_isQuantity_12 (by decide) ?_
      exact hQ (1) (by omega) (by omega) _ _ dX9_isQuantity_16

set_option maxHeartbeats 1000000 in
set_option maxRecDepth 20000 in
theorem c_X9_isWords (l : Launch) (E : zE) (w : Int) (h_w : -2147483648 ≤ w ∧ w ≤ 2147483647) : zRi l E yX9_isWords wsX9_isWords (zr 1 0 0) [.int (jI (w))] (fun _ => True) (fun r => (r = 1 ∧ (1 ≤ w ∧ w ≤ 9)) ∨ (r = 0 ∧ ¬ (1 ≤ w ∧ w ≤ 9))) := by
  refine zRz_of (own := RX9) (cc := cX9_isWords) (maxL := 1) (by decide) rfl (Nat.le_of_ble_eq_true rfl) rfl ?_
  intro p e s m args below meth c Q S hK hP hQ ls hl
  have hl : lv_has ls 1 [(0, .int (jI (w)))] := hl
  refine lv_iload_n S.1 S.2.1 dX9_isWords_0 rfl (lv_at hl 0 rfl) ?_
  refine z_iconst S dX9_isWords_1 ?_
  refine z_icmp_lt (tgt := 15) S dX9_isWords_2 (by decide) (by omega) (fun c_2 => ?_) (fun c_2 => ?_)
  · skip
    refine z_iconst S dX9_isWords_15 ?_
    exact hQ (0) (by omega) (by omega) _ _ dX9_isWords_16
  · skip
    refine lv_iload_n S.1 S.2.1 dX9_isWords_5 rfl (lv_at hl 0 rfl) ?_
    refine z_bipush S (by decide +kernel) dX9_isWords_6 ?_
    refine z_icmp_gt (tgt := 15) S dX9_isWords_8 (by decide) (by omega) (fun c_8 => ?_) (fun c_8 => ?_)
    · skip
      refine z_iconst S dX9_isWords_15 ?_
      exact hQ (0) (by omega) (by omega) _ _ dX9_isWords_16
    · skip
      refine z_iconst S dX9_isWords_11 ?_
      refine z_goto (tgt := 16) S dX9_isWords_12 (by decide) ?_
      exact hQ (1) (by omega) (by omega) _ _ dX9_isWords_16

set_option maxHeartbeats 1000000 in
set_option maxRecDepth 20000 in
theorem c_X9_isSheet (l : Launch) (E : zE) (k : Int) (h_k : -2147483648 ≤ k ∧ k ≤ 2147483647) : zRi l E yX9_isSheet wsX9_isSheet (zr 1 0 0) [.int (jI (k))] (fun _ => True) (fun r => (r = 1 ∧ (0 ≤ k ∧ k ≤ 3)) ∨ (r = 0 ∧ ¬ (0 ≤ k ∧ k ≤ 3))) := by
  refine zRz_of (own := RX9) (cc := cX9_isSheet) (maxL := 1) (by decide) rfl (Nat.le_of_ble_eq_true rfl) rfl ?_
  intro p e s m args below meth c Q S hK hP hQ ls hl
  have hl : lv_has ls 1 [(0, .int (jI (k)))] := hl
  refine lv_iload_n S.1 S.2.1 dX9_isSheet_0 rfl (lv_at hl 0 rfl) ?_
  refine z_if_lt (tgt := 13) S dX9_isSheet_1 (by decide) (by omega) (fun c_1 => ?_) (fun c_1 => ?_)
  · skip
    refine z_iconst S dX9_isSheet_13 ?_
    exact hQ (0) (by omega) (by omega) _ _ dX9_isSheet_14
  · skip
    refine lv_iload_n S.1 S.2.1 dX9_isSheet_4 rfl (lv_at hl 0 rfl) ?_
    refine z_iconst S dX9_isSheet_5 ?_
    refine z_icmp_ge (tgt := 13) S dX9_isSheet_6 (by decide) (by omega) (fun c_6 => ?_) (fun c_6 => ?_)
    · skip
      refine z_iconst S dX9_isSheet_13 ?_
      exact hQ (0) (by omega) (by omega) _ _ dX9_isSheet_14
    · skip
      refine z_iconst S dX9_isSheet_9 ?_
      refine z_goto (tgt := 14) S dX9_isSheet_10 (by decide) ?_
      exact hQ (1) (by omega) (by omega) _ _ dX9_isSheet_14

set_option maxHeartbeats 1000000 in
set_option maxRecDepth 20000 in
theorem c_X9_isLane (l : Launch) (E : zE) (k : Int) (h_k : -2147483648 ≤ k ∧ k ≤ 2147483647) : zRi l E yX9_isLane wsX9_isLane (zr 1 0 0) [.int (jI (k))] (fun _ => True) (fun r => (r = 1 ∧ (0 ≤ k ∧ k ≤ 2)) ∨ (r = 0 ∧ ¬ (0 ≤ k ∧ k ≤ 2))) := by
  refine zRz_of (own := RX9) (cc := cX9_isLane) (maxL := 1) (by decide) rfl (Nat.le_of_ble_eq_true rfl) rfl ?_
  intro p e s m args below meth c Q S hK hP hQ ls hl
  have hl : lv_has ls 1 [(0, .int (jI (k)))] := hl
  refine lv_iload_n S.1 S.2.1 dX9_isLane_0 rfl (lv_at hl 0 rfl) ?_
  refine z_if_lt (tgt := 13) S dX9_isLane_1 (by decide) (by omega) (fun c_1 => ?_) (fun c_1 => ?_)
  · skip
    refine z_iconst S dX9_isLane_13 ?_
    exact hQ (0) (by omega) (by omega) _ _ dX9_isLane_14
  · skip
    refine lv_iload_n S.1 S.2.1 dX9_isLane_4 rfl (lv_at hl 0 rfl) ?_
    refine z_iconst S dX9_isLane_5 ?_
    refine z_icmp_ge (tgt := 13) S dX9_isLane_6 (by decide) (by omega) (fun c_6 => ?_) (fun c_6 => ?_)
    · skip
      refine z_iconst S dX9_isLane_13 ?_
      exact hQ (0) (by omega) (by omega) _ _ dX9_isLane_14
    · skip
      refine z_iconst S dX9_isLane_9 ?_
      refine z_goto (tgt := 14) S dX9_isLane_10 (by decide) ?_
      exact hQ (1) (by omega) (by omega) _ _ dX9_isLane_14

set_option maxHeartbeats 1000000 in
set_option maxRecDepth 20000 in
theorem c_X9_reduced (l : Launch) (E : zE) (x : Int) (y : Int) (hx : 0 ≤ x ∧ x ≤ 99) (hy : 0 ≤ y ∧ y ≤ 99) (hp : 0 < x ∨ 0 < y) : zRi l E yX9_reduced wsX9_reduced (zr 1 0 0) [.int (jI (x)), .int (jI (y))] (fun _ => True) (fun r => r = x / ((Int.gcd x y : Nat) : Int)) := by
  refine zRi_of (own := RX9) (cc := cX9_reduced) (maxL := 3) (by decide) rfl (Nat.le_of_ble_eq_true rfl) rfl ?_
  intro p e s m args below meth c Q S hK hP hQ ls hl
  have hl : lv_has ls 3 [(0, .int (jI (x))), (1, .int (jI (y)))] := hl
  refine z_bipush S (by decide +kernel) dX9_reduced_0 ?_
  refine lv_istore_n (lv' := [(2, .int (jI (99))), (0, .int (jI (x))), (1, .int (jI (y)))]) S.1 S.2.1 dX9_reduced_2 rfl hl (by decide) rfl (fun ls hl => ?_)
  suffices HL_1 : ∀ (n_2 : Nat) (z : Int), (z).toNat < n_2 → (1 ≤ z ∧ z ≤ 99) → (∀ t, z < t → t ≤ 99 → ¬ (x % t = 0 ∧ y % t = 0)) → ∀ (ls : Array Slot), lv_has ls 3 [(2, .int (jI (z))), (0, .int (jI (x))), (1, .int (jI (y)))] → W p l e (zr 1 0 0) s m args below meth c s.heap [] 0 0 Q (F0 m 3 ls []) from
    HL_1 _ 99 (Nat.lt_succ_self _) (by omega) (fun t q1 q2 => absurd q1 (by omega)) ls (lv_sub hl [0, 1, 2] rfl)
  intro n_2
  induction n_2 with
  | zero => intro z hm hz hno; exact absurd hm (Nat.not_lt_zero _)
  | succ n_2 ih_3 =>
    intro z hm hz hno ls hl
    refine lv_iload_n S.1 S.2.1 dX9_reduced_3 rfl (lv_at hl 0 rfl) ?_
    refine z_iconst S dX9_reduced_4 ?_
    refine z_icmp_le (tgt := 30) S dX9_reduced_5 (by decide) (by omega) (fun c_5 => ?_) (fun c_5 => ?_)
    · skip
      refine lv_iload_n S.1 S.2.1 dX9_reduced_30 rfl (lv_at hl 1 rfl) ?_
      exact hQ (x) (by rw [zgcd_hit (d := 1) hx hy hp (by omega) (Int.emod_one x) (Int.emod_one y) (fun t q1 q2 => hno t (by omega) q2), Int.ediv_one]) _ _ dX9_reduced_31
    · skip
      have hm1 := Int.emod_nonneg x (show z ≠ 0 by omega)
      have hm2 := Int.emod_lt_of_pos x (show 0 < z by omega)
      refine lv_iload_n S.1 S.2.1 dX9_reduced_8 rfl (lv_at hl 1 rfl) ?_
      refine lv_iload_n S.1 S.2.1 dX9_reduced_9 rfl (lv_at hl 0 rfl) ?_
      refine z_irem S (by omega) (by omega) dX9_reduced_10 ?_
      refine z_if_ne (tgt := 24) S dX9_reduced_11 (by decide) (by omega) (fun c_11 => ?_) (fun c_11 => ?_)
      · skip
        refine z_iinc (lv' := [(2, .int (jI (z + (-1)))), (0, .int (jI (x))), (1, .int (jI (y)))]) S hl (k := 0) rfl (by decide) rfl dX9_reduced_24 (fun ls hl => ?_)
        refine z_goto (tgt := 3) S dX9_reduced_27 (by decide) ?_
        exact ih_3 (z + (-1)) (by omega) (by omega) (fun t q1 q2 => (show t = z ∨ z < t by omega).elim (fun e => by rw [e]; intro q; omega) (fun e => hno t e q2)) ls (lv_sub hl [0, 1, 2] rfl)
      · skip
        have hm3 := Int.emod_nonneg y (show z ≠ 0 by omega)
        have hm4 := Int.emod_lt_of_pos y (show 0 < z by omega)
        refine lv_iload_n S.1 S.2.1 dX9_reduced_14 rfl (lv_at hl 2 rfl) ?_
        refine lv_iload_n S.1 S.2.1 dX9_reduced_15 rfl (lv_at hl 0 rfl) ?_
        refine z_irem S (by omega) (by omega) dX9_reduced_16 ?_
        refine z_if_ne (tgt := 24) S dX9_reduced_17 (by decide) (by omega) (fun c_17 => ?_) (fun c_17 => ?_)
        · skip
          refine z_iinc (lv' := [(2, .int (jI (z + (-1)))), (0, .int (jI (x))), (1, .int (jI (y)))]) S hl (k := 0) rfl (by decide) rfl dX9_reduced_24 (fun ls hl => ?_)
          refine z_goto (tgt := 3) S dX9_reduced_27 (by decide) ?_
          exact ih_3 (z + (-1)) (by omega) (by omega) (fun t q1 q2 => (show t = z ∨ z < t by omega).elim (fun e => by rw [e]; intro q; omega) (fun e => hno t e q2)) ls (lv_sub hl [0, 1, 2] rfl)
        · skip
          refine lv_iload_n S.1 S.2.1 dX9_reduced_20 rfl (lv_at hl 1 rfl) ?_
          refine lv_iload_n S.1 S.2.1 dX9_reduced_21 rfl (lv_at hl 0 rfl) ?_
          refine z_idiv S (by omega) (by omega) dX9_reduced_22 ?_
          exact hQ (x / z) (by rw [zgcd_hit hx hy hp (by omega) (by omega) (by omega) hno]) _ _ dX9_reduced_23

set_option maxHeartbeats 1000000 in
set_option maxRecDepth 20000 in
theorem c_X9_faulted (l : Launch) (E : zE) (ac : Nat → Nat) (flt : Int) (ce la si : Int → Int) (ln : Int) (co : Int → Int) (n : Int) (on : Nat → Option Nat) (tr : Int) (fw cw ch nm : Int → Int) (f : Int) : zMi l E yX9_faulted wsX9_faulted (zr 1 0 0) [.ref (ac 0), .int (jI (f))] (cW E ac flt ce la si ln co n on tr fw cw ch nm) (fun _ => True) (fun r (u : Unit) => r = -10 - f) (fun (u : Unit) => cW E ac f ce la si ln co n on tr fw cw ch nm) 0 0 := by
  refine zMi_of (own := RX9) (cc := cX9_faulted) (maxL := 2) (by decide) rfl (Nat.le_of_ble_eq_true rfl) rfl ?_
  intro p e s m args below meth c Q A S hK hA hS hP hD hAe hG hQ ls hl
  have hl : lv_has ls 2 [(0, .ref (ac 0)), (1, .int (jI (f)))] := hl
  refine lv_aload_n S.1 S.2.1 dX9_faulted_0 rfl (lv_at hl 0 rfl) ?_
  refine lv_iload_n S.1 S.2.1 dX9_faulted_1 rfl (lv_at hl 1 rfl) ?_
  refine z_puti S hK hP hD hS 0 rfl rfl 7 (by decide) i_X9_faulted_9 q_X9_faulted_1 tyX9 tyX9_ok nmX9 rfl (by decide +kernel) (Nat.le_of_ble_eq_true rfl) dX9_faulted_2 (fun H locs hP hD hS => ?_)
  have hP : zP E (cW E ac f ce la si ln co n on tr fw cw ch nm) H := hP
  have hD : va_D A (cW E ac f ce la si ln co n on tr fw cw ch nm) := hD
  refine z_bipush S (by decide +kernel) dX9_faulted_5 ?_
  refine lv_iload_n S.1 S.2.1 dX9_faulted_7 rfl (lv_at hl 1 rfl) ?_
  refine z_isub S dX9_faulted_8 ?_
  exact hQ ((-10) - f) (()) _ _ (by omega) hP hD hS _ _ dX9_faulted_9

set_option maxHeartbeats 1000000 in
set_option maxRecDepth 20000 in
theorem c_X9_faultAs (l : Launch) (E : zE) (ac : Nat → Nat) (flt : Int) (ce la si : Int → Int) (ln : Int) (co : Int → Int) (n : Int) (on : Nat → Option Nat) (tr : Int) (fw cw ch nm : Int → Int) (k : Int) (lane : Int) (ss : Int → Int) (sl : Int → Int) (hk : 0 ≤ k ∧ k ≤ 3) (hlane : 0 ≤ lane ∧ lane ≤ 2) (hrel : zRel la si ss sl) : zRi l E yX9_faultAs wsX9_faultAs (zr 3 0 0) [.ref (ac 0), .int (jI (k)), .int (jI (lane))] (fun H => zP E (cW E ac flt ce la si ln co n on tr fw cw ch nm) H) (fun r => (la k = -1 ∧ r = 1) ∨ ((la k ≠ -1 ∧ la k = lane) ∧ r = 0) ∨ ((la k ≠ -1 ∧ la k ≠ lane) ∧ r = 2)) := by
  refine zRi_of (own := RX9) (cc := cX9_faultAs) (maxL := 3) (by decide) rfl (Nat.le_of_ble_eq_true rfl) rfl ?_
  intro p e s m args below meth c Q S hK hP hQ ls hl
  have hl : lv_has ls 3 [(0, .ref (ac 0)), (1, .int (jI (k))), (2, .int (jI (lane)))] := hl
  have hls := zRel_ls hrel
  refine lv_aload_n S.1 S.2.1 dX9_faultAs_0 rfl (lv_at hl 0 rfl) ?_
  refine z_get S hK hP 0 rfl rfl 0 (by decide) i_X9_faultAs_9 q_X9_faultAs_1 rfl dX9_faultAs_1 ?_
  refine lv_iload_n S.1 S.2.1 dX9_faultAs_4 rfl (lv_at hl 1 rfl) ?_
  refine z_ri (z_rV S hK (c_X7_hasRow l E (ac 1) (ac 2) (ac 3) (ac 4) ce la si k (by omega) (hls)) gX9_faultAs_X7_hasRow rfl hv_X7_hasRow ⟨Nat.le_of_ble_eq_true rfl, Nat.le_of_ble_eq_true rfl⟩ (va_recv hK hP (ci := 7) (q0 := 1) rfl rfl) (hP.sub [1, 2, 3, 4] rfl) hl.1 rfl (Nat.le_of_ble_eq_true rfl) ⟨by decide, by decide⟩ rfl dX9_faultAs_5) (fun r_5 h_5 => ?_)
  refine z_if_ne (tgt := 13) S dX9_faultAs_8 (by decide) (by omega) (fun c_8 => ?_) (fun c_8 => ?_)
  · skip
    refine lv_aload_n S.1 S.2.1 dX9_faultAs_13 rfl (lv_at hl 0 rfl) ?_
    refine z_get S hK hP 0 rfl rfl 0 (by decide) i_X9_faultAs_9 q_X9_faultAs_1 rfl dX9_faultAs_14 ?_
    refine lv_iload_n S.1 S.2.1 dX9_faultAs_17 rfl (lv_at hl 1 rfl) ?_
    refine z_ri (z_rV S hK (c_X7_laneOf l E (ac 1) (ac 2) (ac 3) (ac 4) ce la si k (by omega)) gX9_faultAs_X7_laneOf rfl hv_X7_laneOf ⟨Nat.le_of_ble_eq_true rfl, Nat.le_of_ble_eq_true rfl⟩ (va_recv hK hP (ci := 7) (q0 := 1) rfl rfl) (hP.sub [1, 2, 3, 4] rfl) hl.1 rfl (Nat.le_of_ble_eq_true rfl) ⟨by decide, by decide⟩ rfl dX9_faultAs_18) (fun r_18 h_18 => ?_)
    rw [h_18]
    have hl2 := hls k (by omega) (by omega)
    refine lv_iload_n S.1 S.2.1 dX9_faultAs_21 rfl (lv_at hl 2 rfl) ?_
    refine z_icmp_ne (tgt := 29) S dX9_faultAs_22 (by decide) (by omega) (fun c_22 => ?_) (fun c_22 => ?_)
    · skip
      refine z_iconst S dX9_faultAs_29 ?_
      exact hQ (2) (by omega) _ _ dX9_faultAs_30
    · skip
      refine z_iconst S dX9_faultAs_25 ?_
      refine z_goto (tgt := 30) S dX9_faultAs_26 (by decide) ?_
      exact hQ (0) (by omega) _ _ dX9_faultAs_30
  · skip
    refine z_iconst S dX9_faultAs_11 ?_
    exact hQ (1) (by omega) _ _ dX9_faultAs_12

set_option maxHeartbeats 1000000 in
set_option maxRecDepth 20000 in
theorem c_X9_refusalOfCells (l : Launch) (E : zE) (ac : Nat → Nat) (flt : Int) (ce la si : Int → Int) (ln : Int) (co : Int → Int) (n : Int) (on : Nat → Option Nat) (tr : Int) (fw cw ch nm : Int → Int) (v : Int) (k : Int) (ot : Int) (lane : Int) (i : Int) (cn : Int) (ss : Int → Int) (sl : Int → Int) (h_v : -2147483648 ≤ v ∧ v ≤ 2147483647) (h_k : -2147483648 ≤ k ∧ k ≤ 2147483647) (h_lane : -2147483648 ≤ lane ∧ lane ≤ 2147483647) (h_i : -2147483648 ≤ i ∧ i ≤ 2147483647) (h_cn : -2147483648 ≤ cn ∧ cn ≤ 2147483647) (hot : ot = 0 ∨ ot = 1) (hrel : zRel la si ss sl) : zMi l E yX9_refusalOfCells wsX9_refusalOfCells (zr 5 0 0) [.ref (ac 0), .int (jI (v)), .int (jI (k)), .int (jI (ot)), .int (jI (lane)), .int (jI (i)), .int (jI (cn))] (cW E ac flt ce la si ln co n on tr fw cw ch nm) (fun _ => True) (fun r (u : Int) => ((v < 0 ∨ 1 < v) ∧ r = -1 ∧ u = 0) ∨ ((0 ≤ v ∧ v ≤ 1) ∧ zBar ss sl k lane i cn (ot = 0) r u)) (fun (u : Int) => cW E ac u ce la si ln co n on tr fw cw ch nm) 0 0 := by
  refine zMi_of (own := RX9) (cc := cX9_refusalOfCells) (maxL := 8) (by decide) rfl (Nat.le_of_ble_eq_true rfl) rfl ?_
  intro p e s m args below meth c Q A S hK hA hS hP hD hAe hG hQ ls hl
  have hl : lv_has ls 8 [(0, .ref (ac 0)), (1, .int (jI (v))), (2, .int (jI (k))), (3, .int (jI (ot))), (4, .int (jI (lane))), (5, .int (jI (i))), (6, .int (jI (cn)))] := hl
  have hls := zRel_ls hrel
  refine lv_aload_n S.1 S.2.1 dX9_refusalOfCells_0 rfl (lv_at hl 0 rfl) ?_
  refine z_iconst S dX9_refusalOfCells_1 ?_
  refine z_puti S hK hP hD hS 0 rfl rfl 7 (by decide) i_X9_refusalOfCells_9 q_X9_refusalOfCells_1 tyX9 tyX9_ok nmX9 rfl (by decide +kernel) (Nat.le_of_ble_eq_true rfl) dX9_refusalOfCells_2 (fun H locs hP hD hS => ?_)
  have hP : zP E (cW E ac 0 ce la si ln co n on tr fw cw ch nm) H := hP
  have hD : va_D A (cW E ac 0 ce la si ln co n on tr fw cw ch nm) := hD
  refine lv_iload_n S.1 S.2.1 dX9_refusalOfCells_5 rfl (lv_at hl 1 rfl) ?_
  refine z_ri (z_rS S hK (c_X9_isVillage l E v (by omega)) gX9_refusalOfCells_X9_isVillage rfl hs_X9_isVillage ⟨Nat.le_of_ble_eq_true rfl, Nat.le_of_ble_eq_true rfl⟩ trivial hl.1 rfl (Nat.le_of_ble_eq_true rfl) ⟨by decide, by decide⟩ rfl dX9_refusalOfCells_6) (fun r_6 h_6 => ?_)
  refine z_if_eq (tgt := 19) S dX9_refusalOfCells_9 (by decide) (by omega) (fun c_9 => ?_) (fun c_9 => ?_)
  · skip
    refine z_iconst S dX9_refusalOfCells_19 ?_
    exact hQ (-1) (0) _ _ (by first | exact Or.inl ⟨by omega, rfl, rfl⟩ | exact Or.inr ⟨by omega, zBar_k (by omega)⟩) hP hD hS _ _ dX9_refusalOfCells_20
  · skip
    refine lv_iload_n S.1 S.2.1 dX9_refusalOfCells_12 rfl (lv_at hl 2 rfl) ?_
    refine z_ri (z_rS S hK (c_X9_isSheet l E k (by omega)) gX9_refusalOfCells_X9_isSheet rfl hs_X9_isSheet ⟨Nat.le_of_ble_eq_true rfl, Nat.le_of_ble_eq_true rfl⟩ trivial hl.1 rfl (Nat.le_of_ble_eq_true rfl) ⟨by decide, by decide⟩ rfl dX9_refusalOfCells_13) (fun r_13 h_13 => ?_)
    refine z_if_ne (tgt := 21) S dX9_refusalOfCells_16 (by decide) (by omega) (fun c_16 => ?_) (fun c_16 => ?_)
    · skip
      refine lv_iload_n S.1 S.2.1 dX9_refusalOfCells_21 rfl (lv_at hl 3 rfl) ?_
      refine z_if_ne (tgt := 33) S dX9_refusalOfCells_22 (by decide) (by omega) (fun c_22 => ?_) (fun c_22 => ?_)
      · skip
        refine z_bipush S (by decide +kernel) dX9_refusalOfCells_33 ?_
        exact hQ (-2) (0) _ _ (Or.inr ⟨by omega, zBar_o (by omega) (by omega)⟩) hP hD hS _ _ dX9_refusalOfCells_35
      · skip
        refine lv_iload S.1 S.2.1 dX9_refusalOfCells_25 (lv_at hl 4 rfl) ?_
        refine z_ri (z_rS S hK (c_X9_isLane l E lane (by omega)) gX9_refusalOfCells_X9_isLane rfl hs_X9_isLane ⟨Nat.le_of_ble_eq_true rfl, Nat.le_of_ble_eq_true rfl⟩ trivial hl.1 rfl (Nat.le_of_ble_eq_true rfl) ⟨by decide, by decide⟩ rfl dX9_refusalOfCells_27) (fun r_27 h_27 => ?_)
        refine z_if_ne (tgt := 36) S dX9_refusalOfCells_30 (by decide) (by omega) (fun c_30 => ?_) (fun c_30 => ?_)
        · skip
          have hrk := hrel k (by omega) (by omega)
          refine lv_aload_n S.1 S.2.1 dX9_refusalOfCells_36 rfl (lv_at hl 0 rfl) ?_
          refine lv_iload_n S.1 S.2.1 dX9_refusalOfCells_37 rfl (lv_at hl 2 rfl) ?_
          refine lv_iload S.1 S.2.1 dX9_refusalOfCells_38 (lv_at hl 4 rfl) ?_
          refine z_ri (z_rV S hK (c_X9_faultAs l E ac 0 ce la si ln co n on tr fw cw ch nm k lane ss sl (by omega) (by omega) (hrel)) gX9_refusalOfCells_X9_faultAs rfl hv_X9_faultAs ⟨Nat.le_of_ble_eq_true rfl, Nat.le_of_ble_eq_true rfl⟩ (va_recv hK hP (ci := 9) (q0 := 0) rfl rfl) hP hl.1 rfl (Nat.le_of_ble_eq_true rfl) ⟨by decide, by decide⟩ rfl dX9_refusalOfCells_40) (fun r_40 h_40 => ?_)
          refine lv_istore (lv' := [(7, .int (jI (r_40))), (0, .ref (ac 0)), (1, .int (jI (v))), (2, .int (jI (k))), (3, .int (jI (ot))), (4, .int (jI (lane))), (5, .int (jI (i))), (6, .int (jI (cn)))]) S.1 S.2.1 dX9_refusalOfCells_43 hl (by decide) rfl (fun ls hl => ?_)
          refine lv_iload S.1 S.2.1 dX9_refusalOfCells_45 (lv_at hl 0 rfl) ?_
          refine z_if_eq (tgt := 57) S dX9_refusalOfCells_47 (by decide) (by omega) (fun c_47 => ?_) (fun c_47 => ?_)
          · skip
            refine lv_iload S.1 S.2.1 dX9_refusalOfCells_57 (lv_at hl 7 rfl) ?_
            refine z_if_ge (tgt := 68) S dX9_refusalOfCells_59 (by decide) (by omega) (fun c_59 => ?_) (fun c_59 => ?_)
            · skip
              refine lv_aload_n S.1 S.2.1 dX9_refusalOfCells_68 rfl (lv_at hl 1 rfl) ?_
              refine z_get S hK hP 0 rfl rfl 0 (by decide) i_X9_refusalOfCells_9 q_X9_refusalOfCells_2 rfl dX9_refusalOfCells_69 ?_
              refine lv_iload_n S.1 S.2.1 dX9_refusalOfCells_72 rfl (lv_at hl 3 rfl) ?_
              refine lv_iload S.1 S.2.1 dX9_refusalOfCells_73 (lv_at hl 6 rfl) ?_
              refine lv_iload S.1 S.2.1 dX9_refusalOfCells_75 (lv_at hl 7 rfl) ?_
              refine z_ri (z_rV S hK (c_X7_hasCells l E (ac 1) (ac 2) (ac 3) (ac 4) ce la si k i cn (by omega) (by omega) (by omega) (hls)) gX9_refusalOfCells_X7_hasCells rfl hv_X7_hasCells ⟨Nat.le_of_ble_eq_true rfl, Nat.le_of_ble_eq_true rfl⟩ (va_recv hK hP (ci := 7) (q0 := 1) rfl rfl) (hP.sub [1, 2, 3, 4] rfl) hl.1 rfl (Nat.le_of_ble_eq_true rfl) ⟨by decide, by decide⟩ rfl dX9_refusalOfCells_77) (fun r_77 h_77 => ?_)
              refine z_if_eq (tgt := 87) S dX9_refusalOfCells_80 (by decide) (by omega) (fun c_80 => ?_) (fun c_80 => ?_)
              · skip
                refine lv_aload_n S.1 S.2.1 dX9_refusalOfCells_87 rfl (lv_at hl 1 rfl) ?_
                refine z_iconst S dX9_refusalOfCells_88 ?_
                refine z_miw (z_mV S hK (c_X9_faulted l E ac 0 ce la si ln co n on tr fw cw ch nm 3 _) gX9_refusalOfCells_X9_faulted rfl hv_X9_faulted ⟨Nat.le_of_ble_eq_true rfl, Nat.le_of_ble_eq_true rfl⟩ (va_recv hK hP (ci := 9) (q0 := 0) rfl rfl) hP hD trivial hl.1 rfl (Nat.le_of_ble_eq_true rfl) ⟨by decide, by decide⟩ rfl dX9_refusalOfCells_89) hD hS hA (fun r_89 u H locs h_89 hP hD hS => ?_)
                rw [h_89]
                have hP : zP E (cW E ac 3 ce la si ln co n on tr fw cw ch nm) H := hP
                have hD : va_D A (cW E ac 3 ce la si ln co n on tr fw cw ch nm) := hD
                exact hQ (-10 - 3) (3) _ _ (Or.inr ⟨by omega, by first | exact zBar_0 (by omega) (by omega) (by omega) (by omega) (by omega) | exact zBar_i (by omega) (by omega) (by omega) (by omega) (by omega)⟩) hP hD hS _ _ dX9_refusalOfCells_92
              · skip
                refine z_iconst S dX9_refusalOfCells_83 ?_
                refine z_goto (tgt := 92) S dX9_refusalOfCells_84 (by decide) ?_
                exact hQ (0) (0) _ _ (Or.inr ⟨by omega, by first | exact zBar_0 (by omega) (by omega) (by omega) (by omega) (by omega) | exact zBar_i (by omega) (by omega) (by omega) (by omega) (by omega)⟩) hP hD hS _ _ dX9_refusalOfCells_92
            · skip
              refine lv_aload_n S.1 S.2.1 dX9_refusalOfCells_62 rfl (lv_at hl 1 rfl) ?_
              refine z_iconst S dX9_refusalOfCells_63 ?_
              refine z_miw (z_mV S hK (c_X9_faulted l E ac 0 ce la si ln co n on tr fw cw ch nm 4 _) gX9_refusalOfCells_X9_faulted rfl hv_X9_faulted ⟨Nat.le_of_ble_eq_true rfl, Nat.le_of_ble_eq_true rfl⟩ (va_recv hK hP (ci := 9) (q0 := 0) rfl rfl) hP hD trivial hl.1 rfl (Nat.le_of_ble_eq_true rfl) ⟨by decide, by decide⟩ rfl dX9_refusalOfCells_64) hD hS hA (fun r_64 u H locs h_64 hP hD hS => ?_)
              rw [h_64]
              have hP : zP E (cW E ac 4 ce la si ln co n on tr fw cw ch nm) H := hP
              have hD : va_D A (cW E ac 4 ce la si ln co n on tr fw cw ch nm) := hD
              exact hQ (-10 - 4) (4) _ _ (Or.inr ⟨by omega, zBar_s (by omega) (by omega) (by omega) (by omega) (by omega)⟩) hP hD hS _ _ dX9_refusalOfCells_67
          · skip
            refine lv_aload_n S.1 S.2.1 dX9_refusalOfCells_50 rfl (lv_at hl 1 rfl) ?_
            refine lv_iload S.1 S.2.1 dX9_refusalOfCells_51 (lv_at hl 0 rfl) ?_
            refine z_miw (z_mV S hK (c_X9_faulted l E ac 0 ce la si ln co n on tr fw cw ch nm r_40 _) gX9_refusalOfCells_X9_faulted rfl hv_X9_faulted ⟨Nat.le_of_ble_eq_true rfl, Nat.le_of_ble_eq_true rfl⟩ (va_recv hK hP (ci := 9) (q0 := 0) rfl rfl) hP hD trivial hl.1 rfl (Nat.le_of_ble_eq_true rfl) ⟨by decide, by decide⟩ rfl dX9_refusalOfCells_53) hD hS hA (fun r_53 u H locs h_53 hP hD hS => ?_)
            rw [h_53]
            have hP : zP E (cW E ac r_40 ce la si ln co n on tr fw cw ch nm) H := hP
            have hD : va_D A (cW E ac r_40 ce la si ln co n on tr fw cw ch nm) := hD
            exact hQ (-10 - r_40) (r_40) _ _ (Or.inr ⟨by omega, zBar_fa hrel (by omega) (by omega) (by omega) h_40 c_47⟩) hP hD hS _ _ dX9_refusalOfCells_56
        · skip
          refine z_bipush S (by decide +kernel) dX9_refusalOfCells_33 ?_
          exact hQ (-2) (0) _ _ (Or.inr ⟨by omega, zBar_o (by omega) (by omega)⟩) hP hD hS _ _ dX9_refusalOfCells_35
    · skip
      refine z_iconst S dX9_refusalOfCells_19 ?_
      exact hQ (-1) (0) _ _ (by first | exact Or.inl ⟨by omega, rfl, rfl⟩ | exact Or.inr ⟨by omega, zBar_k (by omega)⟩) hP hD hS _ _ dX9_refusalOfCells_20

set_option maxHeartbeats 1000000 in
set_option maxRecDepth 20000 in
theorem c_X9_refusalOfRow (l : Launch) (E : zE) (ac : Nat → Nat) (flt : Int) (ce la si : Int → Int) (ln : Int) (co : Int → Int) (n : Int) (on : Nat → Option Nat) (tr : Int) (fw cw ch nm : Int → Int) (v : Int) (k : Int) (ot : Int) (lane : Int) (i : Int) (cn : Int) (ss : Int → Int) (sl : Int → Int) (an : Int → Nat) (h_v : -2147483648 ≤ v ∧ v ≤ 2147483647) (h_k : -2147483648 ≤ k ∧ k ≤ 2147483647) (h_lane : -2147483648 ≤ lane ∧ lane ≤ 2147483647) (h_i : -2147483648 ≤ i ∧ i ≤ 2147483647) (h_cn : -2147483648 ≤ cn ∧ cn ≤ 2147483647) (hot : ot = 0 ∨ ot = 1) (hrel : zRel la si ss sl) (hce : zRg ce) (hp : 0 ≤ n ∧ n ≤ 10) (hon : zOns n on an) : zMi l E yX9_refusalOfRow wsX9_refusalOfRow (zr 6 0 0) [.ref (ac 0), .int (jI (v)), .int (jI (k)), .int (jI (ot)), .int (jI (lane)), .int (jI (i)), .int (jI (cn))] (cW E ac flt ce la si ln co n on tr fw cw ch nm) (fun _ => True) (fun r (u : Int) => zRow n ss sl ce v k lane i cn (ot = 0) r u) (fun (u : Int) => cW E ac u ce la si ln co n on tr fw cw ch nm) 0 0 := by
  refine zMi_of (own := RX9) (cc := cX9_refusalOfRow) (maxL := 9) (by decide) rfl (Nat.le_of_ble_eq_true rfl) rfl ?_
  intro p e s m args below meth c Q A S hK hA hS hP hD hAe hG hQ ls hl
  have hl : lv_has ls 9 [(0, .ref (ac 0)), (1, .int (jI (v))), (2, .int (jI (k))), (3, .int (jI (ot))), (4, .int (jI (lane))), (5, .int (jI (i))), (6, .int (jI (cn)))] := hl
  have hls := zRel_ls hrel
  refine lv_aload_n S.1 S.2.1 dX9_refusalOfRow_0 rfl (lv_at hl 0 rfl) ?_
  refine lv_iload_n S.1 S.2.1 dX9_refusalOfRow_1 rfl (lv_at hl 1 rfl) ?_
  refine lv_iload_n S.1 S.2.1 dX9_refusalOfRow_2 rfl (lv_at hl 2 rfl) ?_
  refine lv_iload_n S.1 S.2.1 dX9_refusalOfRow_3 rfl (lv_at hl 3 rfl) ?_
  refine lv_iload S.1 S.2.1 dX9_refusalOfRow_4 (lv_at hl 4 rfl) ?_
  refine lv_iload S.1 S.2.1 dX9_refusalOfRow_6 (lv_at hl 5 rfl) ?_
  refine lv_iload S.1 S.2.1 dX9_refusalOfRow_8 (lv_at hl 6 rfl) ?_
  refine z_miw (z_mV S hK (c_X9_refusalOfCells l E ac flt ce la si ln co n on tr fw cw ch nm v k ot lane i cn ss sl (by omega) (by omega) (by omega) (by omega) (by omega) (by omega) (hrel) _) gX9_refusalOfRow_X9_refusalOfCells rfl hv_X9_refusalOfCells ⟨Nat.le_of_ble_eq_true rfl, Nat.le_of_ble_eq_true rfl⟩ (va_recv hK hP (ci := 9) (q0 := 0) rfl rfl) hP hD trivial hl.1 rfl (Nat.le_of_ble_eq_true rfl) ⟨by decide, by decide⟩ rfl dX9_refusalOfRow_10) hD hS hA (fun r_10 u H locs h_10 hP hD hS => ?_)
  obtain ⟨u10_flt, u10_flt_e⟩ : ∃ z, z = u := ⟨_, rfl⟩
  subst u10_flt_e
  try dsimp only at h_10
  have hP : zP E (cW E ac u10_flt ce la si ln co n on tr fw cw ch nm) H := hP
  have hD : va_D A (cW E ac u10_flt ce la si ln co n on tr fw cw ch nm) := hD
  have h_10b := zRefs_rng h_10
  refine lv_istore (lv' := [(7, .int (jI (r_10))), (0, .ref (ac 0)), (1, .int (jI (v))), (2, .int (jI (k))), (3, .int (jI (ot))), (4, .int (jI (lane))), (5, .int (jI (i))), (6, .int (jI (cn)))]) S.1 S.2.1 dX9_refusalOfRow_13 hl (by decide) rfl (fun ls hl => ?_)
  refine lv_iload S.1 S.2.1 dX9_refusalOfRow_15 (lv_at hl 0 rfl) ?_
  refine z_if_ge (tgt := 23) S dX9_refusalOfRow_17 (by decide) (by omega) (fun c_17 => ?_) (fun c_17 => ?_)
  · skip
    obtain ⟨okA, okB, okC, okD, okE⟩ := zRefs_ok h_10 (by omega)
    have hrk := hrel k (by omega) (by omega)
    refine lv_iload S.1 S.2.1 dX9_refusalOfRow_23 (lv_at hl 7 rfl) ?_
    refine z_bipush S (by decide +kernel) dX9_refusalOfRow_25 ?_
    refine z_icmp_le (tgt := 33) S dX9_refusalOfRow_27 (by decide) (by omega) (fun c_27 => ?_) (fun c_27 => ?_)
    · skip
      refine z_iconst S dX9_refusalOfRow_33 ?_
      refine lv_istore (lv' := [(8, .int (jI (0))), (7, .int (jI (r_10))), (0, .ref (ac 0)), (1, .int (jI (v))), (2, .int (jI (k))), (3, .int (jI (ot))), (4, .int (jI (lane))), (5, .int (jI (i))), (6, .int (jI (cn)))]) S.1 S.2.1 dX9_refusalOfRow_34 hl (by decide) rfl (fun ls hl => ?_)
      suffices HL_1 : ∀ (n_2 : Nat) (p0 : Int), (cn - p0).toNat < n_2 → (0 ≤ p0 ∧ p0 ≤ cn) → (zPpl n (fun j => ce (100 * k + i + j)) p0) → ∀ (H : Heap) (locs : List Loc), zP E (cW E ac u10_flt ce la si ln co n on tr fw cw ch nm) H → va_D A (cW E ac u10_flt ce la si ln co n on tr fw cw ch nm) → va_S A s.heap H locs → ∀ (ls : Array Slot), lv_has ls 9 [(8, .int (jI (p0))), (0, .ref (ac 0)), (2, .int (jI (k))), (5, .int (jI (i))), (6, .int (jI (cn)))] → W p l e (zr 6 0 0) s m args below meth c H locs 0 0 Q (F0 m 36 ls []) from
        HL_1 _ 0 (Nat.lt_succ_self _) (by omega) (zall_0) _ _ hP hD hS ls (lv_sub hl [0, 2, 4, 7, 8] rfl)
      intro n_2
      induction n_2 with
      | zero => intro p0 hm hp0 hpl; exact absurd hm (Nat.not_lt_zero _)
      | succ n_2 ih_3 =>
        intro p0 hm hp0 hpl H locs hP hD hS ls hl
        refine lv_iload S.1 S.2.1 dX9_refusalOfRow_36 (lv_at hl 0 rfl) ?_
        refine lv_iload S.1 S.2.1 dX9_refusalOfRow_38 (lv_at hl 4 rfl) ?_
        refine z_icmp_ge (tgt := 74) S dX9_refusalOfRow_40 (by decide) (by omega) (fun c_40 => ?_) (fun c_40 => ?_)
        · skip
          refine z_iconst S dX9_refusalOfRow_74 ?_
          exact hQ (0) (u10_flt) _ _ (Or.inr ⟨okA, Or.inr ⟨okB, Or.inr ⟨by omega, Or.inl ⟨fun j q1 q2 => hpl j q1 (by omega), rfl, okC.1⟩⟩⟩⟩) hP hD hS _ _ dX9_refusalOfRow_75
        · skip
          refine lv_aload_n S.1 S.2.1 dX9_refusalOfRow_43 rfl (lv_at hl 1 rfl) ?_
          refine z_get S hK hP 0 rfl rfl 2 (by decide) i_X9_refusalOfRow_9 q_X9_refusalOfRow_1 rfl dX9_refusalOfRow_44 ?_
          refine lv_aload_n S.1 S.2.1 dX9_refusalOfRow_47 rfl (lv_at hl 1 rfl) ?_
          refine z_get S hK hP 0 rfl rfl 0 (by decide) i_X9_refusalOfRow_9 q_X9_refusalOfRow_2 rfl dX9_refusalOfRow_48 ?_
          refine lv_iload_n S.1 S.2.1 dX9_refusalOfRow_51 rfl (lv_at hl 2 rfl) ?_
          refine lv_iload S.1 S.2.1 dX9_refusalOfRow_52 (lv_at hl 3 rfl) ?_
          refine lv_iload S.1 S.2.1 dX9_refusalOfRow_54 (lv_at hl 0 rfl) ?_
          refine z_iadd S dX9_refusalOfRow_56 ?_
          refine z_ri (z_rV S hK (c_X7_at l E (ac 1) (ac 2) (ac 3) (ac 4) ce la si k (i + p0) (by omega) (by omega) (hls)) gX9_refusalOfRow_X7_at rfl hv_X7_at ⟨Nat.le_of_ble_eq_true rfl, Nat.le_of_ble_eq_true rfl⟩ (va_recv hK hP (ci := 7) (q0 := 1) rfl rfl) (hP.sub [1, 2, 3, 4] rfl) hl.1 rfl (Nat.le_of_ble_eq_true rfl) ⟨by decide, by decide⟩ rfl dX9_refusalOfRow_57) (fun r_57 h_57 => ?_)
          have he_57 : r_57 = ce (100 * k + i + p0) := by rw [show 100 * k + i + p0 = 100 * k + (i + p0) by omega]; omega
          have hc_57 := hce (100 * k + i + p0)
          refine z_rq (z_rV S hK (c_X4_one l E (ac 7) (ac 8) n on r_57 an (by omega) (by omega) (hon)) gX9_refusalOfRow_X4_one rfl hv_X4_one ⟨Nat.le_of_ble_eq_true rfl, Nat.le_of_ble_eq_true rfl⟩ (va_recv hK hP (ci := 4) (q0 := 7) rfl rfl) (hP.sub [7, 8] rfl) hl.1 rfl (Nat.le_of_ble_eq_true rfl) ⟨by decide, by decide⟩ rfl dX9_refusalOfRow_60) (fun r_60 h_60 => ?_)
          rcases h_60 with ⟨e_60, hx_60⟩ | ⟨e_60, hx_60⟩
          · subst e_60
            refine W.eq (g2 := F0 m 63 ls [.ref (an r_57)]) rfl ?_
            refine lv_ifnonnull (tgt := 68) S.1 S.2.1 dX9_refusalOfRow_63 (by decide) ?_
            refine z_iinc (lv' := [(8, .int (jI (p0 + 1))), (0, .ref (ac 0)), (2, .int (jI (k))), (5, .int (jI (i))), (6, .int (jI (cn)))]) S hl (k := 0) rfl (by decide) rfl dX9_refusalOfRow_68 (fun ls hl => ?_)
            refine z_goto (tgt := 36) S dX9_refusalOfRow_71 (by decide) ?_
            exact ih_3 (p0 + 1) (by omega) (by omega) (zall_step hpl (show 0 ≤ ce (100 * k + i + p0) ∧ ce (100 * k + i + p0) < n by omega)) _ _ hP hD hS ls (lv_sub hl [0, 1, 2, 3, 4] rfl)
          · subst e_60
            refine W.eq (g2 := F0 m 63 ls [.null]) rfl ?_
            refine lv_ifnonnullN S.1 S.2.1 dX9_refusalOfRow_63 ?_
            refine z_iconst S dX9_refusalOfRow_66 ?_
            exact hQ (-1) (u10_flt) _ _ (Or.inr ⟨okA, Or.inr ⟨okB, Or.inr ⟨by omega, Or.inr ⟨fun z => by have q := z p0 (by omega) (by omega); have q : 0 ≤ ce (100 * k + i + p0) ∧ ce (100 * k + i + p0) < n := q; omega, rfl, okC.1⟩⟩⟩⟩) hP hD hS _ _ dX9_refusalOfRow_67
    · skip
      refine z_bipush S (by decide +kernel) dX9_refusalOfRow_30 ?_
      exact hQ (-2) (u10_flt) _ _ (Or.inr ⟨okA, Or.inr ⟨okB, Or.inl ⟨by omega, rfl, okC.1⟩⟩⟩) hP hD hS _ _ dX9_refusalOfRow_32
  · skip
    refine lv_iload S.1 S.2.1 dX9_refusalOfRow_20 (lv_at hl 0 rfl) ?_
    exact hQ (r_10) (u10_flt) _ _ (zRefs_no h_10 (by omega)) hP hD hS _ _ dX9_refusalOfRow_22

set_option maxHeartbeats 1000000 in
set_option maxRecDepth 20000 in
theorem c_X9_areBargains (l : Launch) (E : zE) (ac : Nat → Nat) (flt : Int) (ce la si : Int → Int) (ln : Int) (co : Int → Int) (n : Int) (on : Nat → Option Nat) (tr : Int) (fw cw ch nm : Int → Int) (k : Int) (i : Int) (cn : Int) (ss : Int → Int) (sl : Int → Int) (hrw : (0 ≤ k ∧ k ≤ 3) ∧ (0 ≤ i ∧ 0 ≤ cn ∧ i + cn ≤ si k)) (hrel : zRel la si ss sl) (hce : zRg ce) : zRi l E yX9_areBargains wsX9_areBargains (zr 4 0 0) [.ref (ac 0), .int (jI (k)), .int (jI (i)), .int (jI (cn))] (fun H => zP E (cW E ac flt ce la si ln co n on tr fw cw ch nm) H) (fun r => (r = 1 ∧ (zBarg (fun j => ce (100 * k + i + j)) cn)) ∨ (r = 0 ∧ ¬ (zBarg (fun j => ce (100 * k + i + j)) cn))) := by
  refine zRz_of (own := RX9) (cc := cX9_areBargains) (maxL := 5) (by decide) rfl (Nat.le_of_ble_eq_true rfl) rfl ?_
  intro p e s m args below meth c Q S hK hP hQ ls hl
  have hl : lv_has ls 5 [(0, .ref (ac 0)), (1, .int (jI (k))), (2, .int (jI (i))), (3, .int (jI (cn)))] := hl
  have hls := zRel_ls hrel
  have hrk := hrel k (by omega) (by omega)
  refine z_iconst S dX9_areBargains_0 ?_
  refine lv_istore (lv' := [(4, .int (jI (0))), (0, .ref (ac 0)), (1, .int (jI (k))), (2, .int (jI (i))), (3, .int (jI (cn)))]) S.1 S.2.1 dX9_areBargains_1 hl (by decide) rfl (fun ls hl => ?_)
  suffices HL_1 : ∀ (n_2 : Nat) (p0 : Int), (cn - p0).toNat < n_2 → (0 ≤ p0 ∧ p0 ≤ cn) → (zBarg (fun j => ce (100 * k + i + j)) p0) → ∀ (ls : Array Slot), lv_has ls 5 [(4, .int (jI (p0))), (0, .ref (ac 0)), (1, .int (jI (k))), (2, .int (jI (i))), (3, .int (jI (cn)))] → W p l e (zr 4 0 0) s m args below meth c s.heap [] 0 0 Q (F0 m 3 ls []) from
    HL_1 _ 0 (Nat.lt_succ_self _) (by omega) (zall_0) ls (lv_sub hl [0, 1, 2, 3, 4] rfl)
  intro n_2
  induction n_2 with
  | zero => intro p0 hm hp0 hba; exact absurd hm (Nat.not_lt_zero _)
  | succ n_2 ih_3 =>
    intro p0 hm hp0 hba ls hl
    refine lv_iload S.1 S.2.1 dX9_areBargains_3 (lv_at hl 0 rfl) ?_
    refine lv_iload_n S.1 S.2.1 dX9_areBargains_5 rfl (lv_at hl 4 rfl) ?_
    refine z_icmp_ge (tgt := 35) S dX9_areBargains_6 (by decide) (by omega) (fun c_6 => ?_) (fun c_6 => ?_)
    · skip
      refine z_iconst S dX9_areBargains_35 ?_
      exact hQ (1) (by omega) (Or.inl ⟨rfl, fun j q1 q2 => hba j q1 (by omega)⟩) _ _ dX9_areBargains_36
    · skip
      refine lv_aload_n S.1 S.2.1 dX9_areBargains_9 rfl (lv_at hl 1 rfl) ?_
      refine z_get S hK hP 0 rfl rfl 0 (by decide) i_X9_areBargains_9 q_X9_areBargains_1 rfl dX9_areBargains_10 ?_
      refine lv_iload_n S.1 S.2.1 dX9_areBargains_13 rfl (lv_at hl 2 rfl) ?_
      refine lv_iload_n S.1 S.2.1 dX9_areBargains_14 rfl (lv_at hl 3 rfl) ?_
      refine lv_iload S.1 S.2.1 dX9_areBargains_15 (lv_at hl 0 rfl) ?_
      refine z_iadd S dX9_areBargains_17 ?_
      refine z_ri (z_rV S hK (c_X7_at l E (ac 1) (ac 2) (ac 3) (ac 4) ce la si k (i + p0) (by omega) (by omega) (hls)) gX9_areBargains_X7_at rfl hv_X7_at ⟨Nat.le_of_ble_eq_true rfl, Nat.le_of_ble_eq_true rfl⟩ (va_recv hK hP (ci := 7) (q0 := 1) rfl rfl) (hP.sub [1, 2, 3, 4] rfl) hl.1 rfl (Nat.le_of_ble_eq_true rfl) ⟨by decide, by decide⟩ rfl dX9_areBargains_18) (fun r_18 h_18 => ?_)
      have he_18 : r_18 = ce (100 * k + i + p0) := by rw [show 100 * k + i + p0 = 100 * k + (i + p0) by omega]; omega
      have hc_18 := hce (100 * k + i + p0)
      refine z_ri (z_rS S hK (c_X9_isQuantity l E r_18 (by omega)) gX9_areBargains_X9_isQuantity rfl hs_X9_isQuantity ⟨Nat.le_of_ble_eq_true rfl, Nat.le_of_ble_eq_true rfl⟩ trivial hl.1 rfl (Nat.le_of_ble_eq_true rfl) ⟨by decide, by decide⟩ rfl dX9_areBargains_21) (fun r_21 h_21 => ?_)
      refine z_if_ne (tgt := 29) S dX9_areBargains_24 (by decide) (by omega) (fun c_24 => ?_) (fun c_24 => ?_)
      · skip
        refine z_iinc (lv' := [(4, .int (jI (p0 + 1))), (0, .ref (ac 0)), (1, .int (jI (k))), (2, .int (jI (i))), (3, .int (jI (cn)))]) S hl (k := 0) rfl (by decide) rfl dX9_areBargains_29 (fun ls hl => ?_)
        refine z_goto (tgt := 3) S dX9_areBargains_32 (by decide) ?_
        exact ih_3 (p0 + 1) (by omega) (by omega) (zall_step hba (show 0 ≤ ce (100 * k + i + p0) ∧ ce (100 * k + i + p0) ≤ 999 by omega)) ls (lv_sub hl [0, 1, 2, 3, 4] rfl)
      · skip
        refine z_iconst S dX9_areBargains_27 ?_
        exact hQ (0) (by omega) (Or.inr ⟨rfl, fun z => by have q : 0 ≤ ce (100 * k + i + p0) ∧ ce (100 * k + i + p0) ≤ 999 := z p0 (by omega) (by omega); omega⟩) _ _ dX9_areBargains_28

set_option maxHeartbeats 1000000 in
set_option maxRecDepth 20000 in
theorem c_X9_meaning (l : Launch) (E : zE) (ac : Nat → Nat) (flt : Int) (ce la si : Int → Int) (ln : Int) (co : Int → Int) (n : Int) (on : Nat → Option Nat) (tr : Int) (fw cw ch nm : Int → Int) (an : Int → Nat) (kd vl nb fr tl : Int → Int) (k : Int) (i : Int) (cn : Int) (v : Int) (d : Int) (ss : Int → Int) (sl : Int → Int) (hrel : zRel la si ss sl) (hce : zRg ce) (hrw : (0 ≤ k ∧ k ≤ 3) ∧ (0 ≤ i ∧ 0 ≤ cn ∧ i + cn ≤ si k)) (hcn : cn ≤ 20) (hpl : zPpl n (fun j => ce (100 * k + i + j)) cn) (h_v : -2147483648 ≤ v ∧ v ≤ 2147483647) (h_d : -2147483648 ≤ d ∧ d ≤ 2147483647) (hp : 0 ≤ n ∧ n ≤ 10) (hon : zOns n on an) (hpe : zPeo n kd vl nb fr tl) : zRi l E yX9_meaning wsX9_meaning (zr 4 0 0) [.ref (ac 0), .int (jI (k)), .int (jI (i)), .int (jI (cn)), .int (jI (v)), .int (jI (d))] (fun H => zP E (cW E ac flt ce la si ln co n on tr fw cw ch nm) H ∧ zNm E n an kd vl nb fr tl H) (fun r => zMean nb (fun x => zlive kd vl fr tl x v d) (fun j => ce (100 * k + i + j)) cn r (zsum (fun j => nb (ce (100 * k + i + j))) cn.toNat)) := by
  refine zRi_of (own := RX9) (cc := cX9_meaning) (maxL := 9) (by decide) rfl (Nat.le_of_ble_eq_true rfl) rfl ?_
  intro p e s m args below meth c Q S hK hP hQ ls hl
  have hl : lv_has ls 9 [(0, .ref (ac 0)), (1, .int (jI (k))), (2, .int (jI (i))), (3, .int (jI (cn))), (4, .int (jI (v))), (5, .int (jI (d)))] := hl
  obtain ⟨hP, hN⟩ := hP
  have hrk := hrel k (by omega) (by omega)
  have hls := zRel_ls hrel
  refine z_iconst S dX9_meaning_0 ?_
  refine lv_istore (lv' := [(6, .int (jI (0))), (0, .ref (ac 0)), (1, .int (jI (k))), (2, .int (jI (i))), (3, .int (jI (cn))), (4, .int (jI (v))), (5, .int (jI (d)))]) S.1 S.2.1 dX9_meaning_1 hl (by decide) rfl (fun ls hl => ?_)
  refine z_iconst S dX9_meaning_3 ?_
  refine lv_istore (lv' := [(7, .int (jI (0))), (6, .int (jI (0))), (0, .ref (ac 0)), (1, .int (jI (k))), (2, .int (jI (i))), (3, .int (jI (cn))), (4, .int (jI (v))), (5, .int (jI (d)))]) S.1 S.2.1 dX9_meaning_4 hl (by decide) rfl (fun ls hl => ?_)
  suffices HL_1 : ∀ (n_2 : Nat) (p0 : Int) (sm : Int), (cn - p0).toNat < n_2 → (0 ≤ p0 ∧ p0 ≤ cn) → (sm = zsum (fun j => nb (ce (100 * k + i + j))) p0.toNat) → (0 ≤ sm ∧ sm ≤ 99 * p0) → (∀ y, 0 ≤ y → y < p0 → zlive kd vl fr tl (ce (100 * k + i + y)) v d) → ∀ (ls : Array Slot), lv_has ls 9 [(7, .int (jI (p0))), (6, .int (jI (sm))), (0, .ref (ac 0)), (1, .int (jI (k))), (2, .int (jI (i))), (3, .int (jI (cn))), (4, .int (jI (v))), (5, .int (jI (d)))] → W p l e (zr 4 0 0) s m args below meth c s.heap [] 0 0 Q (F0 m 6 ls []) from
    HL_1 _ 0 0 (Nat.lt_succ_self _) (by omega) (rfl) (by omega) (zall_0) ls (lv_sub hl [0, 1, 2, 3, 4, 5, 6, 7] rfl)
  intro n_2
  induction n_2 with
  | zero => intro p0 sm hm hp0 hm2 hmr hall; exact absurd hm (Nat.not_lt_zero _)
  | succ n_2 ih_3 =>
    intro p0 sm hm hp0 hm2 hmr hall ls hl
    refine lv_iload S.1 S.2.1 dX9_meaning_6 (lv_at hl 0 rfl) ?_
    refine lv_iload_n S.1 S.2.1 dX9_meaning_8 rfl (lv_at hl 5 rfl) ?_
    refine z_icmp_ge (tgt := 72) S dX9_meaning_9 (by decide) (by omega) (fun c_9 => ?_) (fun c_9 => ?_)
    · skip
      refine lv_iload S.1 S.2.1 dX9_meaning_72 (lv_at hl 1 rfl) ?_
      exact hQ (sm) (Or.inr ⟨fun y q1 q2 => hall y q1 (by omega), by rw [hm2, show cn = p0 by omega]⟩) _ _ dX9_meaning_74
    · skip
      refine lv_aload_n S.1 S.2.1 dX9_meaning_12 rfl (lv_at hl 2 rfl) ?_
      refine z_get S hK hP 0 rfl rfl 2 (by decide) i_X9_meaning_9 q_X9_meaning_1 rfl dX9_meaning_13 ?_
      refine lv_aload_n S.1 S.2.1 dX9_meaning_16 rfl (lv_at hl 2 rfl) ?_
      refine z_get S hK hP 0 rfl rfl 0 (by decide) i_X9_meaning_9 q_X9_meaning_2 rfl dX9_meaning_17 ?_
      refine lv_iload_n S.1 S.2.1 dX9_meaning_20 rfl (lv_at hl 3 rfl) ?_
      refine lv_iload_n S.1 S.2.1 dX9_meaning_21 rfl (lv_at hl 4 rfl) ?_
      refine lv_iload S.1 S.2.1 dX9_meaning_22 (lv_at hl 0 rfl) ?_
      refine z_iadd S dX9_meaning_24 ?_
      refine z_ri (z_rV S hK (c_X7_at l E (ac 1) (ac 2) (ac 3) (ac 4) ce la si k (i + p0) (by omega) (by omega) (hls)) gX9_meaning_X7_at rfl hv_X7_at ⟨Nat.le_of_ble_eq_true rfl, Nat.le_of_ble_eq_true rfl⟩ (va_recv hK hP (ci := 7) (q0 := 1) rfl rfl) (hP.sub [1, 2, 3, 4] rfl) hl.1 rfl (Nat.le_of_ble_eq_true rfl) ⟨by decide, by decide⟩ rfl dX9_meaning_25) (fun r_25 h_25 => ?_)
      have he_25 : r_25 = ce (100 * k + i + p0) := by rw [show 100 * k + i + p0 = 100 * k + (i + p0) by omega]; omega
      have hc_25 := hce (100 * k + i + p0)
      have hq25 : 0 ≤ ce (100 * k + i + p0) ∧ ce (100 * k + i + p0) < n := hpl p0 (by omega) (by omega)
      refine z_rq (z_rV S hK (c_X4_one l E (ac 7) (ac 8) n on r_25 an (by omega) (by omega) (hon)) gX9_meaning_X4_one rfl hv_X4_one ⟨Nat.le_of_ble_eq_true rfl, Nat.le_of_ble_eq_true rfl⟩ (va_recv hK hP (ci := 4) (q0 := 7) rfl rfl) (hP.sub [7, 8] rfl) hl.1 rfl (Nat.le_of_ble_eq_true rfl) ⟨by decide, by decide⟩ rfl dX9_meaning_28) (fun r_28 h_28 => ?_)
      rcases h_28 with ⟨e_28, hx_28⟩ | ⟨e_28, hx_28⟩
      · subst e_28
        refine W.eq (g2 := F0 m 31 ls [.ref (an r_25)]) rfl ?_
        refine lv_astore (lv' := [(8, .ref (an r_25)), (7, .int (jI (p0))), (6, .int (jI (sm))), (0, .ref (ac 0)), (1, .int (jI (k))), (2, .int (jI (i))), (3, .int (jI (cn))), (4, .int (jI (v))), (5, .int (jI (d)))]) S.1 S.2.1 dX9_meaning_31 hl (by decide) rfl (fun ls hl => ?_)
        refine lv_aload S.1 S.2.1 dX9_meaning_33 (lv_at hl 0 rfl) ?_
        refine lv_ifnull S.1 S.2.1 dX9_meaning_35 ?_
        refine lv_aload S.1 S.2.1 dX9_meaning_38 (lv_at hl 0 rfl) ?_
        refine lv_iload S.1 S.2.1 dX9_meaning_40 (lv_at hl 7 rfl) ?_
        refine lv_iload S.1 S.2.1 dX9_meaning_42 (lv_at hl 8 rfl) ?_
        have hv_44 := hpe r_25 (by omega) (by omega)
        refine z_ri (post := fun r => (r = 1 ∧ (zlv (kd r_25) (vl r_25) (fr r_25) (tl r_25) v d)) ∨ (r = 0 ∧ ¬ (zlv (kd r_25) (vl r_25) (fr r_25) (tl r_25) v d))) (av := ([.ref (an r_25), .int (jI (v)), .int (jI (d))] : List Value).toArray) (by
          have hk3 : kd r_25 = 2 ∨ kd r_25 = 1 ∨ kd r_25 = 0 := (by omega)
          rcases hk3 with e | e | e
          · exact (z_rU S hK (c_X3_isHeard_1 l E (an r_25) (vl r_25) (nb r_25) (fr r_25) (tl r_25) v d (kd r_25) (by omega) (by omega) (by omega) (by omega) (by omega) e) gX9_meaning_X3_isHeard_u96X1 rfl rfl hu_2__II_Z ⟨Nat.le_of_ble_eq_true rfl, Nat.le_of_ble_eq_true rfl⟩ (va_recv hK (zNm_k hN (x := r_25) (ci := 1) (by omega) e rfl) (ci := 1) (q0 := 0) rfl rfl) (zNm_k hN (x := r_25) (ci := 1) (by omega) e rfl) hl.1 rfl (Nat.le_of_ble_eq_true rfl) ⟨by decide, by decide⟩ rfl dX9_meaning_44)
          · exact (z_rU S hK (c_X3_isHeard_2 l E (an r_25) (vl r_25) (nb r_25) (fr r_25) (tl r_25) v d (kd r_25) (by omega) (by omega) (by omega) (by omega) (by omega) e) gX9_meaning_X3_isHeard_u96X2 rfl rfl hu_2__II_Z ⟨Nat.le_of_ble_eq_true rfl, Nat.le_of_ble_eq_true rfl⟩ (va_recv hK (zNm_k hN (x := r_25) (ci := 2) (by omega) e rfl) (ci := 2) (q0 := 0) rfl rfl) (zNm_k hN (x := r_25) (ci := 2) (by omega) e rfl) hl.1 rfl (Nat.le_of_ble_eq_true rfl) ⟨by decide, by decide⟩ rfl dX9_meaning_44)
          · exact (z_rV S hK (c_X3_isHeard_3 l E (an r_25) (vl r_25) (nb r_25) (fr r_25) (tl r_25) v d (kd r_25) (by omega) (by omega) (by omega) (by omega) (by omega) e) gX9_meaning_X3_isHeard rfl hv_X3_isHeard ⟨Nat.le_of_ble_eq_true rfl, Nat.le_of_ble_eq_true rfl⟩ (va_recv hK (zNm_k hN (x := r_25) (ci := 3) (by omega) e rfl) (ci := 3) (q0 := 0) rfl rfl) (zNm_k hN (x := r_25) (ci := 3) (by omega) e rfl) hl.1 rfl (Nat.le_of_ble_eq_true rfl) ⟨by decide, by decide⟩ rfl dX9_meaning_44)) (fun r_44 h_44 => ?_)
        have h_44 : (r_44 = 1 ∧ (zlive kd vl fr tl r_25 v d)) ∨ (r_44 = 0 ∧ ¬ (zlive kd vl fr tl r_25 v d)) := h_44
        refine z_if_ne (tgt := 56) S dX9_meaning_47 (by decide) (by omega) (fun c_47 => ?_) (fun c_47 => ?_)
        · skip
          refine lv_iload S.1 S.2.1 dX9_meaning_56 (lv_at hl 2 rfl) ?_
          refine lv_aload S.1 S.2.1 dX9_meaning_58 (lv_at hl 0 rfl) ?_
          have hv_60 := hpe r_25 (by omega) (by omega)
          refine z_ri (post := fun r => r = nb r_25) (av := ([.ref (an r_25)] : List Value).toArray) (by
            have hk3 : kd r_25 = 2 ∨ kd r_25 = 1 ∨ kd r_25 = 0 := (by omega)
            rcases hk3 with e | e | e
            · exact (z_rU S hK (c_X3_number_1 l E (an r_25) (vl r_25) (nb r_25) (fr r_25) (tl r_25)) gX9_meaning_X3_number_u207X1 rfl rfl hu_0___I ⟨Nat.le_of_ble_eq_true rfl, Nat.le_of_ble_eq_true rfl⟩ (va_recv hK (zNm_k hN (x := r_25) (ci := 1) (by omega) e rfl) (ci := 1) (q0 := 0) rfl rfl) (zNm_k hN (x := r_25) (ci := 1) (by omega) e rfl) hl.1 rfl (Nat.le_of_ble_eq_true rfl) ⟨by decide, by decide⟩ rfl dX9_meaning_60)
            · exact (z_rU S hK (c_X3_number_2 l E (an r_25) (vl r_25) (nb r_25) (fr r_25) (tl r_25)) gX9_meaning_X3_number_u207X2 rfl rfl hu_0___I ⟨Nat.le_of_ble_eq_true rfl, Nat.le_of_ble_eq_true rfl⟩ (va_recv hK (zNm_k hN (x := r_25) (ci := 2) (by omega) e rfl) (ci := 2) (q0 := 0) rfl rfl) (zNm_k hN (x := r_25) (ci := 2) (by omega) e rfl) hl.1 rfl (Nat.le_of_ble_eq_true rfl) ⟨by decide, by decide⟩ rfl dX9_meaning_60)
            · exact (z_rV S hK (c_X3_number_3 l E (an r_25) (vl r_25) (nb r_25) (fr r_25) (tl r_25)) gX9_meaning_X3_number rfl hv_X3_number ⟨Nat.le_of_ble_eq_true rfl, Nat.le_of_ble_eq_true rfl⟩ (va_recv hK (zNm_k hN (x := r_25) (ci := 3) (by omega) e rfl) (ci := 3) (q0 := 0) rfl rfl) (zNm_k hN (x := r_25) (ci := 3) (by omega) e rfl) hl.1 rfl (Nat.le_of_ble_eq_true rfl) ⟨by decide, by decide⟩ rfl dX9_meaning_60)) (fun r_60 h_60 => ?_)
          rw [h_60]
          refine z_iadd S dX9_meaning_63 ?_
          refine lv_istore (lv' := [(6, .int (jI (sm + (nb r_25)))), (8, .ref (an r_25)), (7, .int (jI (p0))), (0, .ref (ac 0)), (1, .int (jI (k))), (2, .int (jI (i))), (3, .int (jI (cn))), (4, .int (jI (v))), (5, .int (jI (d)))]) S.1 S.2.1 dX9_meaning_64 hl (by decide) rfl (fun ls hl => ?_)
          refine z_iinc (lv' := [(7, .int (jI (p0 + 1))), (6, .int (jI (sm + (nb r_25)))), (8, .ref (an r_25)), (0, .ref (ac 0)), (1, .int (jI (k))), (2, .int (jI (i))), (3, .int (jI (cn))), (4, .int (jI (v))), (5, .int (jI (d)))]) S hl (k := 2) rfl (by decide) rfl dX9_meaning_66 (fun ls hl => ?_)
          refine z_goto (tgt := 6) S dX9_meaning_69 (by decide) ?_
          exact ih_3 (p0 + 1) (sm + (nb r_25)) (by omega) (by omega) (by rw [zsum_next (by omega), ← hm2]; show sm + nb r_25 = sm + nb (ce (100 * k + i + p0)); rw [he_25]) (by omega) (zall_step hall (by rw [← he_25]; exact zB_t h_44 (by omega))) ls (lv_sub hl [0, 1, 3, 4, 5, 6, 7, 8] rfl)
        · skip
          refine z_bipush S (by decide +kernel) dX9_meaning_50 ?_
          refine lv_iload S.1 S.2.1 dX9_meaning_52 (lv_at hl 1 rfl) ?_
          refine z_isub S dX9_meaning_54 ?_
          exact hQ ((-100) - p0) (Or.inl ⟨p0, by omega, (by show ¬ zlive kd vl fr tl (ce (100 * k + i + p0)) v d; rw [← he_25]; exact zB_f h_44 (by omega)), hall, by omega⟩) _ _ dX9_meaning_55
      · subst e_28
        omega

set_option maxHeartbeats 1000000 in
set_option maxRecDepth 20000 in
theorem c_X9_fewestWords (l : Launch) (E : zE) (ac : Nat → Nat) (flt : Int) (ce la si : Int → Int) (ln : Int) (co : Int → Int) (n : Int) (on : Nat → Option Nat) (tr : Int) (fw cw ch nm : Int → Int) (an : Int → Nat) (kd vl nb fr tl : Int → Int) (q : Int) (v : Int) (d : Int) (hq : 0 ≤ q ∧ q ≤ 999) (h_v : -2147483648 ≤ v ∧ v ≤ 2147483647) (h_d : -2147483648 ≤ d ∧ d ≤ 2147483647) (hp : 0 ≤ n ∧ n ≤ 10) (hon : zOns n on an) (hpe : zPeo n kd vl nb fr tl) (hap : zAp (cW E ac flt ce la si ln co n on tr fw cw ch nm) n an) : zMi l E yX9_fewestWords wsX9_fewestWords (zr 5 0 0) [.ref (ac 0), .int (jI (q)), .int (jI (v)), .int (jI (d))] (cW E ac flt ce la si ln co n on tr fw cw ch nm) (fun H => zNm E n an kd vl nb fr tl H) (fun r (u : Int → Int) => zFewest (zCan nb (fun x => zlive kd vl fr tl x v d) n) q r ∧ zTab (zCan nb (fun x => zlive kd vl fr tl x v d) n) u 999 1000000 ∧ ((0 ≤ r ∧ r ≤ 999) ∨ r = -9)) (fun (u : Int → Int) => cW E ac flt ce la si ln co n on tr u cw ch nm) 0 0 := by
  refine zMi_of (own := RX9) (cc := cX9_fewestWords) (maxL := 5) (by decide) rfl (Nat.le_of_ble_eq_true rfl) rfl ?_
  intro p e s m args below meth c Q A S hK hA hS hP hD hAe hG hQ ls hl
  have hl : lv_has ls 5 [(0, .ref (ac 0)), (1, .int (jI (q))), (2, .int (jI (v))), (3, .int (jI (d)))] := hl
  have hNA := zNm_A hG hAe hap
  refine lv_aload_n S.1 S.2.1 dX9_fewestWords_0 rfl (lv_at hl 0 rfl) ?_
  refine z_get S hK hP 0 rfl rfl 2 (by decide) i_X9_fewestWords_9 q_X9_fewestWords_1 rfl dX9_fewestWords_1 ?_
  refine lv_aload_n S.1 S.2.1 dX9_fewestWords_4 rfl (lv_at hl 0 rfl) ?_
  refine z_get S hK hP 0 rfl rfl 4 (by decide) i_X9_fewestWords_9 q_X9_fewestWords_2 rfl dX9_fewestWords_5 ?_
  refine lv_iload_n S.1 S.2.1 dX9_fewestWords_8 rfl (lv_at hl 2 rfl) ?_
  refine lv_iload_n S.1 S.2.1 dX9_fewestWords_9 rfl (lv_at hl 3 rfl) ?_
  refine z_iconst S dX9_fewestWords_10 ?_
  refine z_mv (wr := [(ac 0, .inr (9, [.ref (ac 1), .ref (ac 5), .ref (ac 7), .ref (ac 9), .ref (ac 10), .ref (ac 12), .ref (ac 14), .int (jI flt)])), (ac 1, .inr (7, [.ref (ac 2), .ref (ac 3), .ref (ac 4)])), (ac 2, eI E 400 ce), (ac 3, eI E 4 la), (ac 4, eI E 4 si), (ac 5, .inr (6, [.ref (ac 6), .int (jI ln)])), (ac 6, eI E 100 co), (ac 9, .inr (8, [.int (jI tr)])), (ac 12, .inr (0, [.ref (ac 13)])), (ac 13, eI E 1000 cw), (ac 14, .inr (5, [.ref (ac 15), .ref (ac 16)])), (ac 15, eI E 3 ch), (ac 16, eI E 3 nm)]) (z_mV S hK (c_X4_teach l E (ac 7) (ac 8) (ac 10) (ac 11) n on fw an kd vl nb fr tl v d (-1) (by omega) (by omega) (by omega) (by omega) (hon) (hpe) (zAp_sub (ws := (cW E ac flt ce la si ln co n on tr fw cw ch nm)) (zAp_adr hap rfl) [7, 8, 10, 11] rfl) _) gX9_fewestWords_X4_teach rfl hv_X4_teach ⟨Nat.le_of_ble_eq_true rfl, Nat.le_of_ble_eq_true rfl⟩ (va_recv hK hP (ci := 4) (q0 := 7) rfl rfl) (hP.sub [7, 8, 10, 11] rfl) (hD.sub [7, 8, 10, 11] (by decide) rfl) (zNm_keep hG hS hNA) hl.1 rfl (Nat.le_of_ble_eq_true rfl) ⟨by decide, by decide⟩ rfl dX9_fewestWords_11) hP hD hS hA [7, 8, 10, 11] [0, 1, 2, 3, 4, 5, 6, 9, 12, 13, 14, 15, 16] [0, 1, 2, 3, 4, 5, 6, 13, 14, 7, 15, 16, 8, 9, 10, 11, 12] rfl rfl (by decide) (by decide) (fun (u : Int → Int) => cW E ac flt ce la si ln co n on tr u cw ch nm) (by decide) (fun _ => rfl) (fun u H locs h_11 hP hD hS => ?_)
  obtain ⟨u11_fw, u11_fw_e⟩ : ∃ z, z = u := ⟨_, rfl⟩
  subst u11_fw_e
  try dsimp only at h_11
  have hP : zP E (cW E ac flt ce la si ln co n on tr u11_fw cw ch nm) H := hP
  have hD : va_D A (cW E ac flt ce la si ln co n on tr u11_fw cw ch nm) := hD
  have hT : zTab (zCan nb (fun x => zlive kd vl fr tl x v d) n) u11_fw 999 1000000 := zTab_cong (fun a _ _ => zCanW_m1) h_11
  have hfr := zTab_rng hT (q := q) (by omega) (by omega)
  refine lv_aload_n S.1 S.2.1 dX9_fewestWords_14 rfl (lv_at hl 0 rfl) ?_
  refine z_get S hK hP 0 rfl rfl 4 (by decide) i_X9_fewestWords_9 q_X9_fewestWords_2 rfl dX9_fewestWords_15 ?_
  refine lv_iload_n S.1 S.2.1 dX9_fewestWords_18 rfl (lv_at hl 1 rfl) ?_
  refine z_ri (z_rV S hK (c_X0_of l E (ac 10) (ac 11) u11_fw q (by omega)) gX9_fewestWords_X0_of rfl hv_X0_of ⟨Nat.le_of_ble_eq_true rfl, Nat.le_of_ble_eq_true rfl⟩ (va_recv hK hP (ci := 0) (q0 := 10) rfl rfl) (hP.sub [10, 11] rfl) hl.1 rfl (Nat.le_of_ble_eq_true rfl) ⟨by decide, by decide⟩ rfl dX9_fewestWords_19) (fun r_19 h_19 => ?_)
  refine lv_istore (lv' := [(4, .int (jI (r_19))), (0, .ref (ac 0)), (1, .int (jI (q))), (2, .int (jI (v))), (3, .int (jI (d)))]) S.1 S.2.1 dX9_fewestWords_22 hl (by decide) rfl (fun ls hl => ?_)
  refine lv_iload S.1 S.2.1 dX9_fewestWords_24 (lv_at hl 0 rfl) ?_
  refine z_ldc (n := 1000000) S q_X9_fewestWords_3 (by decide +kernel) dX9_fewestWords_26 ?_
  refine z_icmp_ge (tgt := 36) S dX9_fewestWords_28 (by decide) (by omega) (fun c_28 => ?_) (fun c_28 => ?_)
  · skip
    refine z_bipush S (by decide +kernel) dX9_fewestWords_36 ?_
    exact hQ (-9) (u11_fw) _ _ (⟨zFewest_of hT (by omega) (by omega) (by omega), hT, by omega⟩) hP hD hS _ _ dX9_fewestWords_38
  · skip
    refine lv_iload S.1 S.2.1 dX9_fewestWords_31 (lv_at hl 0 rfl) ?_
    refine z_goto (tgt := 38) S dX9_fewestWords_33 (by decide) ?_
    exact hQ (r_19) (u11_fw) _ _ (⟨zFewest_of hT (by omega) (by omega) (by omega), hT, by omega⟩) hP hD hS _ _ dX9_fewestWords_38

set_option maxHeartbeats 1000000 in
set_option maxRecDepth 20000 in
theorem c_X9_numberAt (l : Launch) (E : zE) (ac : Nat → Nat) (flt : Int) (ce la si : Int → Int) (ln : Int) (co : Int → Int) (n : Int) (on : Nat → Option Nat) (tr : Int) (fw cw ch nm : Int → Int) (an : Int → Nat) (kd vl nb fr tl : Int → Int) (k : Int) (q : Int) (v : Int) (d : Int) (wN : Nat) (hq : 0 ≤ q ∧ q ≤ 999) (hmin : zMin (zCan nb (fun x => zlive kd vl fr tl x v d) n) q wN) (hk : 0 ≤ k ∧ k < wN) (hw : (wN : Int) ≤ 999) (hT : zTab (zCan nb (fun x => zlive kd vl fr tl x v d) n) fw 999 1000000) (h_v : -2147483648 ≤ v ∧ v ≤ 2147483647) (h_d : -2147483648 ≤ d ∧ d ≤ 2147483647) (hp : 0 ≤ n ∧ n ≤ 10) (hon : zOns n on an) (hpe : zPeo n kd vl nb fr tl) : zRi l E yX9_numberAt wsX9_numberAt (zr 4 0 0) [.ref (ac 0), .int (jI (k)), .int (jI (q)), .int (jI (v)), .int (jI (d))] (fun H => zP E (cW E ac flt ce la si ln co n on tr fw cw ch nm) H ∧ zNm E n an kd vl nb fr tl H) (fun r => zNth (zCan nb (fun x => zlive kd vl fr tl x v d) n) k.toNat q r ∧ (0 ≤ r ∧ r ≤ 99)) := by
  refine zRi_of (own := RX9) (cc := cX9_numberAt) (maxL := 8) (by decide) rfl (Nat.le_of_ble_eq_true rfl) rfl ?_
  intro p e s m args below meth c Q S hK hP hQ ls hl
  have hl : lv_has ls 8 [(0, .ref (ac 0)), (1, .int (jI (k))), (2, .int (jI (q))), (3, .int (jI (v))), (4, .int (jI (d)))] := hl
  obtain ⟨hP, hN⟩ := hP
  refine z_bipush S (by decide +kernel) dX9_numberAt_0 ?_
  refine lv_istore (lv' := [(5, .int (jI (-9))), (0, .ref (ac 0)), (1, .int (jI (k))), (2, .int (jI (q))), (3, .int (jI (v))), (4, .int (jI (d)))]) S.1 S.2.1 dX9_numberAt_2 hl (by decide) rfl (fun ls hl => ?_)
  refine lv_iload_n S.1 S.2.1 dX9_numberAt_4 rfl (lv_at hl 3 rfl) ?_
  refine lv_istore (lv' := [(6, .int (jI (q))), (5, .int (jI (-9))), (0, .ref (ac 0)), (1, .int (jI (k))), (2, .int (jI (q))), (3, .int (jI (v))), (4, .int (jI (d)))]) S.1 S.2.1 dX9_numberAt_5 hl (by decide) rfl (fun ls hl => ?_)
  refine z_iconst S dX9_numberAt_7 ?_
  refine lv_istore (lv' := [(7, .int (jI (0))), (6, .int (jI (q))), (5, .int (jI (-9))), (0, .ref (ac 0)), (1, .int (jI (k))), (2, .int (jI (q))), (3, .int (jI (v))), (4, .int (jI (d)))]) S.1 S.2.1 dX9_numberAt_8 hl (by decide) rfl (fun ls hl => ?_)
  suffices HL_1 : ∀ (n_2 : Nat) (st : Int) (lf : Int) (i0 : Int), (k + 1 - st).toNat < n_2 → (0 ≤ st ∧ st ≤ k + 1) → (0 ≤ lf ∧ lf ≤ q) → (-9 ≤ i0 ∧ i0 ≤ 99 ∧ (1 ≤ st → 0 ≤ i0)) → (zSayI (zCan nb (fun x => zlive kd vl fr tl x v d) n) q k wN st lf i0) → ∀ (ls : Array Slot), lv_has ls 8 [(7, .int (jI (st))), (6, .int (jI (lf))), (5, .int (jI (i0))), (0, .ref (ac 0)), (1, .int (jI (k))), (2, .int (jI (q))), (3, .int (jI (v))), (4, .int (jI (d)))] → W p l e (zr 4 0 0) s m args below meth c s.heap [] 0 0 Q (F0 m 10 ls []) from
    HL_1 _ 0 q (-9) (Nat.lt_succ_self _) (by omega) (by omega) (by omega) (zSayI_0 hmin (by omega)) ls (lv_sub hl [0, 1, 2, 3, 4, 5, 6, 7] rfl)
  intro n_2
  induction n_2 with
  | zero => intro st lf i0 hm hst0 hlf hi0 hfin; exact absurd hm (Nat.not_lt_zero _)
  | succ n_2 ih_3 =>
    intro st lf i0 hm hst0 hlf hi0 hfin ls hl
    refine lv_iload S.1 S.2.1 dX9_numberAt_10 (lv_at hl 0 rfl) ?_
    refine lv_iload_n S.1 S.2.1 dX9_numberAt_12 rfl (lv_at hl 4 rfl) ?_
    refine z_icmp_gt (tgt := 47) S dX9_numberAt_13 (by decide) (by omega) (fun c_13 => ?_) (fun c_13 => ?_)
    · skip
      refine lv_iload S.1 S.2.1 dX9_numberAt_47 (lv_at hl 2 rfl) ?_
      exact hQ (i0) (⟨zSayI_b hfin (by omega), by omega⟩) _ _ dX9_numberAt_49
    · skip
      obtain ⟨w1, hw1, hm1, hnx⟩ : ∃ w1 : Nat, (w1 : Int) = wN - st - 1 ∧ zMin (zCan nb (fun x => zlive kd vl fr tl x v d) n) lf (w1 + 1) ∧ ∀ r, zNth (zCan nb (fun x => zlive kd vl fr tl x v d) n) (k - st).toNat lf r → zNth (zCan nb (fun x => zlive kd vl fr tl x v d) n) k.toNat q r := zSayI_a hfin (by omega)
      refine lv_aload_n S.1 S.2.1 dX9_numberAt_16 rfl (lv_at hl 3 rfl) ?_
      refine z_get S hK hP 0 rfl rfl 2 (by decide) i_X9_numberAt_9 q_X9_numberAt_1 rfl dX9_numberAt_17 ?_
      refine lv_aload_n S.1 S.2.1 dX9_numberAt_20 rfl (lv_at hl 3 rfl) ?_
      refine z_get S hK hP 0 rfl rfl 4 (by decide) i_X9_numberAt_9 q_X9_numberAt_2 rfl dX9_numberAt_21 ?_
      refine lv_iload S.1 S.2.1 dX9_numberAt_24 (lv_at hl 1 rfl) ?_
      refine lv_iload_n S.1 S.2.1 dX9_numberAt_26 rfl (lv_at hl 6 rfl) ?_
      refine lv_iload S.1 S.2.1 dX9_numberAt_27 (lv_at hl 7 rfl) ?_
      refine z_ri (z_rV S hK (c_X4_greatestStep l E (ac 7) (ac 8) (ac 10) (ac 11) n on fw an kd vl nb fr tl lf v d (by omega) (by omega) (by omega) (by omega) (hon) (hpe) (hT)) gX9_numberAt_X4_greatestStep rfl hv_X4_greatestStep ⟨Nat.le_of_ble_eq_true rfl, Nat.le_of_ble_eq_true rfl⟩ (va_recv hK hP (ci := 4) (q0 := 7) rfl rfl) ⟨(hP.sub [7, 8, 10, 11] rfl), hN⟩ hl.1 rfl (Nat.le_of_ble_eq_true rfl) ⟨by decide, by decide⟩ rfl dX9_numberAt_29) (fun r_29 h_29 => ?_)
      obtain ⟨hst2, hgr, hma2⟩ := zGS_St h_29 hT (by omega) hm1 (fun x q1 q2 => (hpe x q1 q2).2.2.1)
      refine lv_istore (lv' := [(5, .int (jI (r_29))), (7, .int (jI (st))), (6, .int (jI (lf))), (0, .ref (ac 0)), (1, .int (jI (k))), (2, .int (jI (q))), (3, .int (jI (v))), (4, .int (jI (d)))]) S.1 S.2.1 dX9_numberAt_32 hl (by decide) rfl (fun ls hl => ?_)
      refine lv_iload S.1 S.2.1 dX9_numberAt_34 (lv_at hl 2 rfl) ?_
      refine lv_iload S.1 S.2.1 dX9_numberAt_36 (lv_at hl 0 rfl) ?_
      refine z_isub S dX9_numberAt_38 ?_
      refine lv_istore (lv' := [(6, .int (jI (lf - r_29))), (5, .int (jI (r_29))), (7, .int (jI (st))), (0, .ref (ac 0)), (1, .int (jI (k))), (2, .int (jI (q))), (3, .int (jI (v))), (4, .int (jI (d)))]) S.1 S.2.1 dX9_numberAt_39 hl (by decide) rfl (fun ls hl => ?_)
      refine z_iinc (lv' := [(7, .int (jI (st + 1))), (6, .int (jI (lf - r_29))), (5, .int (jI (r_29))), (0, .ref (ac 0)), (1, .int (jI (k))), (2, .int (jI (q))), (3, .int (jI (v))), (4, .int (jI (d)))]) S hl (k := 2) rfl (by decide) rfl dX9_numberAt_41 (fun ls hl => ?_)
      refine z_goto (tgt := 10) S dX9_numberAt_44 (by decide) ?_
      exact ih_3 (st + 1) (lf - r_29) r_29 (by omega) (by omega) (by omega) (by omega) (zSay_next hst2 hma2 hw1 hnx (by omega)) ls (lv_sub hl [0, 1, 2, 3, 4, 5, 6, 7] rfl)

set_option maxHeartbeats 1000000 in
set_option maxRecDepth 20000 in
theorem c_X9_bargainsSaid (l : Launch) (E : zE) (ac : Nat → Nat) (flt : Int) (ce la si : Int → Int) (ln : Int) (co : Int → Int) (n : Int) (on : Nat → Option Nat) (tr : Int) (fw cw ch nm : Int → Int) (num : Int) (w : Int) (k : Int) (i : Int) (cn : Int) (ss : Int → Int) (sl : Int → Int) (cs : Int → Prop) (hrw : (0 ≤ k ∧ k ≤ 3) ∧ (0 ≤ i ∧ 0 ≤ cn ∧ i + cn ≤ si k)) (hcn : cn ≤ 12) (hnum : 1 ≤ num ∧ num ≤ 99) (hw : 1 ≤ w ∧ w ≤ 9) (hba : zBarg (fun j => ce (100 * k + i + j)) cn) (hT : zTab cs fw 999 1000000) (hrel : zRel la si ss sl) (hce : zRg ce) : zRi l E yX9_bargainsSaid wsX9_bargainsSaid (zr 9 0 0) [.ref (ac 0), .int (jI (num)), .int (jI (w)), .int (jI (k)), .int (jI (i)), .int (jI (cn))] (fun H => zP E (cW E ac flt ce la si ln co n on tr fw cw ch nm) H) (fun r => r = zBcnt cs w (fun j => ce (100 * k + i + j)) cn num ∧ (0 ≤ r ∧ r ≤ cn)) := by
  refine zRi_of (own := RX9) (cc := cX9_bargainsSaid) (maxL := 8) (by decide) rfl (Nat.le_of_ble_eq_true rfl) rfl ?_
  intro p e s m args below meth c Q S hK hP hQ ls hl
  have hl : lv_has ls 8 [(0, .ref (ac 0)), (1, .int (jI (num))), (2, .int (jI (w))), (3, .int (jI (k))), (4, .int (jI (i))), (5, .int (jI (cn)))] := hl
  have hls := zRel_ls hrel
  have hrk := hrel k (by omega) (by omega)
  refine z_iconst S dX9_bargainsSaid_0 ?_
  refine lv_istore (lv' := [(6, .int (jI (0))), (0, .ref (ac 0)), (1, .int (jI (num))), (2, .int (jI (w))), (3, .int (jI (k))), (4, .int (jI (i))), (5, .int (jI (cn)))]) S.1 S.2.1 dX9_bargainsSaid_1 hl (by decide) rfl (fun ls hl => ?_)
  refine z_iconst S dX9_bargainsSaid_3 ?_
  refine lv_istore (lv' := [(7, .int (jI (0))), (6, .int (jI (0))), (0, .ref (ac 0)), (1, .int (jI (num))), (2, .int (jI (w))), (3, .int (jI (k))), (4, .int (jI (i))), (5, .int (jI (cn)))]) S.1 S.2.1 dX9_bargainsSaid_4 hl (by decide) rfl (fun ls hl => ?_)
  suffices HL_1 : ∀ (n_2 : Nat) (p0 : Int) (its : Int), (cn - p0).toNat < n_2 → (0 ≤ p0 ∧ p0 ≤ cn) → (its = zcnt (fun x => zIn (fun a => cs a ∨ a = num) w (ce (100 * k + i + (x - 1)))) p0.toNat) → (0 ≤ its ∧ its ≤ p0) → ∀ (ls : Array Slot), lv_has ls 8 [(7, .int (jI (p0))), (6, .int (jI (its))), (0, .ref (ac 0)), (1, .int (jI (num))), (2, .int (jI (w))), (3, .int (jI (k))), (4, .int (jI (i))), (5, .int (jI (cn)))] → W p l e (zr 9 0 0) s m args below meth c s.heap [] 0 0 Q (F0 m 6 ls []) from
    HL_1 _ 0 0 (Nat.lt_succ_self _) (by omega) (rfl) (by omega) ls (lv_sub hl [0, 1, 2, 3, 4, 5, 6, 7] rfl)
  intro n_2
  induction n_2 with
  | zero => intro p0 its hm hp0 hits hitr; exact absurd hm (Nat.not_lt_zero _)
  | succ n_2 ih_3 =>
    intro p0 its hm hp0 hits hitr ls hl
    refine lv_iload S.1 S.2.1 dX9_bargainsSaid_6 (lv_at hl 0 rfl) ?_
    refine lv_iload S.1 S.2.1 dX9_bargainsSaid_8 (lv_at hl 7 rfl) ?_
    refine z_icmp_ge (tgt := 47) S dX9_bargainsSaid_10 (by decide) (by omega) (fun c_10 => ?_) (fun c_10 => ?_)
    · skip
      refine lv_iload S.1 S.2.1 dX9_bargainsSaid_47 (lv_at hl 1 rfl) ?_
      exact hQ (its) (⟨by rw [hits, show p0 = cn by omega]; rfl, by omega⟩) _ _ dX9_bargainsSaid_49
    · skip
      refine lv_aload_n S.1 S.2.1 dX9_bargainsSaid_13 rfl (lv_at hl 2 rfl) ?_
      refine z_get S hK hP 0 rfl rfl 4 (by decide) i_X9_bargainsSaid_9 q_X9_bargainsSaid_1 rfl dX9_bargainsSaid_14 ?_
      refine lv_iload_n S.1 S.2.1 dX9_bargainsSaid_17 rfl (lv_at hl 3 rfl) ?_
      refine lv_aload_n S.1 S.2.1 dX9_bargainsSaid_18 rfl (lv_at hl 2 rfl) ?_
      refine z_get S hK hP 0 rfl rfl 0 (by decide) i_X9_bargainsSaid_9 q_X9_bargainsSaid_2 rfl dX9_bargainsSaid_19 ?_
      refine lv_iload_n S.1 S.2.1 dX9_bargainsSaid_22 rfl (lv_at hl 5 rfl) ?_
      refine lv_iload S.1 S.2.1 dX9_bargainsSaid_23 (lv_at hl 6 rfl) ?_
      refine lv_iload S.1 S.2.1 dX9_bargainsSaid_25 (lv_at hl 0 rfl) ?_
      refine z_iadd S dX9_bargainsSaid_27 ?_
      refine z_ri (z_rV S hK (c_X7_at l E (ac 1) (ac 2) (ac 3) (ac 4) ce la si k (i + p0) (by omega) (by omega) (hls)) gX9_bargainsSaid_X7_at rfl hv_X7_at ⟨Nat.le_of_ble_eq_true rfl, Nat.le_of_ble_eq_true rfl⟩ (va_recv hK hP (ci := 7) (q0 := 1) rfl rfl) (hP.sub [1, 2, 3, 4] rfl) hl.1 rfl (Nat.le_of_ble_eq_true rfl) ⟨by decide, by decide⟩ rfl dX9_bargainsSaid_28) (fun r_28 h_28 => ?_)
      have he_28 : r_28 = ce (100 * k + i + p0) := by rw [show 100 * k + i + p0 = 100 * k + (i + p0) by omega]; omega
      have hc_28 := hce (100 * k + i + p0)
      have hq28 : 0 ≤ ce (100 * k + i + p0) ∧ ce (100 * k + i + p0) ≤ 999 := hba p0 (by omega) (by omega)
      refine lv_iload_n S.1 S.2.1 dX9_bargainsSaid_31 rfl (lv_at hl 4 rfl) ?_
      refine z_ri (z_rV S hK (c_X0_withinByOne l E (ac 10) (ac 11) fw num r_28 w cs (by omega) (by omega) (by omega) (hT)) gX9_bargainsSaid_X0_withinByOne rfl hv_X0_withinByOne ⟨Nat.le_of_ble_eq_true rfl, Nat.le_of_ble_eq_true rfl⟩ (va_recv hK hP (ci := 0) (q0 := 10) rfl rfl) (hP.sub [10, 11] rfl) hl.1 rfl (Nat.le_of_ble_eq_true rfl) ⟨by decide, by decide⟩ rfl dX9_bargainsSaid_32) (fun r_32 h_32 => ?_)
      have hI : zIn (zPlus cs num) w r_28 ↔ zIn (fun a => cs a ∨ a = num) w (ce (100 * k + i + p0)) := by rw [he_28]; exact Iff.rfl
      refine z_if_eq (tgt := 41) S dX9_bargainsSaid_35 (by decide) (by omega) (fun c_35 => ?_) (fun c_35 => ?_)
      · skip
        refine z_iinc (lv' := [(7, .int (jI (p0 + 1))), (6, .int (jI (its))), (0, .ref (ac 0)), (1, .int (jI (num))), (2, .int (jI (w))), (3, .int (jI (k))), (4, .int (jI (i))), (5, .int (jI (cn)))]) S hl (k := 0) rfl (by decide) rfl dX9_bargainsSaid_41 (fun ls hl => ?_)
        refine z_goto (tgt := 6) S dX9_bargainsSaid_44 (by decide) ?_
        exact ih_3 (p0 + 1) its (by omega) (by omega) (by first | exact (congrArg (fun z => z + 1) hits).trans (zcnt0_t (P := fun x => zIn (fun a => cs a ∨ a = num) w (ce (100 * k + i + x))) (by omega) (hI.mp (zB_t h_32 (by omega)))).symm | exact hits.trans (zcnt0_f (P := fun x => zIn (fun a => cs a ∨ a = num) w (ce (100 * k + i + x))) (by omega) (fun z => zB_f h_32 (by omega) (hI.mpr z))).symm) (by omega) ls (lv_sub hl [0, 1, 2, 3, 4, 5, 6, 7] rfl)
      · skip
        refine z_iinc (lv' := [(6, .int (jI (its + 1))), (7, .int (jI (p0))), (0, .ref (ac 0)), (1, .int (jI (num))), (2, .int (jI (w))), (3, .int (jI (k))), (4, .int (jI (i))), (5, .int (jI (cn)))]) S hl (k := 1) rfl (by decide) rfl dX9_bargainsSaid_38 (fun ls hl => ?_)
        refine z_iinc (lv' := [(7, .int (jI (p0 + 1))), (6, .int (jI (its + 1))), (0, .ref (ac 0)), (1, .int (jI (num))), (2, .int (jI (w))), (3, .int (jI (k))), (4, .int (jI (i))), (5, .int (jI (cn)))]) S hl (k := 1) rfl (by decide) rfl dX9_bargainsSaid_41 (fun ls hl => ?_)
        refine z_goto (tgt := 6) S dX9_bargainsSaid_44 (by decide) ?_
        exact ih_3 (p0 + 1) (its + 1) (by omega) (by omega) (by first | exact (congrArg (fun z => z + 1) hits).trans (zcnt0_t (P := fun x => zIn (fun a => cs a ∨ a = num) w (ce (100 * k + i + x))) (by omega) (hI.mp (zB_t h_32 (by omega)))).symm | exact hits.trans (zcnt0_f (P := fun x => zIn (fun a => cs a ∨ a = num) w (ce (100 * k + i + x))) (by omega) (fun z => zB_f h_32 (by omega) (hI.mpr z))).symm) (by omega) ls (lv_sub hl [0, 1, 2, 3, 4, 5, 6, 7] rfl)
