theorem i_X10_failedLong_10 : ∀ w ∈ u_ws RX10 TX10 22, w ∈ wsX10_failedLong := fun w h => List.mem_cons_of_mem _ (List.mem_append_right _ h)
theorem q_X10_failedLong_1 : Cond.fieldLink RX10 64 "LivingNumbersModel" "fault" "I" ∈ wsX10_failedLong := List.mem_of_getElem? (i := 1) rfl
theorem i_X10_noCell_10 : ∀ w ∈ u_ws RX10 TX10 22, w ∈ wsX10_noCell := fun w h => List.mem_cons_of_mem _ (List.mem_append_right _ h)
theorem q_X10_noCell_1 : Cond.fieldLink RX10 50 "LivingNumbersModel" "sheetSize" "[I" ∈ wsX10_noCell := List.mem_of_getElem? (i := 1) rfl
theorem q_X10_sheet_1 : Cond.constantLong RX10 80 (2) ∈ wsX10_sheet := List.mem_of_getElem? (i := 1) rfl
theorem i_X10_sheet_10 : ∀ w ∈ u_ws RX10 TX10 22, w ∈ wsX10_sheet := fun w h => List.mem_cons_of_mem _ (List.mem_append_right _ h)
theorem q_X10_sheet_2 : Cond.fieldLink RX10 50 "LivingNumbersModel" "sheetSize" "[I" ∈ wsX10_sheet := List.mem_of_getElem? (i := 2) rfl
theorem q_X10_sheet_3 : Cond.fieldLink RX10 53 "LivingNumbersModel" "sheetLane" "[I" ∈ wsX10_sheet := List.mem_of_getElem? (i := 3) rfl
theorem q_X10_sheet_4 : Cond.fieldLink RX10 56 "LivingNumbersModel" "sheet" "[I" ∈ wsX10_sheet := List.mem_of_getElem? (i := 4) rfl
theorem i_X10_lose_10 : ∀ w ∈ u_ws RX10 TX10 22, w ∈ wsX10_lose := fun w h => List.mem_cons_of_mem _ (List.mem_append_right _ h)
theorem q_X10_lose_1 : Cond.fieldLink RX10 50 "LivingNumbersModel" "sheetSize" "[I" ∈ wsX10_lose := List.mem_of_getElem? (i := 1) rfl
theorem hv_X10_noCell : yX10_noCell.cls = RX10 ∧ yX10_noCell.cls ≠ "java/lang/invoke/MethodHandle" ∧ yX10_noCell.cls ≠ "java/lang/invoke/VarHandle" ∧ (parseMethodDescriptor yX10_noCell.desc).map (fun d => d.parameters.length) = some 2 := by decide +kernel
theorem i_X10_put_10 : ∀ w ∈ u_ws RX10 TX10 22, w ∈ wsX10_put := fun w h => List.mem_cons_of_mem _ (List.mem_append_right _ h)
theorem q_X10_put_1 : Cond.fieldLink RX10 56 "LivingNumbersModel" "sheet" "[I" ∈ wsX10_put := List.mem_of_getElem? (i := 1) rfl
theorem q_X10_put_2 : Cond.fieldLink RX10 53 "LivingNumbersModel" "sheetLane" "[I" ∈ wsX10_put := List.mem_of_getElem? (i := 2) rfl
theorem i_X10_cell_10 : ∀ w ∈ u_ws RX10 TX10 22, w ∈ wsX10_cell := fun w h => List.mem_cons_of_mem _ (List.mem_append_right _ h)
theorem q_X10_cell_1 : Cond.fieldLink RX10 64 "LivingNumbersModel" "fault" "I" ∈ wsX10_cell := List.mem_of_getElem? (i := 1) rfl
theorem q_X10_cell_2 : Cond.constantLong RX10 80 (2) ∈ wsX10_cell := List.mem_of_getElem? (i := 2) rfl
theorem q_X10_cell_3 : Cond.fieldLink RX10 50 "LivingNumbersModel" "sheetSize" "[I" ∈ wsX10_cell := List.mem_of_getElem? (i := 3) rfl
theorem q_X10_cell_5 : Cond.fieldLink RX10 56 "LivingNumbersModel" "sheet" "[I" ∈ wsX10_cell := List.mem_of_getElem? (i := 5) rfl
theorem hv_X10_failedLong : yX10_failedLong.cls = RX10 ∧ yX10_failedLong.cls ≠ "java/lang/invoke/MethodHandle" ∧ yX10_failedLong.cls ≠ "java/lang/invoke/VarHandle" ∧ (parseMethodDescriptor yX10_failedLong.desc).map (fun d => d.parameters.length) = some 1 := by decide +kernel
theorem q_X10_cell_4 : Cond.fieldLink RX10 53 "LivingNumbersModel" "sheetLane" "[I" ∈ wsX10_cell := List.mem_of_getElem? (i := 4) rfl
theorem i_X10_copy_10 : ∀ w ∈ u_ws RX10 TX10 22, w ∈ wsX10_copy := fun w h => List.mem_cons_of_mem _ (List.mem_append_right _ h)
theorem q_X10_copy_1 : Cond.fieldLink RX10 50 "LivingNumbersModel" "sheetSize" "[I" ∈ wsX10_copy := List.mem_of_getElem? (i := 1) rfl
theorem q_X10_copy_2 : Cond.fieldLink RX10 53 "LivingNumbersModel" "sheetLane" "[I" ∈ wsX10_copy := List.mem_of_getElem? (i := 2) rfl
theorem q_X10_copy_4 : Cond.fieldLink RX10 56 "LivingNumbersModel" "sheet" "[I" ∈ wsX10_copy := List.mem_of_getElem? (i := 4) rfl
theorem q_X10_copy_3 : Cond.fieldLink RX10 59 "LivingNumbersModel" "hands" "[I" ∈ wsX10_copy := List.mem_of_getElem? (i := 3) rfl
theorem i_X10_traced_10 : ∀ w ∈ u_ws RX10 TX10 22, w ∈ wsX10_traced := fun w h => List.mem_cons_of_mem _ (List.mem_append_right _ h)
theorem q_X10_traced_1 : Cond.fieldLink RX10 203 "LivingNumbersModel" "traceNow" "I" ∈ wsX10_traced := List.mem_of_getElem? (i := 1) rfl
theorem i_X10_tell_10 : ∀ w ∈ u_ws RX10 TX10 22, w ∈ wsX10_tell := fun w h => List.mem_cons_of_mem _ (List.mem_append_right _ h)
theorem q_X10_tell_1 : Cond.fieldLink RX10 7 "LivingNumbersModel" "kindOf" "[I" ∈ wsX10_tell := List.mem_of_getElem? (i := 1) rfl
theorem hv_X10_traced : yX10_traced.cls = RX10 ∧ yX10_traced.cls ≠ "java/lang/invoke/MethodHandle" ∧ yX10_traced.cls ≠ "java/lang/invoke/VarHandle" ∧ (parseMethodDescriptor yX10_traced.desc).map (fun d => d.parameters.length) = some 1 := by decide +kernel
theorem q_X10_tell_2 : Cond.fieldLink RX10 16 "LivingNumbersModel" "numberOf" "[I" ∈ wsX10_tell := List.mem_of_getElem? (i := 2) rfl
theorem i_X10_mourn_10 : ∀ w ∈ u_ws RX10 TX10 22, w ∈ wsX10_mourn := fun w h => List.mem_cons_of_mem _ (List.mem_append_right _ h)
theorem q_X10_mourn_1 : Cond.fieldLink RX10 7 "LivingNumbersModel" "kindOf" "[I" ∈ wsX10_mourn := List.mem_of_getElem? (i := 1) rfl
theorem q_X10_as_1 : Cond.constantLong RX10 80 (2) ∈ wsX10_as := List.mem_of_getElem? (i := 1) rfl
theorem i_X10_as_10 : ∀ w ∈ u_ws RX10 TX10 22, w ∈ wsX10_as := fun w h => List.mem_cons_of_mem _ (List.mem_append_right _ h)
theorem q_X10_as_2 : Cond.fieldLink RX10 7 "LivingNumbersModel" "kindOf" "[I" ∈ wsX10_as := List.mem_of_getElem? (i := 2) rfl
theorem i_X10_trace_10 : ∀ w ∈ u_ws RX10 TX10 22, w ∈ wsX10_trace := fun w h => List.mem_cons_of_mem _ (List.mem_append_right _ h)
theorem q_X10_trace_1 : Cond.fieldLink RX10 203 "LivingNumbersModel" "traceNow" "I" ∈ wsX10_trace := List.mem_of_getElem? (i := 1) rfl
theorem i_X10_fault_10 : ∀ w ∈ u_ws RX10 TX10 22, w ∈ wsX10_fault := fun w h => List.mem_cons_of_mem _ (List.mem_append_right _ h)
theorem q_X10_fault_1 : Cond.fieldLink RX10 64 "LivingNumbersModel" "fault" "I" ∈ wsX10_fault := List.mem_of_getElem? (i := 1) rfl
theorem i_X10_many_10 : ∀ w ∈ u_ws RX10 TX10 22, w ∈ wsX10_many := fun w h => List.mem_cons_of_mem _ (List.mem_append_right _ h)
theorem q_X10_many_1 : Cond.fieldLink RX10 93 "LivingNumbersModel" "people" "I" ∈ wsX10_many := List.mem_of_getElem? (i := 1) rfl
set_option maxHeartbeats 1000000 in
set_option maxRecDepth 20000 in
theorem c_X10_failedLong (l : Launch) (E : zE) (ad : Nat → Nat) (flt ppl : Int) (kd vl nb fr tl : Int → Int) (rA rP : Int) (rk rv rn rf rt can fw fs ss sl sh hd : Int → Int) (tr : Int) (f : Int) : zMl l E yX10_failedLong wsX10_failedLong (zr 2 0 0) [.ref (ad 0), .int (jI (f))] (mW E ad flt ppl kd vl nb fr tl rA rP rk rv rn rf rt can fw fs ss sl sh hd tr) (fun _ => True) (fun r (u : Unit) => r = -9223372036854775808) (fun (u : Unit) => mW E ad f ppl kd vl nb fr tl rA rP rk rv rn rf rt can fw fs ss sl sh hd tr) 0 0 := by
  refine zMl_of (own := RX10) (cc := cX10_failedLong) (maxL := 2) (by decide) rfl (Nat.le_of_ble_eq_true rfl) rfl ?_
  intro p e s m args below meth c Q A S hK hA hS hP hD hAe hG hQ ls hl
  have hl : lv_has ls 2 [(0, .ref (ad 0)), (1, .int (jI (f)))] := hl
  refine lv_aload_n S.1 S.2.1 dX10_failedLong_0 rfl (lv_at hl 0 rfl) ?_
  refine lv_iload_n S.1 S.2.1 dX10_failedLong_1 rfl (lv_at hl 1 rfl) ?_
  refine z_puti S hK hP hD hS 0 rfl rfl 0 (by decide) i_X10_failedLong_10 q_X10_failedLong_1 tyX10 tyX10_ok nmX10 rfl (by decide +kernel) (Nat.le_of_ble_eq_true rfl) dX10_failedLong_2 (fun H locs hP hD hS => ?_)
  have hP : zP E (mW E ad f ppl kd vl nb fr tl rA rP rk rv rn rf rt can fw fs ss sl sh hd tr) H := hP
  have hD : va_D A (mW E ad f ppl kd vl nb fr tl rA rP rk rv rn rf rt can fw fs ss sl sh hd tr) := hD
  refine z_rl (z_rS S hK (c_X10_nothing l E ) gX10_failedLong_X10_nothing rfl hs_X10_nothing ⟨Nat.le_of_ble_eq_true rfl, Nat.le_of_ble_eq_true rfl⟩ trivial hl.1 rfl (Nat.le_of_ble_eq_true rfl) ⟨by decide, by decide⟩ rfl dX10_failedLong_5) (fun r_5 h_5 => ?_)
  rw [h_5]
  exact hQ (-9223372036854775808) (()) _ _ (by omega) hP hD hS _ _ dX10_failedLong_8

set_option maxHeartbeats 1000000 in
set_option maxRecDepth 20000 in
theorem c_X10_noCell (l : Launch) (E : zE) (ad : Nat → Nat) (flt ppl : Int) (kd vl nb fr tl : Int → Int) (rA rP : Int) (rk rv rn rf rt can fw fs ss sl sh hd : Int → Int) (tr : Int) (k : Int) (i : Int) (hk : 0 ≤ k ∧ k ≤ 3) (h_i : -2147483648 ≤ i ∧ i ≤ 2147483647) (hsh : zShe ss sl) : zRi l E yX10_noCell wsX10_noCell (zr 2 0 0) [.ref (ad 0), .int (jI (k)), .int (jI (i))] (fun H => zP E (mW E ad flt ppl kd vl nb fr tl rA rP rk rv rn rf rt can fw fs ss sl sh hd tr) H) (fun r => (ss k < 0 ∧ r = 1) ∨ ((0 ≤ i ∧ i < ss k) ∧ r = 0) ∨ ((0 ≤ ss k ∧ (i < 0 ∨ ss k ≤ i)) ∧ r = 3)) := by
  refine zRi_of (own := RX10) (cc := cX10_noCell) (maxL := 3) (by decide) rfl (Nat.le_of_ble_eq_true rfl) rfl ?_
  intro p e s m args below meth c Q S hK hP hQ ls hl
  have hl : lv_has ls 3 [(0, .ref (ad 0)), (1, .int (jI (k))), (2, .int (jI (i)))] := hl
  refine lv_aload_n S.1 S.2.1 dX10_noCell_0 rfl (lv_at hl 0 rfl) ?_
  refine z_get S hK hP 0 rfl rfl 17 (by decide) i_X10_noCell_10 q_X10_noCell_1 rfl dX10_noCell_1 ?_
  refine lv_iload_n S.1 S.2.1 dX10_noCell_4 rfl (lv_at hl 1 rfl) ?_
  refine z_iald S hK hP 14 rfl (by omega) dX10_noCell_5 ?_
  have hf_1 := hsh (k) (by omega) (by omega)
  refine z_if_ge (tgt := 13) S dX10_noCell_6 (by decide) (by omega) (fun c_6 => ?_) (fun c_6 => ?_)
  · skip
    refine lv_iload_n S.1 S.2.1 dX10_noCell_13 rfl (lv_at hl 2 rfl) ?_
    refine z_i2l S (by omega) dX10_noCell_14 ?_
    refine z_lconst (z := 0) S (by decide +kernel) dX10_noCell_15 ?_
    refine lv_aload_n S.1 S.2.1 dX10_noCell_16 rfl (lv_at hl 0 rfl) ?_
    refine z_get S hK hP 0 rfl rfl 17 (by decide) i_X10_noCell_10 q_X10_noCell_1 rfl dX10_noCell_17 ?_
    refine lv_iload_n S.1 S.2.1 dX10_noCell_20 rfl (lv_at hl 1 rfl) ?_
    refine z_iald S hK hP 14 rfl (by omega) dX10_noCell_21 ?_
    have hf_2 := hsh (k) (by omega) (by omega)
    refine z_i2l S (by omega) dX10_noCell_22 ?_
    refine z_lconst (z := 1) S (by decide +kernel) dX10_noCell_23 ?_
    refine z_lsub S dX10_noCell_24 ?_
    refine z_ri (z_rS S hK (c_X10_in l E i 0 ((ss (k)) - 1) (by omega) (by omega) (by omega)) gX10_noCell_X10_in rfl hs_X10_in ⟨Nat.le_of_ble_eq_true rfl, Nat.le_of_ble_eq_true rfl⟩ trivial hl.1 rfl (Nat.le_of_ble_eq_true rfl) ⟨by decide, by decide⟩ rfl dX10_noCell_25) (fun r_25 h_25 => ?_)
    refine z_if_eq (tgt := 35) S dX10_noCell_28 (by decide) (by omega) (fun c_28 => ?_) (fun c_28 => ?_)
    · skip
      refine z_iconst S dX10_noCell_35 ?_
      exact hQ (3) (by omega) _ _ dX10_noCell_36
    · skip
      refine z_iconst S dX10_noCell_31 ?_
      refine z_goto (tgt := 36) S dX10_noCell_32 (by decide) ?_
      exact hQ (0) (by omega) _ _ dX10_noCell_36
  · skip
    refine z_iconst S dX10_noCell_9 ?_
    refine z_goto (tgt := 36) S dX10_noCell_10 (by decide) ?_
    exact hQ (1) (by omega) _ _ dX10_noCell_36

set_option maxHeartbeats 1000000 in
set_option maxRecDepth 20000 in
theorem c_X10_sheet (l : Launch) (E : zE) (ad : Nat → Nat) (flt ppl : Int) (kd vl nb fr tl : Int → Int) (rA rP : Int) (rk rv rn rf rt can fw fs ss sl sh hd : Int → Int) (tr : Int) (k : Int) (lane : Int) (n : Int) (h_k : -2147483648 ≤ k ∧ k ≤ 2147483647) (h_lane : -2147483648 ≤ lane ∧ lane ≤ 2147483647) (h_n : -2147483648 ≤ n ∧ n ≤ 2147483647) : zMi l E yX10_sheet wsX10_sheet (zr 3 0 0) [.ref (ad 0), .int (jI (k)), .int (jI (lane)), .int (jI (n))] (mW E ad flt ppl kd vl nb fr tl rA rP rk rv rn rf rt can fw fs ss sl sh hd tr) (fun _ => True) (fun r (u : Int × ((Int → Int) × ((Int → Int) × (Int → Int)))) => zA_sheet ss sl sh k lane n r u.1 u.2.1 u.2.2.1 u.2.2.2) (fun (u : Int × ((Int → Int) × ((Int → Int) × (Int → Int)))) => mW E ad u.1 ppl kd vl nb fr tl rA rP rk rv rn rf rt can fw fs u.2.1 u.2.2.1 u.2.2.2 hd tr) 0 0 := by
  refine zMi_of (own := RX10) (cc := cX10_sheet) (maxL := 5) (by decide) rfl (Nat.le_of_ble_eq_true rfl) rfl ?_
  intro p e s m args below meth c Q A S hK hA hS hP hD hAe hG hQ ls hl
  have hl : lv_has ls 5 [(0, .ref (ad 0)), (1, .int (jI (k))), (2, .int (jI (lane))), (3, .int (jI (n)))] := hl
  refine lv_iload_n S.1 S.2.1 dX10_sheet_0 rfl (lv_at hl 1 rfl) ?_
  refine z_ri (z_rS S hK (c_X10_noSheet l E k (by omega)) gX10_sheet_X10_noSheet rfl hs_X10_noSheet ⟨Nat.le_of_ble_eq_true rfl, Nat.le_of_ble_eq_true rfl⟩ trivial hl.1 rfl (Nat.le_of_ble_eq_true rfl) ⟨by decide, by decide⟩ rfl dX10_sheet_1) (fun r_1 h_1 => ?_)
  refine z_if_eq (tgt := 13) S dX10_sheet_4 (by decide) (by omega) (fun c_4 => ?_) (fun c_4 => ?_)
  · skip
    refine lv_iload_n S.1 S.2.1 dX10_sheet_13 rfl (lv_at hl 2 rfl) ?_
    refine z_i2l S (by omega) dX10_sheet_14 ?_
    refine z_lconst (z := 0) S (by decide +kernel) dX10_sheet_15 ?_
    refine z_ldc2 (n := 2) S q_X10_sheet_1 (by decide +kernel) dX10_sheet_16 ?_
    refine z_ri (z_rS S hK (c_X10_in l E lane 0 2 (by omega) (by omega) (by omega)) gX10_sheet_X10_in rfl hs_X10_in ⟨Nat.le_of_ble_eq_true rfl, Nat.le_of_ble_eq_true rfl⟩ trivial hl.1 rfl (Nat.le_of_ble_eq_true rfl) ⟨by decide, by decide⟩ rfl dX10_sheet_19) (fun r_19 h_19 => ?_)
    refine z_if_eq (tgt := 31) S dX10_sheet_22 (by decide) (by omega) (fun c_22 => ?_) (fun c_22 => ?_)
    · skip
      refine lv_aload_n S.1 S.2.1 dX10_sheet_31 rfl (lv_at hl 0 rfl) ?_
      refine z_bipush S (by decide +kernel) dX10_sheet_32 ?_
      refine z_miw (z_mV S hK (c_X10_refused l E ad flt ppl kd vl nb fr tl rA rP rk rv rn rf rt can fw fs ss sl sh hd tr (-2) _) gX10_sheet_X10_refused rfl hv_X10_refused ⟨Nat.le_of_ble_eq_true rfl, Nat.le_of_ble_eq_true rfl⟩ (va_recv hK hP (ci := 10) (q0 := 0) rfl rfl) hP hD trivial hl.1 rfl (Nat.le_of_ble_eq_true rfl) ⟨by decide, by decide⟩ rfl dX10_sheet_34) hD hS hA (fun r_34 u H locs h_34 hP hD hS => ?_)
      rw [h_34]
      have hP : zP E (mW E ad 0 ppl kd vl nb fr tl rA rP rk rv rn rf rt can fw fs ss sl sh hd tr) H := hP
      have hD : va_D A (mW E ad 0 ppl kd vl nb fr tl rA rP rk rv rn rf rt can fw fs ss sl sh hd tr) := hD
      exact hQ (((-2))) ((0, (ss, (sl, sh)))) _ _ (Or.inl ⟨Or.inr ⟨by omega, Or.inl ⟨by omega, rfl, rfl⟩⟩, rfl, rfl, rfl⟩) hP hD hS _ _ dX10_sheet_37
    · skip
      refine lv_iload_n S.1 S.2.1 dX10_sheet_25 rfl (lv_at hl 3 rfl) ?_
      refine z_bipush S (by decide +kernel) dX10_sheet_26 ?_
      refine z_icmp_le (tgt := 38) S dX10_sheet_28 (by decide) (by omega) (fun c_28 => ?_) (fun c_28 => ?_)
      · skip
        refine lv_iload_n S.1 S.2.1 dX10_sheet_38 rfl (lv_at hl 3 rfl) ?_
        refine z_if_ge (tgt := 48) S dX10_sheet_39 (by decide) (by omega) (fun c_39 => ?_) (fun c_39 => ?_)
        · skip
          refine lv_aload_n S.1 S.2.1 dX10_sheet_48 rfl (lv_at hl 0 rfl) ?_
          refine z_get S hK hP 0 rfl rfl 17 (by decide) i_X10_sheet_10 q_X10_sheet_2 rfl dX10_sheet_49 ?_
          refine lv_iload_n S.1 S.2.1 dX10_sheet_52 rfl (lv_at hl 1 rfl) ?_
          refine lv_iload_n S.1 S.2.1 dX10_sheet_53 rfl (lv_at hl 3 rfl) ?_
          refine z_iast S hK hP hD hS 14 rfl (by omega) dX10_sheet_54 (fun H locs hP hD hS => ?_)
          have hP : zP E (mW E ad flt ppl kd vl nb fr tl rA rP rk rv rn rf rt can fw fs (zu ss k n) sl sh hd tr) H := hP
          have hD : va_D A (mW E ad flt ppl kd vl nb fr tl rA rP rk rv rn rf rt can fw fs (zu ss k n) sl sh hd tr) := hD
          refine lv_aload_n S.1 S.2.1 dX10_sheet_55 rfl (lv_at hl 0 rfl) ?_
          refine z_get S hK hP 0 rfl rfl 18 (by decide) i_X10_sheet_10 q_X10_sheet_3 rfl dX10_sheet_56 ?_
          refine lv_iload_n S.1 S.2.1 dX10_sheet_59 rfl (lv_at hl 1 rfl) ?_
          refine lv_iload_n S.1 S.2.1 dX10_sheet_60 rfl (lv_at hl 2 rfl) ?_
          refine z_iast S hK hP hD hS 15 rfl (by omega) dX10_sheet_61 (fun H locs hP hD hS => ?_)
          have hP : zP E (mW E ad flt ppl kd vl nb fr tl rA rP rk rv rn rf rt can fw fs (zu ss k n) (zu sl k lane) sh hd tr) H := hP
          have hD : va_D A (mW E ad flt ppl kd vl nb fr tl rA rP rk rv rn rf rt can fw fs (zu ss k n) (zu sl k lane) sh hd tr) := hD
          refine z_iconst S dX10_sheet_62 ?_
          refine lv_istore (lv' := [(4, .int (jI (0))), (0, .ref (ad 0)), (1, .int (jI (k))), (2, .int (jI (lane))), (3, .int (jI (n)))]) S.1 S.2.1 dX10_sheet_63 hl (by decide) rfl (fun ls hl => ?_)
          suffices HL_1 : ∀ (n_2 : Nat) (i : Int) (g : Int → Int), (n - i).toNat < n_2 → (0 ≤ i ∧ i ≤ n) → (g = zfill sh (100 * k) i 0) → ∀ (H : Heap) (locs : List Loc), zP E (mW E ad flt ppl kd vl nb fr tl rA rP rk rv rn rf rt can fw fs (zu ss k n) (zu sl k lane) g hd tr) H → va_D A (mW E ad flt ppl kd vl nb fr tl rA rP rk rv rn rf rt can fw fs (zu ss k n) (zu sl k lane) g hd tr) → va_S A s.heap H locs → ∀ (ls : Array Slot), lv_has ls 5 [(4, .int (jI (i))), (0, .ref (ad 0)), (1, .int (jI (k))), (2, .int (jI (lane))), (3, .int (jI (n)))] → W p l e (zr 3 0 0) s m args below meth c H locs 0 0 Q (F0 m 65 ls []) from
            HL_1 _ 0 sh (Nat.lt_succ_self _) (by omega) ((zfill_0 _ _ _).symm) _ _ hP hD hS ls (lv_sub hl [0, 1, 2, 3, 4] rfl)
          intro n_2
          induction n_2 with
          | zero => intro i g hm hi hg; exact absurd hm (Nat.not_lt_zero _)
          | succ n_2 ih_3 =>
            intro i g hm hi hg H locs hP hD hS ls hl
            refine lv_iload S.1 S.2.1 dX10_sheet_65 (lv_at hl 0 rfl) ?_
            refine lv_iload_n S.1 S.2.1 dX10_sheet_67 rfl (lv_at hl 4 rfl) ?_
            refine z_icmp_ge (tgt := 90) S dX10_sheet_68 (by decide) (by omega) (fun c_68 => ?_) (fun c_68 => ?_)
            · skip
              refine lv_aload_n S.1 S.2.1 dX10_sheet_90 rfl (lv_at hl 1 rfl) ?_
              refine z_iconst S dX10_sheet_91 ?_
              refine z_miw (z_mV S hK (c_X10_refused l E ad flt ppl kd vl nb fr tl rA rP rk rv rn rf rt can fw fs (zu ss k n) (zu sl k lane) g hd tr 1 _) gX10_sheet_X10_refused rfl hv_X10_refused ⟨Nat.le_of_ble_eq_true rfl, Nat.le_of_ble_eq_true rfl⟩ (va_recv hK hP (ci := 10) (q0 := 0) rfl rfl) hP hD trivial hl.1 rfl (Nat.le_of_ble_eq_true rfl) ⟨by decide, by decide⟩ rfl dX10_sheet_92) hD hS hA (fun r_92 u H locs h_92 hP hD hS => ?_)
              rw [h_92]
              have hP : zP E (mW E ad 0 ppl kd vl nb fr tl rA rP rk rv rn rf rt can fw fs (zu ss k n) (zu sl k lane) g hd tr) H := hP
              have hD : va_D A (mW E ad 0 ppl kd vl nb fr tl rA rP rk rv rn rf rt can fw fs (zu ss k n) (zu sl k lane) g hd tr) := hD
              exact hQ (1) ((0, (zu ss k n, (zu sl k lane, g)))) _ _ (Or.inr ⟨⟨by omega, by omega, by omega, rfl, rfl⟩, rfl, rfl, by rw [hg, show i = n by omega]⟩) hP hD hS _ _ dX10_sheet_95
            · skip
              refine lv_aload_n S.1 S.2.1 dX10_sheet_71 rfl (lv_at hl 1 rfl) ?_
              refine z_get S hK hP 0 rfl rfl 19 (by decide) i_X10_sheet_10 q_X10_sheet_4 rfl dX10_sheet_72 ?_
              refine z_bipush S (by decide +kernel) dX10_sheet_75 ?_
              refine lv_iload_n S.1 S.2.1 dX10_sheet_77 rfl (lv_at hl 2 rfl) ?_
              refine z_imul S dX10_sheet_78 ?_
              refine lv_iload S.1 S.2.1 dX10_sheet_79 (lv_at hl 0 rfl) ?_
              refine z_iadd S dX10_sheet_81 ?_
              refine z_iconst S dX10_sheet_82 ?_
              refine z_iast S hK hP hD hS 16 rfl (by omega) dX10_sheet_83 (fun H locs hP hD hS => ?_)
              have hP : zP E (mW E ad flt ppl kd vl nb fr tl rA rP rk rv rn rf rt can fw fs (zu ss k n) (zu sl k lane) (zu g ((100 * k) + i) 0) hd tr) H := hP
              have hD : va_D A (mW E ad flt ppl kd vl nb fr tl rA rP rk rv rn rf rt can fw fs (zu ss k n) (zu sl k lane) (zu g ((100 * k) + i) 0) hd tr) := hD
              refine z_iinc (lv' := [(4, .int (jI (i + 1))), (0, .ref (ad 0)), (1, .int (jI (k))), (2, .int (jI (lane))), (3, .int (jI (n)))]) S hl (k := 0) rfl (by decide) rfl dX10_sheet_84 (fun ls hl => ?_)
              refine z_goto (tgt := 65) S dX10_sheet_87 (by decide) ?_
              exact ih_3 (i + 1) (zu g ((100 * k) + i) 0) (by omega) (by omega) (by rw [hg]; exact zfill_next sh (by omega)) _ _ hP hD hS ls (lv_sub hl [0, 1, 2, 3, 4] rfl)
        · skip
          refine lv_aload_n S.1 S.2.1 dX10_sheet_42 rfl (lv_at hl 0 rfl) ?_
          refine z_iconst S dX10_sheet_43 ?_
          refine z_miw (z_mV S hK (c_X10_failed l E ad flt ppl kd vl nb fr tl rA rP rk rv rn rf rt can fw fs ss sl sh hd tr 4 _) gX10_sheet_X10_failed rfl hv_X10_failed ⟨Nat.le_of_ble_eq_true rfl, Nat.le_of_ble_eq_true rfl⟩ (va_recv hK hP (ci := 10) (q0 := 0) rfl rfl) hP hD trivial hl.1 rfl (Nat.le_of_ble_eq_true rfl) ⟨by decide, by decide⟩ rfl dX10_sheet_44) hD hS hA (fun r_44 u H locs h_44 hP hD hS => ?_)
          rw [h_44]
          have hP : zP E (mW E ad 4 ppl kd vl nb fr tl rA rP rk rv rn rf rt can fw fs ss sl sh hd tr) H := hP
          have hD : va_D A (mW E ad 4 ppl kd vl nb fr tl rA rP rk rv rn rf rt can fw fs ss sl sh hd tr) := hD
          exact hQ (-10 - 4) ((4, (ss, (sl, sh)))) _ _ (Or.inl ⟨Or.inr ⟨by omega, Or.inr ⟨by omega, by omega, rfl, rfl⟩⟩, rfl, rfl, rfl⟩) hP hD hS _ _ dX10_sheet_47
      · skip
        refine lv_aload_n S.1 S.2.1 dX10_sheet_31 rfl (lv_at hl 0 rfl) ?_
        refine z_bipush S (by decide +kernel) dX10_sheet_32 ?_
        refine z_miw (z_mV S hK (c_X10_refused l E ad flt ppl kd vl nb fr tl rA rP rk rv rn rf rt can fw fs ss sl sh hd tr (-2) _) gX10_sheet_X10_refused rfl hv_X10_refused ⟨Nat.le_of_ble_eq_true rfl, Nat.le_of_ble_eq_true rfl⟩ (va_recv hK hP (ci := 10) (q0 := 0) rfl rfl) hP hD trivial hl.1 rfl (Nat.le_of_ble_eq_true rfl) ⟨by decide, by decide⟩ rfl dX10_sheet_34) hD hS hA (fun r_34 u H locs h_34 hP hD hS => ?_)
        rw [h_34]
        have hP : zP E (mW E ad 0 ppl kd vl nb fr tl rA rP rk rv rn rf rt can fw fs ss sl sh hd tr) H := hP
        have hD : va_D A (mW E ad 0 ppl kd vl nb fr tl rA rP rk rv rn rf rt can fw fs ss sl sh hd tr) := hD
        exact hQ (((-2))) ((0, (ss, (sl, sh)))) _ _ (Or.inl ⟨Or.inr ⟨by omega, Or.inl ⟨by omega, rfl, rfl⟩⟩, rfl, rfl, rfl⟩) hP hD hS _ _ dX10_sheet_37
  · skip
    refine lv_aload_n S.1 S.2.1 dX10_sheet_7 rfl (lv_at hl 0 rfl) ?_
    refine z_iconst S dX10_sheet_8 ?_
    refine z_miw (z_mV S hK (c_X10_refused l E ad flt ppl kd vl nb fr tl rA rP rk rv rn rf rt can fw fs ss sl sh hd tr (-1) _) gX10_sheet_X10_refused rfl hv_X10_refused ⟨Nat.le_of_ble_eq_true rfl, Nat.le_of_ble_eq_true rfl⟩ (va_recv hK hP (ci := 10) (q0 := 0) rfl rfl) hP hD trivial hl.1 rfl (Nat.le_of_ble_eq_true rfl) ⟨by decide, by decide⟩ rfl dX10_sheet_9) hD hS hA (fun r_9 u H locs h_9 hP hD hS => ?_)
    rw [h_9]
    have hP : zP E (mW E ad 0 ppl kd vl nb fr tl rA rP rk rv rn rf rt can fw fs ss sl sh hd tr) H := hP
    have hD : va_D A (mW E ad 0 ppl kd vl nb fr tl rA rP rk rv rn rf rt can fw fs ss sl sh hd tr) := hD
    exact hQ (((-1))) ((0, (ss, (sl, sh)))) _ _ (Or.inl ⟨Or.inl ⟨by omega, rfl, rfl⟩, rfl, rfl, rfl⟩) hP hD hS _ _ dX10_sheet_12

set_option maxHeartbeats 1000000 in
set_option maxRecDepth 20000 in
theorem c_X10_lose (l : Launch) (E : zE) (ad : Nat → Nat) (flt ppl : Int) (kd vl nb fr tl : Int → Int) (rA rP : Int) (rk rv rn rf rt can fw fs ss sl sh hd : Int → Int) (tr : Int) (k : Int) (h_k : -2147483648 ≤ k ∧ k ≤ 2147483647) (hsh : zShe ss sl) : zMi l E yX10_lose wsX10_lose (zr 3 0 0) [.ref (ad 0), .int (jI (k))] (mW E ad flt ppl kd vl nb fr tl rA rP rk rv rn rf rt can fw fs ss sl sh hd tr) (fun _ => True) (fun r (u : Int → Int) => zA_lose ss k r u) (fun (u : Int → Int) => mW E ad flt ppl kd vl nb fr tl rA rP rk rv rn rf rt can fw fs u sl sh hd tr) 0 0 := by
  refine zMi_of (own := RX10) (cc := cX10_lose) (maxL := 3) (by decide) rfl (Nat.le_of_ble_eq_true rfl) rfl ?_
  intro p e s m args below meth c Q A S hK hA hS hP hD hAe hG hQ ls hl
  have hl : lv_has ls 3 [(0, .ref (ad 0)), (1, .int (jI (k)))] := hl
  refine lv_iload_n S.1 S.2.1 dX10_lose_0 rfl (lv_at hl 1 rfl) ?_
  refine z_ri (z_rS S hK (c_X10_noSheet l E k (by omega)) gX10_lose_X10_noSheet rfl hs_X10_noSheet ⟨Nat.le_of_ble_eq_true rfl, Nat.le_of_ble_eq_true rfl⟩ trivial hl.1 rfl (Nat.le_of_ble_eq_true rfl) ⟨by decide, by decide⟩ rfl dX10_lose_1) (fun r_1 h_1 => ?_)
  refine z_if_eq (tgt := 9) S dX10_lose_4 (by decide) (by omega) (fun c_4 => ?_) (fun c_4 => ?_)
  · skip
    refine lv_aload_n S.1 S.2.1 dX10_lose_9 rfl (lv_at hl 0 rfl) ?_
    refine z_get S hK hP 0 rfl rfl 17 (by decide) i_X10_lose_10 q_X10_lose_1 rfl dX10_lose_10 ?_
    refine lv_iload_n S.1 S.2.1 dX10_lose_13 rfl (lv_at hl 1 rfl) ?_
    refine z_iald S hK hP 14 rfl (by omega) dX10_lose_14 ?_
    have hf_1 := hsh (k) (by omega) (by omega)
    refine z_if_ge (tgt := 22) S dX10_lose_15 (by decide) (by omega) (fun c_15 => ?_) (fun c_15 => ?_)
    · skip
      refine z_iconst S dX10_lose_22 ?_
      refine lv_istore_n (lv' := [(2, .int (jI (1))), (0, .ref (ad 0)), (1, .int (jI (k)))]) S.1 S.2.1 dX10_lose_23 rfl hl (by decide) rfl (fun ls hl => ?_)
      refine lv_aload_n S.1 S.2.1 dX10_lose_24 rfl (lv_at hl 1 rfl) ?_
      refine z_get S hK hP 0 rfl rfl 17 (by decide) i_X10_lose_10 q_X10_lose_1 rfl dX10_lose_25 ?_
      refine lv_iload_n S.1 S.2.1 dX10_lose_28 rfl (lv_at hl 2 rfl) ?_
      refine z_iconst S dX10_lose_29 ?_
      refine z_iast S hK hP hD hS 14 rfl (by omega) dX10_lose_30 (fun H locs hP hD hS => ?_)
      have hP : zP E (mW E ad flt ppl kd vl nb fr tl rA rP rk rv rn rf rt can fw fs (zu ss k (-1)) sl sh hd tr) H := hP
      have hD : va_D A (mW E ad flt ppl kd vl nb fr tl rA rP rk rv rn rf rt can fw fs (zu ss k (-1)) sl sh hd tr) := hD
      refine lv_iload_n S.1 S.2.1 dX10_lose_31 rfl (lv_at hl 0 rfl) ?_
      exact hQ (1) (zu ss k (-1)) _ _ (Or.inr ⟨⟨by omega, by omega⟩, rfl⟩) hP hD hS _ _ dX10_lose_32
    · skip
      refine z_iconst S dX10_lose_18 ?_
      refine z_goto (tgt := 23) S dX10_lose_19 (by decide) ?_
      refine lv_istore_n (lv' := [(2, .int (jI (0))), (0, .ref (ad 0)), (1, .int (jI (k)))]) S.1 S.2.1 dX10_lose_23 rfl hl (by decide) rfl (fun ls hl => ?_)
      refine lv_aload_n S.1 S.2.1 dX10_lose_24 rfl (lv_at hl 1 rfl) ?_
      refine z_get S hK hP 0 rfl rfl 17 (by decide) i_X10_lose_10 q_X10_lose_1 rfl dX10_lose_25 ?_
      refine lv_iload_n S.1 S.2.1 dX10_lose_28 rfl (lv_at hl 2 rfl) ?_
      refine z_iconst S dX10_lose_29 ?_
      refine z_iast S hK hP hD hS 14 rfl (by omega) dX10_lose_30 (fun H locs hP hD hS => ?_)
      have hP : zP E (mW E ad flt ppl kd vl nb fr tl rA rP rk rv rn rf rt can fw fs (zu ss k (-1)) sl sh hd tr) H := hP
      have hD : va_D A (mW E ad flt ppl kd vl nb fr tl rA rP rk rv rn rf rt can fw fs (zu ss k (-1)) sl sh hd tr) := hD
      refine lv_iload_n S.1 S.2.1 dX10_lose_31 rfl (lv_at hl 0 rfl) ?_
      exact hQ (0) (zu ss k (-1)) _ _ (Or.inr ⟨⟨by omega, by omega⟩, rfl⟩) hP hD hS _ _ dX10_lose_32
  · skip
    refine z_iconst S dX10_lose_7 ?_
    exact hQ (-1) (ss) _ _ (Or.inl ⟨⟨by omega, rfl⟩, rfl⟩) hP hD hS _ _ dX10_lose_8

set_option maxHeartbeats 1000000 in
set_option maxRecDepth 20000 in
theorem c_X10_put (l : Launch) (E : zE) (ad : Nat → Nat) (flt ppl : Int) (kd vl nb fr tl : Int → Int) (rA rP : Int) (rk rv rn rf rt can fw fs ss sl sh hd : Int → Int) (tr : Int) (k : Int) (i : Int) (v : Int) (h_k : -2147483648 ≤ k ∧ k ≤ 2147483647) (h_i : -2147483648 ≤ i ∧ i ≤ 2147483647) (h_v : -2147483648 ≤ v ∧ v ≤ 2147483647) (hsh : zShe ss sl) : zMi l E yX10_put wsX10_put (zr 3 0 0) [.ref (ad 0), .int (jI (k)), .int (jI (i)), .int (jI (v))] (mW E ad flt ppl kd vl nb fr tl rA rP rk rv rn rf rt can fw fs ss sl sh hd tr) (fun _ => True) (fun r (u : Int × (Int → Int)) => zA_put ss sl sh k i v r u.1 u.2) (fun (u : Int × (Int → Int)) => mW E ad u.1 ppl kd vl nb fr tl rA rP rk rv rn rf rt can fw fs ss sl u.2 hd tr) 0 0 := by
  refine zMi_of (own := RX10) (cc := cX10_put) (maxL := 4) (by decide) rfl (Nat.le_of_ble_eq_true rfl) rfl ?_
  intro p e s m args below meth c Q A S hK hA hS hP hD hAe hG hQ ls hl
  have hl : lv_has ls 4 [(0, .ref (ad 0)), (1, .int (jI (k))), (2, .int (jI (i))), (3, .int (jI (v)))] := hl
  refine lv_iload_n S.1 S.2.1 dX10_put_0 rfl (lv_at hl 1 rfl) ?_
  refine z_ri (z_rS S hK (c_X10_noSheet l E k (by omega)) gX10_put_X10_noSheet rfl hs_X10_noSheet ⟨Nat.le_of_ble_eq_true rfl, Nat.le_of_ble_eq_true rfl⟩ trivial hl.1 rfl (Nat.le_of_ble_eq_true rfl) ⟨by decide, by decide⟩ rfl dX10_put_1) (fun r_1 h_1 => ?_)
  refine z_if_eq (tgt := 13) S dX10_put_4 (by decide) (by omega) (fun c_4 => ?_) (fun c_4 => ?_)
  · skip
    refine lv_aload_n S.1 S.2.1 dX10_put_13 rfl (lv_at hl 0 rfl) ?_
    refine lv_iload_n S.1 S.2.1 dX10_put_14 rfl (lv_at hl 1 rfl) ?_
    refine lv_iload_n S.1 S.2.1 dX10_put_15 rfl (lv_at hl 2 rfl) ?_
    refine z_ri (z_rV S hK (c_X10_noCell l E ad flt ppl kd vl nb fr tl rA rP rk rv rn rf rt can fw fs ss sl sh hd tr k i (by omega) (by omega) (hsh)) gX10_put_X10_noCell rfl hv_X10_noCell ⟨Nat.le_of_ble_eq_true rfl, Nat.le_of_ble_eq_true rfl⟩ (va_recv hK hP (ci := 10) (q0 := 0) rfl rfl) hP hl.1 rfl (Nat.le_of_ble_eq_true rfl) ⟨by decide, by decide⟩ rfl dX10_put_16) (fun r_16 h_16 => ?_)
    refine z_if_le (tgt := 33) S dX10_put_19 (by decide) (by omega) (fun c_19 => ?_) (fun c_19 => ?_)
    · skip
      have hss := hsh k (by omega) (by omega)
      refine lv_aload_n S.1 S.2.1 dX10_put_33 rfl (lv_at hl 0 rfl) ?_
      refine z_get S hK hP 0 rfl rfl 19 (by decide) i_X10_put_10 q_X10_put_1 rfl dX10_put_34 ?_
      refine z_bipush S (by decide +kernel) dX10_put_37 ?_
      refine lv_iload_n S.1 S.2.1 dX10_put_39 rfl (lv_at hl 1 rfl) ?_
      refine z_imul S dX10_put_40 ?_
      refine lv_iload_n S.1 S.2.1 dX10_put_41 rfl (lv_at hl 2 rfl) ?_
      refine z_iadd S dX10_put_42 ?_
      refine lv_aload_n S.1 S.2.1 dX10_put_43 rfl (lv_at hl 0 rfl) ?_
      refine z_get S hK hP 0 rfl rfl 18 (by decide) i_X10_put_10 q_X10_put_2 rfl dX10_put_44 ?_
      refine lv_iload_n S.1 S.2.1 dX10_put_47 rfl (lv_at hl 1 rfl) ?_
      refine z_iald S hK hP 15 rfl (by omega) dX10_put_48 ?_
      have hf_1 := hsh (k) (by omega) (by omega)
      refine z_if_ne (tgt := 57) S dX10_put_49 (by decide) (by omega) (fun c_49 => ?_) (fun c_49 => ?_)
      · skip
        refine lv_aload_n S.1 S.2.1 dX10_put_57 rfl (lv_at hl 0 rfl) ?_
        refine z_get S hK hP 0 rfl rfl 18 (by decide) i_X10_put_10 q_X10_put_2 rfl dX10_put_58 ?_
        refine lv_iload_n S.1 S.2.1 dX10_put_61 rfl (lv_at hl 1 rfl) ?_
        refine z_iald S hK hP 15 rfl (by omega) dX10_put_62 ?_
        have hf_2 := hsh (k) (by omega) (by omega)
        refine z_iconst S dX10_put_63 ?_
        refine z_icmp_ne (tgt := 72) S dX10_put_64 (by decide) (by omega) (fun c_64 => ?_) (fun c_64 => ?_)
        · skip
          refine lv_iload_n S.1 S.2.1 dX10_put_72 rfl (lv_at hl 3 rfl) ?_
          refine z_iast S hK hP hD hS 16 rfl (by omega) dX10_put_73 (fun H locs hP hD hS => ?_)
          have hP : zP E (mW E ad flt ppl kd vl nb fr tl rA rP rk rv rn rf rt can fw fs ss sl (zu sh ((100 * k) + i) v) hd tr) H := hP
          have hD : va_D A (mW E ad flt ppl kd vl nb fr tl rA rP rk rv rn rf rt can fw fs ss sl (zu sh ((100 * k) + i) v) hd tr) := hD
          refine lv_aload_n S.1 S.2.1 dX10_put_74 rfl (lv_at hl 0 rfl) ?_
          refine z_iconst S dX10_put_75 ?_
          refine z_miw (z_mV S hK (c_X10_refused l E ad flt ppl kd vl nb fr tl rA rP rk rv rn rf rt can fw fs ss sl (zu sh ((100 * k) + i) v) hd tr 1 _) gX10_put_X10_refused rfl hv_X10_refused ⟨Nat.le_of_ble_eq_true rfl, Nat.le_of_ble_eq_true rfl⟩ (va_recv hK hP (ci := 10) (q0 := 0) rfl rfl) hP hD trivial hl.1 rfl (Nat.le_of_ble_eq_true rfl) ⟨by decide, by decide⟩ rfl dX10_put_76) hD hS hA (fun r_76 u H locs h_76 hP hD hS => ?_)
          rw [h_76]
          have hP : zP E (mW E ad 0 ppl kd vl nb fr tl rA rP rk rv rn rf rt can fw fs ss sl (zu sh ((100 * k) + i) v) hd tr) H := hP
          have hD : va_D A (mW E ad 0 ppl kd vl nb fr tl rA rP rk rv rn rf rt can fw fs ss sl (zu sh ((100 * k) + i) v) hd tr) := hD
          exact hQ (1) ((0, zu sh ((100 * k) + i) v)) _ _ (Or.inr ⟨⟨by omega, by omega, rfl, rfl⟩, by unfold zcut; first | rw [if_pos (by omega)] | rw [if_neg (by omega), if_pos (by omega)] | rw [if_neg (by omega), if_neg (by omega)]⟩) hP hD hS _ _ dX10_put_79
        · skip
          refine lv_iload_n S.1 S.2.1 dX10_put_67 rfl (lv_at hl 3 rfl) ?_
          refine z_i2s S dX10_put_68 ?_
          refine z_goto (tgt := 73) S dX10_put_69 (by decide) ?_
          refine z_iast S hK hP hD hS 16 rfl (by omega) dX10_put_73 (fun H locs hP hD hS => ?_)
          have hP : zP E (mW E ad flt ppl kd vl nb fr tl rA rP rk rv rn rf rt can fw fs ss sl (zu sh ((100 * k) + i) ((v).bmod 65536)) hd tr) H := hP
          have hD : va_D A (mW E ad flt ppl kd vl nb fr tl rA rP rk rv rn rf rt can fw fs ss sl (zu sh ((100 * k) + i) ((v).bmod 65536)) hd tr) := hD
          refine lv_aload_n S.1 S.2.1 dX10_put_74 rfl (lv_at hl 0 rfl) ?_
          refine z_iconst S dX10_put_75 ?_
          refine z_miw (z_mV S hK (c_X10_refused l E ad flt ppl kd vl nb fr tl rA rP rk rv rn rf rt can fw fs ss sl (zu sh ((100 * k) + i) ((v).bmod 65536)) hd tr 1 _) gX10_put_X10_refused rfl hv_X10_refused ⟨Nat.le_of_ble_eq_true rfl, Nat.le_of_ble_eq_true rfl⟩ (va_recv hK hP (ci := 10) (q0 := 0) rfl rfl) hP hD trivial hl.1 rfl (Nat.le_of_ble_eq_true rfl) ⟨by decide, by decide⟩ rfl dX10_put_76) hD hS hA (fun r_76 u H locs h_76 hP hD hS => ?_)
          rw [h_76]
          have hP : zP E (mW E ad 0 ppl kd vl nb fr tl rA rP rk rv rn rf rt can fw fs ss sl (zu sh ((100 * k) + i) ((v).bmod 65536)) hd tr) H := hP
          have hD : va_D A (mW E ad 0 ppl kd vl nb fr tl rA rP rk rv rn rf rt can fw fs ss sl (zu sh ((100 * k) + i) ((v).bmod 65536)) hd tr) := hD
          exact hQ (1) ((0, zu sh ((100 * k) + i) ((v).bmod 65536))) _ _ (Or.inr ⟨⟨by omega, by omega, rfl, rfl⟩, by unfold zcut; first | rw [if_pos (by omega)] | rw [if_neg (by omega), if_pos (by omega)] | rw [if_neg (by omega), if_neg (by omega)]⟩) hP hD hS _ _ dX10_put_79
      · skip
        refine lv_iload_n S.1 S.2.1 dX10_put_52 rfl (lv_at hl 3 rfl) ?_
        refine z_i2b S dX10_put_53 ?_
        refine z_goto (tgt := 73) S dX10_put_54 (by decide) ?_
        refine z_iast S hK hP hD hS 16 rfl (by omega) dX10_put_73 (fun H locs hP hD hS => ?_)
        have hP : zP E (mW E ad flt ppl kd vl nb fr tl rA rP rk rv rn rf rt can fw fs ss sl (zu sh ((100 * k) + i) ((v).bmod 256)) hd tr) H := hP
        have hD : va_D A (mW E ad flt ppl kd vl nb fr tl rA rP rk rv rn rf rt can fw fs ss sl (zu sh ((100 * k) + i) ((v).bmod 256)) hd tr) := hD
        refine lv_aload_n S.1 S.2.1 dX10_put_74 rfl (lv_at hl 0 rfl) ?_
        refine z_iconst S dX10_put_75 ?_
        refine z_miw (z_mV S hK (c_X10_refused l E ad flt ppl kd vl nb fr tl rA rP rk rv rn rf rt can fw fs ss sl (zu sh ((100 * k) + i) ((v).bmod 256)) hd tr 1 _) gX10_put_X10_refused rfl hv_X10_refused ⟨Nat.le_of_ble_eq_true rfl, Nat.le_of_ble_eq_true rfl⟩ (va_recv hK hP (ci := 10) (q0 := 0) rfl rfl) hP hD trivial hl.1 rfl (Nat.le_of_ble_eq_true rfl) ⟨by decide, by decide⟩ rfl dX10_put_76) hD hS hA (fun r_76 u H locs h_76 hP hD hS => ?_)
        rw [h_76]
        have hP : zP E (mW E ad 0 ppl kd vl nb fr tl rA rP rk rv rn rf rt can fw fs ss sl (zu sh ((100 * k) + i) ((v).bmod 256)) hd tr) H := hP
        have hD : va_D A (mW E ad 0 ppl kd vl nb fr tl rA rP rk rv rn rf rt can fw fs ss sl (zu sh ((100 * k) + i) ((v).bmod 256)) hd tr) := hD
        exact hQ (1) ((0, zu sh ((100 * k) + i) ((v).bmod 256))) _ _ (Or.inr ⟨⟨by omega, by omega, rfl, rfl⟩, by unfold zcut; first | rw [if_pos (by omega)] | rw [if_neg (by omega), if_pos (by omega)] | rw [if_neg (by omega), if_neg (by omega)]⟩) hP hD hS _ _ dX10_put_79
    · skip
      refine lv_aload_n S.1 S.2.1 dX10_put_22 rfl (lv_at hl 0 rfl) ?_
      refine lv_aload_n S.1 S.2.1 dX10_put_23 rfl (lv_at hl 0 rfl) ?_
      refine lv_iload_n S.1 S.2.1 dX10_put_24 rfl (lv_at hl 1 rfl) ?_
      refine lv_iload_n S.1 S.2.1 dX10_put_25 rfl (lv_at hl 2 rfl) ?_
      refine z_ri (z_rV S hK (c_X10_noCell l E ad flt ppl kd vl nb fr tl rA rP rk rv rn rf rt can fw fs ss sl sh hd tr k i (by omega) (by omega) (hsh)) gX10_put_X10_noCell rfl hv_X10_noCell ⟨Nat.le_of_ble_eq_true rfl, Nat.le_of_ble_eq_true rfl⟩ (va_recv hK hP (ci := 10) (q0 := 0) rfl rfl) hP hl.1 rfl (Nat.le_of_ble_eq_true rfl) ⟨by decide, by decide⟩ rfl dX10_put_26) (fun r_26 h_26 => ?_)
      refine z_miw (z_mV S hK (c_X10_failed l E ad flt ppl kd vl nb fr tl rA rP rk rv rn rf rt can fw fs ss sl sh hd tr r_26 _) gX10_put_X10_failed rfl hv_X10_failed ⟨Nat.le_of_ble_eq_true rfl, Nat.le_of_ble_eq_true rfl⟩ (va_recv hK hP (ci := 10) (q0 := 0) rfl rfl) hP hD trivial hl.1 rfl (Nat.le_of_ble_eq_true rfl) ⟨by decide, by decide⟩ rfl dX10_put_29) hD hS hA (fun r_29 u H locs h_29 hP hD hS => ?_)
      rw [h_29]
      have hP : zP E (mW E ad r_26 ppl kd vl nb fr tl rA rP rk rv rn rf rt can fw fs ss sl sh hd tr) H := hP
      have hD : va_D A (mW E ad r_26 ppl kd vl nb fr tl rA rP rk rv rn rf rt can fw fs ss sl sh hd tr) := hD
      exact hQ (-10 - r_26) ((r_26, sh)) _ _ (Or.inl ⟨Or.inr ⟨by omega, by rcases h_26 with h | h | h <;> first | exact Or.inl ⟨by omega, by omega, by omega⟩ | exact Or.inr ⟨by omega, by omega, by omega⟩ | omega⟩, rfl⟩) hP hD hS _ _ dX10_put_32
  · skip
    refine lv_aload_n S.1 S.2.1 dX10_put_7 rfl (lv_at hl 0 rfl) ?_
    refine z_iconst S dX10_put_8 ?_
    refine z_miw (z_mV S hK (c_X10_refused l E ad flt ppl kd vl nb fr tl rA rP rk rv rn rf rt can fw fs ss sl sh hd tr (-1) _) gX10_put_X10_refused rfl hv_X10_refused ⟨Nat.le_of_ble_eq_true rfl, Nat.le_of_ble_eq_true rfl⟩ (va_recv hK hP (ci := 10) (q0 := 0) rfl rfl) hP hD trivial hl.1 rfl (Nat.le_of_ble_eq_true rfl) ⟨by decide, by decide⟩ rfl dX10_put_9) hD hS hA (fun r_9 u H locs h_9 hP hD hS => ?_)
    rw [h_9]
    have hP : zP E (mW E ad 0 ppl kd vl nb fr tl rA rP rk rv rn rf rt can fw fs ss sl sh hd tr) H := hP
    have hD : va_D A (mW E ad 0 ppl kd vl nb fr tl rA rP rk rv rn rf rt can fw fs ss sl sh hd tr) := hD
    exact hQ (((-1))) ((0, sh)) _ _ (Or.inl ⟨Or.inl ⟨by omega, rfl, rfl⟩, rfl⟩) hP hD hS _ _ dX10_put_12

set_option maxHeartbeats 1000000 in
set_option maxRecDepth 20000 in
theorem c_X10_cell (l : Launch) (E : zE) (ad : Nat → Nat) (flt ppl : Int) (kd vl nb fr tl : Int → Int) (rA rP : Int) (rk rv rn rf rt can fw fs ss sl sh hd : Int → Int) (tr : Int) (k : Int) (i : Int) (lane : Int) (h_k : -2147483648 ≤ k ∧ k ≤ 2147483647) (h_i : -2147483648 ≤ i ∧ i ≤ 2147483647) (h_lane : -2147483648 ≤ lane ∧ lane ≤ 2147483647) (hsh : zShe ss sl) (hcr : zRg sh) : zMl l E yX10_cell wsX10_cell (zr 3 0 0) [.ref (ad 0), .int (jI (k)), .int (jI (i)), .int (jI (lane))] (mW E ad flt ppl kd vl nb fr tl rA rP rk rv rn rf rt can fw fs ss sl sh hd tr) (fun _ => True) (fun r (u : Int) => zA_cell ss sl sh k i lane r u) (fun (u : Int) => mW E ad u ppl kd vl nb fr tl rA rP rk rv rn rf rt can fw fs ss sl sh hd tr) 0 0 := by
  refine zMl_of (own := RX10) (cc := cX10_cell) (maxL := 4) (by decide) rfl (Nat.le_of_ble_eq_true rfl) rfl ?_
  intro p e s m args below meth c Q A S hK hA hS hP hD hAe hG hQ ls hl
  have hl : lv_has ls 4 [(0, .ref (ad 0)), (1, .int (jI (k))), (2, .int (jI (i))), (3, .int (jI (lane)))] := hl
  refine lv_aload_n S.1 S.2.1 dX10_cell_0 rfl (lv_at hl 0 rfl) ?_
  refine z_iconst S dX10_cell_1 ?_
  refine z_puti S hK hP hD hS 0 rfl rfl 0 (by decide) i_X10_cell_10 q_X10_cell_1 tyX10 tyX10_ok nmX10 rfl (by decide +kernel) (Nat.le_of_ble_eq_true rfl) dX10_cell_2 (fun H locs hP hD hS => ?_)
  have hP : zP E (mW E ad 0 ppl kd vl nb fr tl rA rP rk rv rn rf rt can fw fs ss sl sh hd tr) H := hP
  have hD : va_D A (mW E ad 0 ppl kd vl nb fr tl rA rP rk rv rn rf rt can fw fs ss sl sh hd tr) := hD
  refine lv_iload_n S.1 S.2.1 dX10_cell_5 rfl (lv_at hl 1 rfl) ?_
  refine z_ri (z_rS S hK (c_X10_noSheet l E k (by omega)) gX10_cell_X10_noSheet rfl hs_X10_noSheet ⟨Nat.le_of_ble_eq_true rfl, Nat.le_of_ble_eq_true rfl⟩ trivial hl.1 rfl (Nat.le_of_ble_eq_true rfl) ⟨by decide, by decide⟩ rfl dX10_cell_6) (fun r_6 h_6 => ?_)
  refine z_if_ne (tgt := 24) S dX10_cell_9 (by decide) (by omega) (fun c_9 => ?_) (fun c_9 => ?_)
  · skip
    refine z_rl (z_rS S hK (c_X10_nothing l E ) gX10_cell_X10_nothing rfl hs_X10_nothing ⟨Nat.le_of_ble_eq_true rfl, Nat.le_of_ble_eq_true rfl⟩ trivial hl.1 rfl (Nat.le_of_ble_eq_true rfl) ⟨by decide, by decide⟩ rfl dX10_cell_24) (fun r_24 h_24 => ?_)
    rw [h_24]
    exact hQ (-9223372036854775808) (0) _ _ (Or.inl ⟨by omega, rfl, rfl⟩) hP hD hS _ _ dX10_cell_27
  · skip
    refine lv_iload_n S.1 S.2.1 dX10_cell_12 rfl (lv_at hl 3 rfl) ?_
    refine z_i2l S (by omega) dX10_cell_13 ?_
    refine z_lconst (z := 0) S (by decide +kernel) dX10_cell_14 ?_
    refine z_ldc2 (n := 2) S q_X10_cell_2 (by decide +kernel) dX10_cell_15 ?_
    refine z_ri (z_rS S hK (c_X10_in l E lane 0 2 (by omega) (by omega) (by omega)) gX10_cell_X10_in rfl hs_X10_in ⟨Nat.le_of_ble_eq_true rfl, Nat.le_of_ble_eq_true rfl⟩ trivial hl.1 rfl (Nat.le_of_ble_eq_true rfl) ⟨by decide, by decide⟩ rfl dX10_cell_18) (fun r_18 h_18 => ?_)
    refine z_if_ne (tgt := 28) S dX10_cell_21 (by decide) (by omega) (fun c_21 => ?_) (fun c_21 => ?_)
    · skip
      refine lv_aload_n S.1 S.2.1 dX10_cell_28 rfl (lv_at hl 0 rfl) ?_
      refine z_get S hK hP 0 rfl rfl 17 (by decide) i_X10_cell_10 q_X10_cell_3 rfl dX10_cell_29 ?_
      refine lv_iload_n S.1 S.2.1 dX10_cell_32 rfl (lv_at hl 1 rfl) ?_
      refine z_iald S hK hP 14 rfl (by omega) dX10_cell_33 ?_
      have hf_1 := hsh (k) (by omega) (by omega)
      refine z_if_lt (tgt := 53) S dX10_cell_34 (by decide) (by omega) (fun c_34 => ?_) (fun c_34 => ?_)
      · skip
        refine lv_aload_n S.1 S.2.1 dX10_cell_53 rfl (lv_at hl 0 rfl) ?_
        refine lv_iload_n S.1 S.2.1 dX10_cell_54 rfl (lv_at hl 1 rfl) ?_
        refine lv_iload_n S.1 S.2.1 dX10_cell_55 rfl (lv_at hl 2 rfl) ?_
        refine z_ri (z_rV S hK (c_X10_noCell l E ad 0 ppl kd vl nb fr tl rA rP rk rv rn rf rt can fw fs ss sl sh hd tr k i (by omega) (by omega) (hsh)) gX10_cell_X10_noCell rfl hv_X10_noCell ⟨Nat.le_of_ble_eq_true rfl, Nat.le_of_ble_eq_true rfl⟩ (va_recv hK hP (ci := 10) (q0 := 0) rfl rfl) hP hl.1 rfl (Nat.le_of_ble_eq_true rfl) ⟨by decide, by decide⟩ rfl dX10_cell_56) (fun r_56 h_56 => ?_)
        refine z_if_le (tgt := 75) S dX10_cell_59 (by decide) (by omega) (fun c_59 => ?_) (fun c_59 => ?_)
        · skip
          have hss := hsh k (by omega) (by omega)
          refine lv_aload_n S.1 S.2.1 dX10_cell_75 rfl (lv_at hl 0 rfl) ?_
          refine z_get S hK hP 0 rfl rfl 19 (by decide) i_X10_cell_10 q_X10_cell_5 rfl dX10_cell_76 ?_
          refine z_bipush S (by decide +kernel) dX10_cell_79 ?_
          refine lv_iload_n S.1 S.2.1 dX10_cell_81 rfl (lv_at hl 1 rfl) ?_
          refine z_imul S dX10_cell_82 ?_
          refine lv_iload_n S.1 S.2.1 dX10_cell_83 rfl (lv_at hl 2 rfl) ?_
          refine z_iadd S dX10_cell_84 ?_
          refine z_iald S hK hP 16 rfl (by omega) dX10_cell_85 ?_
          have hf_2 := hcr (((100 * k) + i))
          refine z_i2l S (by omega) dX10_cell_86 ?_
          exact hQ (sh ((100 * k) + i)) (0) _ _ (Or.inr ⟨by omega, by first | exact Or.inr (Or.inr ⟨by omega, Or.inr ⟨by omega, rfl, rfl⟩⟩) | exact Or.inr (Or.inl ⟨by omega, rfl, by omega⟩) | exact Or.inr (Or.inr ⟨by omega, Or.inl ⟨by omega, rfl, by omega⟩⟩) | (rcases h_66 with h | h | h <;> first | exact Or.inr (Or.inl ⟨by omega, rfl, by omega⟩) | exact Or.inr (Or.inr ⟨by omega, Or.inl ⟨by omega, rfl, by omega⟩⟩) | omega)⟩) hP hD hS _ _ dX10_cell_87
        · skip
          refine lv_aload_n S.1 S.2.1 dX10_cell_62 rfl (lv_at hl 0 rfl) ?_
          refine lv_aload_n S.1 S.2.1 dX10_cell_63 rfl (lv_at hl 0 rfl) ?_
          refine lv_iload_n S.1 S.2.1 dX10_cell_64 rfl (lv_at hl 1 rfl) ?_
          refine lv_iload_n S.1 S.2.1 dX10_cell_65 rfl (lv_at hl 2 rfl) ?_
          refine z_ri (z_rV S hK (c_X10_noCell l E ad 0 ppl kd vl nb fr tl rA rP rk rv rn rf rt can fw fs ss sl sh hd tr k i (by omega) (by omega) (hsh)) gX10_cell_X10_noCell rfl hv_X10_noCell ⟨Nat.le_of_ble_eq_true rfl, Nat.le_of_ble_eq_true rfl⟩ (va_recv hK hP (ci := 10) (q0 := 0) rfl rfl) hP hl.1 rfl (Nat.le_of_ble_eq_true rfl) ⟨by decide, by decide⟩ rfl dX10_cell_66) (fun r_66 h_66 => ?_)
          refine z_mlw (z_mV S hK (c_X10_failedLong l E ad 0 ppl kd vl nb fr tl rA rP rk rv rn rf rt can fw fs ss sl sh hd tr r_66 _) gX10_cell_X10_failedLong rfl hv_X10_failedLong ⟨Nat.le_of_ble_eq_true rfl, Nat.le_of_ble_eq_true rfl⟩ (va_recv hK hP (ci := 10) (q0 := 0) rfl rfl) hP hD trivial hl.1 rfl (Nat.le_of_ble_eq_true rfl) ⟨by decide, by decide⟩ rfl dX10_cell_69) hD hS hA (fun r_69 u H locs h_69 hP hD hS => ?_)
          rw [h_69]
          have hP : zP E (mW E ad r_66 ppl kd vl nb fr tl rA rP rk rv rn rf rt can fw fs ss sl sh hd tr) H := hP
          have hD : va_D A (mW E ad r_66 ppl kd vl nb fr tl rA rP rk rv rn rf rt can fw fs ss sl sh hd tr) := hD
          refine z_goto (tgt := 87) S dX10_cell_72 (by decide) ?_
          exact hQ (-9223372036854775808) (r_66) _ _ (Or.inr ⟨by omega, by first | exact Or.inr (Or.inr ⟨by omega, Or.inr ⟨by omega, rfl, rfl⟩⟩) | exact Or.inr (Or.inl ⟨by omega, rfl, by omega⟩) | exact Or.inr (Or.inr ⟨by omega, Or.inl ⟨by omega, rfl, by omega⟩⟩) | (rcases h_66 with h | h | h <;> first | exact Or.inr (Or.inl ⟨by omega, rfl, by omega⟩) | exact Or.inr (Or.inr ⟨by omega, Or.inl ⟨by omega, rfl, by omega⟩⟩) | omega)⟩) hP hD hS _ _ dX10_cell_87
      · skip
        refine lv_aload_n S.1 S.2.1 dX10_cell_37 rfl (lv_at hl 0 rfl) ?_
        refine z_get S hK hP 0 rfl rfl 18 (by decide) i_X10_cell_10 q_X10_cell_4 rfl dX10_cell_38 ?_
        refine lv_iload_n S.1 S.2.1 dX10_cell_41 rfl (lv_at hl 1 rfl) ?_
        refine z_iald S hK hP 15 rfl (by omega) dX10_cell_42 ?_
        have hf_3 := hsh (k) (by omega) (by omega)
        refine lv_iload_n S.1 S.2.1 dX10_cell_43 rfl (lv_at hl 3 rfl) ?_
        refine z_icmp_eq (tgt := 53) S dX10_cell_44 (by decide) (by omega) (fun c_44 => ?_) (fun c_44 => ?_)
        · skip
          refine lv_aload_n S.1 S.2.1 dX10_cell_53 rfl (lv_at hl 0 rfl) ?_
          refine lv_iload_n S.1 S.2.1 dX10_cell_54 rfl (lv_at hl 1 rfl) ?_
          refine lv_iload_n S.1 S.2.1 dX10_cell_55 rfl (lv_at hl 2 rfl) ?_
          refine z_ri (z_rV S hK (c_X10_noCell l E ad 0 ppl kd vl nb fr tl rA rP rk rv rn rf rt can fw fs ss sl sh hd tr k i (by omega) (by omega) (hsh)) gX10_cell_X10_noCell rfl hv_X10_noCell ⟨Nat.le_of_ble_eq_true rfl, Nat.le_of_ble_eq_true rfl⟩ (va_recv hK hP (ci := 10) (q0 := 0) rfl rfl) hP hl.1 rfl (Nat.le_of_ble_eq_true rfl) ⟨by decide, by decide⟩ rfl dX10_cell_56) (fun r_56 h_56 => ?_)
          refine z_if_le (tgt := 75) S dX10_cell_59 (by decide) (by omega) (fun c_59 => ?_) (fun c_59 => ?_)
          · skip
            have hss := hsh k (by omega) (by omega)
            refine lv_aload_n S.1 S.2.1 dX10_cell_75 rfl (lv_at hl 0 rfl) ?_
            refine z_get S hK hP 0 rfl rfl 19 (by decide) i_X10_cell_10 q_X10_cell_5 rfl dX10_cell_76 ?_
            refine z_bipush S (by decide +kernel) dX10_cell_79 ?_
            refine lv_iload_n S.1 S.2.1 dX10_cell_81 rfl (lv_at hl 1 rfl) ?_
            refine z_imul S dX10_cell_82 ?_
            refine lv_iload_n S.1 S.2.1 dX10_cell_83 rfl (lv_at hl 2 rfl) ?_
            refine z_iadd S dX10_cell_84 ?_
            refine z_iald S hK hP 16 rfl (by omega) dX10_cell_85 ?_
            have hf_4 := hcr (((100 * k) + i))
            refine z_i2l S (by omega) dX10_cell_86 ?_
            exact hQ (sh ((100 * k) + i)) (0) _ _ (Or.inr ⟨by omega, by first | exact Or.inr (Or.inr ⟨by omega, Or.inr ⟨by omega, rfl, rfl⟩⟩) | exact Or.inr (Or.inl ⟨by omega, rfl, by omega⟩) | exact Or.inr (Or.inr ⟨by omega, Or.inl ⟨by omega, rfl, by omega⟩⟩) | (rcases h_66 with h | h | h <;> first | exact Or.inr (Or.inl ⟨by omega, rfl, by omega⟩) | exact Or.inr (Or.inr ⟨by omega, Or.inl ⟨by omega, rfl, by omega⟩⟩) | omega)⟩) hP hD hS _ _ dX10_cell_87
          · skip
            refine lv_aload_n S.1 S.2.1 dX10_cell_62 rfl (lv_at hl 0 rfl) ?_
            refine lv_aload_n S.1 S.2.1 dX10_cell_63 rfl (lv_at hl 0 rfl) ?_
            refine lv_iload_n S.1 S.2.1 dX10_cell_64 rfl (lv_at hl 1 rfl) ?_
            refine lv_iload_n S.1 S.2.1 dX10_cell_65 rfl (lv_at hl 2 rfl) ?_
            refine z_ri (z_rV S hK (c_X10_noCell l E ad 0 ppl kd vl nb fr tl rA rP rk rv rn rf rt can fw fs ss sl sh hd tr k i (by omega) (by omega) (hsh)) gX10_cell_X10_noCell rfl hv_X10_noCell ⟨Nat.le_of_ble_eq_true rfl, Nat.le_of_ble_eq_true rfl⟩ (va_recv hK hP (ci := 10) (q0 := 0) rfl rfl) hP hl.1 rfl (Nat.le_of_ble_eq_true rfl) ⟨by decide, by decide⟩ rfl dX10_cell_66) (fun r_66 h_66 => ?_)
            refine z_mlw (z_mV S hK (c_X10_failedLong l E ad 0 ppl kd vl nb fr tl rA rP rk rv rn rf rt can fw fs ss sl sh hd tr r_66 _) gX10_cell_X10_failedLong rfl hv_X10_failedLong ⟨Nat.le_of_ble_eq_true rfl, Nat.le_of_ble_eq_true rfl⟩ (va_recv hK hP (ci := 10) (q0 := 0) rfl rfl) hP hD trivial hl.1 rfl (Nat.le_of_ble_eq_true rfl) ⟨by decide, by decide⟩ rfl dX10_cell_69) hD hS hA (fun r_69 u H locs h_69 hP hD hS => ?_)
            rw [h_69]
            have hP : zP E (mW E ad r_66 ppl kd vl nb fr tl rA rP rk rv rn rf rt can fw fs ss sl sh hd tr) H := hP
            have hD : va_D A (mW E ad r_66 ppl kd vl nb fr tl rA rP rk rv rn rf rt can fw fs ss sl sh hd tr) := hD
            refine z_goto (tgt := 87) S dX10_cell_72 (by decide) ?_
            exact hQ (-9223372036854775808) (r_66) _ _ (Or.inr ⟨by omega, by first | exact Or.inr (Or.inr ⟨by omega, Or.inr ⟨by omega, rfl, rfl⟩⟩) | exact Or.inr (Or.inl ⟨by omega, rfl, by omega⟩) | exact Or.inr (Or.inr ⟨by omega, Or.inl ⟨by omega, rfl, by omega⟩⟩) | (rcases h_66 with h | h | h <;> first | exact Or.inr (Or.inl ⟨by omega, rfl, by omega⟩) | exact Or.inr (Or.inr ⟨by omega, Or.inl ⟨by omega, rfl, by omega⟩⟩) | omega)⟩) hP hD hS _ _ dX10_cell_87
        · skip
          refine lv_aload_n S.1 S.2.1 dX10_cell_47 rfl (lv_at hl 0 rfl) ?_
          refine z_iconst S dX10_cell_48 ?_
          refine z_mlw (z_mV S hK (c_X10_failedLong l E ad 0 ppl kd vl nb fr tl rA rP rk rv rn rf rt can fw fs ss sl sh hd tr 2 _) gX10_cell_X10_failedLong rfl hv_X10_failedLong ⟨Nat.le_of_ble_eq_true rfl, Nat.le_of_ble_eq_true rfl⟩ (va_recv hK hP (ci := 10) (q0 := 0) rfl rfl) hP hD trivial hl.1 rfl (Nat.le_of_ble_eq_true rfl) ⟨by decide, by decide⟩ rfl dX10_cell_49) hD hS hA (fun r_49 u H locs h_49 hP hD hS => ?_)
          rw [h_49]
          have hP : zP E (mW E ad 2 ppl kd vl nb fr tl rA rP rk rv rn rf rt can fw fs ss sl sh hd tr) H := hP
          have hD : va_D A (mW E ad 2 ppl kd vl nb fr tl rA rP rk rv rn rf rt can fw fs ss sl sh hd tr) := hD
          exact hQ (-9223372036854775808) (2) _ _ (Or.inr ⟨by omega, Or.inl ⟨by omega, by omega, rfl, rfl⟩⟩) hP hD hS _ _ dX10_cell_52
    · skip
      refine z_rl (z_rS S hK (c_X10_nothing l E ) gX10_cell_X10_nothing rfl hs_X10_nothing ⟨Nat.le_of_ble_eq_true rfl, Nat.le_of_ble_eq_true rfl⟩ trivial hl.1 rfl (Nat.le_of_ble_eq_true rfl) ⟨by decide, by decide⟩ rfl dX10_cell_24) (fun r_24 h_24 => ?_)
      rw [h_24]
      exact hQ (-9223372036854775808) (0) _ _ (Or.inl ⟨by omega, rfl, rfl⟩) hP hD hS _ _ dX10_cell_27

set_option maxHeartbeats 1000000 in
set_option maxRecDepth 20000 in
theorem c_X10_copy (l : Launch) (E : zE) (ad : Nat → Nat) (flt ppl : Int) (kd vl nb fr tl : Int → Int) (rA rP : Int) (rk rv rn rf rt can fw fs ss sl sh hd : Int → Int) (tr : Int) (k : Int) (i : Int) (o : Int) (j : Int) (n : Int) (h_k : -2147483648 ≤ k ∧ k ≤ 2147483647) (h_i : -2147483648 ≤ i ∧ i ≤ 2147483647) (h_o : -2147483648 ≤ o ∧ o ≤ 2147483647) (h_j : -2147483648 ≤ j ∧ j ≤ 2147483647) (h_n : -2147483648 ≤ n ∧ n ≤ 2147483647) (hsh : zShe ss sl) (hcr : zRg sh) : zMi l E yX10_copy wsX10_copy (zr 3 0 0) [.ref (ad 0), .int (jI (k)), .int (jI (i)), .int (jI (o)), .int (jI (j)), .int (jI (n))] (mW E ad flt ppl kd vl nb fr tl rA rP rk rv rn rf rt can fw fs ss sl sh hd tr) (fun _ => True) (fun r (u : Int × ((Int → Int) × (Int → Int))) => zA_copy ss sl sh k i o j n r u.1 u.2.1) (fun (u : Int × ((Int → Int) × (Int → Int))) => mW E ad u.1 ppl kd vl nb fr tl rA rP rk rv rn rf rt can fw fs ss sl u.2.1 u.2.2 tr) 0 0 := by
  refine zMi_of (own := RX10) (cc := cX10_copy) (maxL := 7) (by decide) rfl (Nat.le_of_ble_eq_true rfl) rfl ?_
  intro p e s m args below meth c Q A S hK hA hS hP hD hAe hG hQ ls hl
  have hl : lv_has ls 7 [(0, .ref (ad 0)), (1, .int (jI (k))), (2, .int (jI (i))), (3, .int (jI (o))), (4, .int (jI (j))), (5, .int (jI (n)))] := hl
  refine lv_iload_n S.1 S.2.1 dX10_copy_0 rfl (lv_at hl 1 rfl) ?_
  refine z_ri (z_rS S hK (c_X10_noSheet l E k (by omega)) gX10_copy_X10_noSheet rfl hs_X10_noSheet ⟨Nat.le_of_ble_eq_true rfl, Nat.le_of_ble_eq_true rfl⟩ trivial hl.1 rfl (Nat.le_of_ble_eq_true rfl) ⟨by decide, by decide⟩ rfl dX10_copy_1) (fun r_1 h_1 => ?_)
  refine z_if_ne (tgt := 14) S dX10_copy_4 (by decide) (by omega) (fun c_4 => ?_) (fun c_4 => ?_)
  · skip
    refine lv_aload_n S.1 S.2.1 dX10_copy_14 rfl (lv_at hl 0 rfl) ?_
    refine z_iconst S dX10_copy_15 ?_
    refine z_miw (z_mV S hK (c_X10_refused l E ad flt ppl kd vl nb fr tl rA rP rk rv rn rf rt can fw fs ss sl sh hd tr (-1) _) gX10_copy_X10_refused rfl hv_X10_refused ⟨Nat.le_of_ble_eq_true rfl, Nat.le_of_ble_eq_true rfl⟩ (va_recv hK hP (ci := 10) (q0 := 0) rfl rfl) hP hD trivial hl.1 rfl (Nat.le_of_ble_eq_true rfl) ⟨by decide, by decide⟩ rfl dX10_copy_16) hD hS hA (fun r_16 u H locs h_16 hP hD hS => ?_)
    rw [h_16]
    have hP : zP E (mW E ad 0 ppl kd vl nb fr tl rA rP rk rv rn rf rt can fw fs ss sl sh hd tr) H := hP
    have hD : va_D A (mW E ad 0 ppl kd vl nb fr tl rA rP rk rv rn rf rt can fw fs ss sl sh hd tr) := hD
    exact hQ (((-1))) ((0, (sh, hd))) _ _ (Or.inl ⟨Or.inl ⟨by omega, rfl, rfl⟩, rfl⟩) hP hD hS _ _ dX10_copy_19
  · skip
    refine lv_iload_n S.1 S.2.1 dX10_copy_7 rfl (lv_at hl 3 rfl) ?_
    refine z_ri (z_rS S hK (c_X10_noSheet l E o (by omega)) gX10_copy_X10_noSheet rfl hs_X10_noSheet ⟨Nat.le_of_ble_eq_true rfl, Nat.le_of_ble_eq_true rfl⟩ trivial hl.1 rfl (Nat.le_of_ble_eq_true rfl) ⟨by decide, by decide⟩ rfl dX10_copy_8) (fun r_8 h_8 => ?_)
    refine z_if_eq (tgt := 20) S dX10_copy_11 (by decide) (by omega) (fun c_11 => ?_) (fun c_11 => ?_)
    · skip
      refine lv_aload_n S.1 S.2.1 dX10_copy_20 rfl (lv_at hl 0 rfl) ?_
      refine z_get S hK hP 0 rfl rfl 17 (by decide) i_X10_copy_10 q_X10_copy_1 rfl dX10_copy_21 ?_
      refine lv_iload_n S.1 S.2.1 dX10_copy_24 rfl (lv_at hl 1 rfl) ?_
      refine z_iald S hK hP 14 rfl (by omega) dX10_copy_25 ?_
      have hf_1 := hsh (k) (by omega) (by omega)
      refine z_if_lt (tgt := 38) S dX10_copy_26 (by decide) (by omega) (fun c_26 => ?_) (fun c_26 => ?_)
      · skip
        refine lv_aload_n S.1 S.2.1 dX10_copy_38 rfl (lv_at hl 0 rfl) ?_
        refine z_iconst S dX10_copy_39 ?_
        refine z_miw (z_mV S hK (c_X10_failed l E ad flt ppl kd vl nb fr tl rA rP rk rv rn rf rt can fw fs ss sl sh hd tr 1 _) gX10_copy_X10_failed rfl hv_X10_failed ⟨Nat.le_of_ble_eq_true rfl, Nat.le_of_ble_eq_true rfl⟩ (va_recv hK hP (ci := 10) (q0 := 0) rfl rfl) hP hD trivial hl.1 rfl (Nat.le_of_ble_eq_true rfl) ⟨by decide, by decide⟩ rfl dX10_copy_40) hD hS hA (fun r_40 u H locs h_40 hP hD hS => ?_)
        rw [h_40]
        have hP : zP E (mW E ad 1 ppl kd vl nb fr tl rA rP rk rv rn rf rt can fw fs ss sl sh hd tr) H := hP
        have hD : va_D A (mW E ad 1 ppl kd vl nb fr tl rA rP rk rv rn rf rt can fw fs ss sl sh hd tr) := hD
        exact hQ (-10 - 1) ((1, (sh, hd))) _ _ (Or.inl ⟨Or.inr ⟨by omega, Or.inl ⟨by omega, rfl, rfl⟩⟩, rfl⟩) hP hD hS _ _ dX10_copy_43
      · skip
        refine lv_aload_n S.1 S.2.1 dX10_copy_29 rfl (lv_at hl 0 rfl) ?_
        refine z_get S hK hP 0 rfl rfl 17 (by decide) i_X10_copy_10 q_X10_copy_1 rfl dX10_copy_30 ?_
        refine lv_iload_n S.1 S.2.1 dX10_copy_33 rfl (lv_at hl 3 rfl) ?_
        refine z_iald S hK hP 14 rfl (by omega) dX10_copy_34 ?_
        have hf_2 := hsh (o) (by omega) (by omega)
        refine z_if_ge (tgt := 44) S dX10_copy_35 (by decide) (by omega) (fun c_35 => ?_) (fun c_35 => ?_)
        · skip
          refine lv_aload_n S.1 S.2.1 dX10_copy_44 rfl (lv_at hl 0 rfl) ?_
          refine z_get S hK hP 0 rfl rfl 18 (by decide) i_X10_copy_10 q_X10_copy_2 rfl dX10_copy_45 ?_
          refine lv_iload_n S.1 S.2.1 dX10_copy_48 rfl (lv_at hl 1 rfl) ?_
          refine z_iald S hK hP 15 rfl (by omega) dX10_copy_49 ?_
          have hf_3 := hsh (k) (by omega) (by omega)
          refine lv_aload_n S.1 S.2.1 dX10_copy_50 rfl (lv_at hl 0 rfl) ?_
          refine z_get S hK hP 0 rfl rfl 18 (by decide) i_X10_copy_10 q_X10_copy_2 rfl dX10_copy_51 ?_
          refine lv_iload_n S.1 S.2.1 dX10_copy_54 rfl (lv_at hl 3 rfl) ?_
          refine z_iald S hK hP 15 rfl (by omega) dX10_copy_55 ?_
          have hf_4 := hsh (o) (by omega) (by omega)
          refine z_icmp_eq (tgt := 65) S dX10_copy_56 (by decide) (by omega) (fun c_56 => ?_) (fun c_56 => ?_)
          · skip
            refine lv_iload_n S.1 S.2.1 dX10_copy_65 rfl (lv_at hl 2 rfl) ?_
            refine lv_iload S.1 S.2.1 dX10_copy_66 (lv_at hl 5 rfl) ?_
            refine z_i2l S (by omega) dX10_copy_68 ?_
            refine lv_aload_n S.1 S.2.1 dX10_copy_69 rfl (lv_at hl 0 rfl) ?_
            refine z_get S hK hP 0 rfl rfl 17 (by decide) i_X10_copy_10 q_X10_copy_1 rfl dX10_copy_70 ?_
            refine lv_iload_n S.1 S.2.1 dX10_copy_73 rfl (lv_at hl 1 rfl) ?_
            refine z_iald S hK hP 14 rfl (by omega) dX10_copy_74 ?_
            have hf_5 := hsh (k) (by omega) (by omega)
            refine z_ri (z_rS S hK (c_X10_isBeyond l E i n (ss (k)) (by omega) (by omega) (by omega)) gX10_copy_X10_isBeyond rfl hs_X10_isBeyond ⟨Nat.le_of_ble_eq_true rfl, Nat.le_of_ble_eq_true rfl⟩ trivial hl.1 rfl (Nat.le_of_ble_eq_true rfl) ⟨by decide, by decide⟩ rfl dX10_copy_75) (fun r_75 h_75 => ?_)
            refine z_if_ne (tgt := 98) S dX10_copy_78 (by decide) (by omega) (fun c_78 => ?_) (fun c_78 => ?_)
            · skip
              refine lv_aload_n S.1 S.2.1 dX10_copy_98 rfl (lv_at hl 0 rfl) ?_
              refine z_iconst S dX10_copy_99 ?_
              refine z_miw (z_mV S hK (c_X10_failed l E ad flt ppl kd vl nb fr tl rA rP rk rv rn rf rt can fw fs ss sl sh hd tr 3 _) gX10_copy_X10_failed rfl hv_X10_failed ⟨Nat.le_of_ble_eq_true rfl, Nat.le_of_ble_eq_true rfl⟩ (va_recv hK hP (ci := 10) (q0 := 0) rfl rfl) hP hD trivial hl.1 rfl (Nat.le_of_ble_eq_true rfl) ⟨by decide, by decide⟩ rfl dX10_copy_100) hD hS hA (fun r_100 u H locs h_100 hP hD hS => ?_)
              rw [h_100]
              have hP : zP E (mW E ad 3 ppl kd vl nb fr tl rA rP rk rv rn rf rt can fw fs ss sl sh hd tr) H := hP
              have hD : va_D A (mW E ad 3 ppl kd vl nb fr tl rA rP rk rv rn rf rt can fw fs ss sl sh hd tr) := hD
              exact hQ (-10 - 3) ((3, (sh, hd))) _ _ (Or.inl ⟨Or.inr ⟨by omega, Or.inr ⟨by omega, Or.inr ⟨by omega, by omega, rfl, rfl⟩⟩⟩, rfl⟩) hP hD hS _ _ dX10_copy_103
            · skip
              refine lv_iload S.1 S.2.1 dX10_copy_81 (lv_at hl 4 rfl) ?_
              refine lv_iload S.1 S.2.1 dX10_copy_83 (lv_at hl 5 rfl) ?_
              refine z_i2l S (by omega) dX10_copy_85 ?_
              refine lv_aload_n S.1 S.2.1 dX10_copy_86 rfl (lv_at hl 0 rfl) ?_
              refine z_get S hK hP 0 rfl rfl 17 (by decide) i_X10_copy_10 q_X10_copy_1 rfl dX10_copy_87 ?_
              refine lv_iload_n S.1 S.2.1 dX10_copy_90 rfl (lv_at hl 3 rfl) ?_
              refine z_iald S hK hP 14 rfl (by omega) dX10_copy_91 ?_
              have hf_6 := hsh (o) (by omega) (by omega)
              refine z_ri (z_rS S hK (c_X10_isBeyond l E j n (ss (o)) (by omega) (by omega) (by omega)) gX10_copy_X10_isBeyond rfl hs_X10_isBeyond ⟨Nat.le_of_ble_eq_true rfl, Nat.le_of_ble_eq_true rfl⟩ trivial hl.1 rfl (Nat.le_of_ble_eq_true rfl) ⟨by decide, by decide⟩ rfl dX10_copy_92) (fun r_92 h_92 => ?_)
              refine z_if_eq (tgt := 104) S dX10_copy_95 (by decide) (by omega) (fun c_95 => ?_) (fun c_95 => ?_)
              · skip
                have hbs : (0 ≤ n ∧ 0 ≤ i ∧ i + n ≤ ss k ∧ 0 ≤ j ∧ j + n ≤ ss o) ∧ ss k ≤ 100 ∧ ss o ≤ 100 := by omega
                clear h_75 h_92
                refine z_iconst S dX10_copy_104 ?_
                refine lv_istore (lv' := [(6, .int (jI (0))), (0, .ref (ad 0)), (1, .int (jI (k))), (2, .int (jI (i))), (3, .int (jI (o))), (4, .int (jI (j))), (5, .int (jI (n)))]) S.1 S.2.1 dX10_copy_105 hl (by decide) rfl (fun ls hl => ?_)
                suffices HL_7 : ∀ (n_8 : Nat) (x : Int) (a : Int → Int), (n - x).toNat < n_8 → (0 ≤ x ∧ x ≤ n) → (∀ y, 0 ≤ y → y < x → a y = sh (100 * k + i + y)) → ∀ (H : Heap) (locs : List Loc), zP E (mW E ad flt ppl kd vl nb fr tl rA rP rk rv rn rf rt can fw fs ss sl sh a tr) H → va_D A (mW E ad flt ppl kd vl nb fr tl rA rP rk rv rn rf rt can fw fs ss sl sh a tr) → va_S A s.heap H locs → ∀ (ls : Array Slot), lv_has ls 7 [(6, .int (jI (x))), (0, .ref (ad 0)), (1, .int (jI (k))), (2, .int (jI (i))), (3, .int (jI (o))), (4, .int (jI (j))), (5, .int (jI (n)))] → W p l e (zr 3 0 0) s m args below meth c H locs 0 0 Q (F0 m 107 ls []) from
                  HL_7 _ 0 hd (Nat.lt_succ_self _) (by omega) (zall_0) _ _ hP hD hS ls (lv_sub hl [0, 1, 2, 3, 4, 5, 6] rfl)
                intro n_8
                induction n_8 with
                | zero => intro x a hm hx ha; exact absurd hm (Nat.not_lt_zero _)
                | succ n_8 ih_9 =>
                  intro x a hm hx ha H locs hP hD hS ls hl
                  refine lv_iload S.1 S.2.1 dX10_copy_107 (lv_at hl 0 rfl) ?_
                  refine lv_iload S.1 S.2.1 dX10_copy_109 (lv_at hl 6 rfl) ?_
                  refine z_icmp_ge (tgt := 141) S dX10_copy_111 (by decide) (by omega) (fun c_111 => ?_) (fun c_111 => ?_)
                  · skip
                    refine z_iconst S dX10_copy_141 ?_
                    refine lv_istore (lv' := [(6, .int (jI (0))), (0, .ref (ad 0)), (1, .int (jI (k))), (2, .int (jI (i))), (3, .int (jI (o))), (4, .int (jI (j))), (5, .int (jI (n)))]) S.1 S.2.1 dX10_copy_142 hl (by decide) rfl (fun ls hl => ?_)
                    suffices HL_10 : ∀ (n_11 : Nat) (y : Int) (g : Int → Int), (n - y).toNat < n_11 → (0 ≤ y ∧ y ≤ n) → (g = zcpy sh sh (100 * k + i) (100 * o + j) y) → ∀ (H : Heap) (locs : List Loc), zP E (mW E ad flt ppl kd vl nb fr tl rA rP rk rv rn rf rt can fw fs ss sl g a tr) H → va_D A (mW E ad flt ppl kd vl nb fr tl rA rP rk rv rn rf rt can fw fs ss sl g a tr) → va_S A s.heap H locs → ∀ (ls : Array Slot), lv_has ls 7 [(6, .int (jI (y))), (0, .ref (ad 0)), (1, .int (jI (k))), (2, .int (jI (i))), (3, .int (jI (o))), (4, .int (jI (j))), (5, .int (jI (n)))] → W p l e (zr 3 0 0) s m args below meth c H locs 0 0 Q (F0 m 144 ls []) from
                      HL_10 _ 0 sh (Nat.lt_succ_self _) (by omega) ((zcpy_0 _ _ _ _).symm) _ _ hP hD hS ls (lv_sub hl [0, 1, 2, 3, 4, 5, 6] rfl)
                    intro n_11
                    induction n_11 with
                    | zero => intro y g hm hy hg; exact absurd hm (Nat.not_lt_zero _)
                    | succ n_11 ih_12 =>
                      intro y g hm hy hg H locs hP hD hS ls hl
                      refine lv_iload S.1 S.2.1 dX10_copy_144 (lv_at hl 0 rfl) ?_
                      refine lv_iload S.1 S.2.1 dX10_copy_146 (lv_at hl 6 rfl) ?_
                      refine z_icmp_ge (tgt := 179) S dX10_copy_148 (by decide) (by omega) (fun c_148 => ?_) (fun c_148 => ?_)
                      · skip
                        refine lv_aload_n S.1 S.2.1 dX10_copy_179 rfl (lv_at hl 1 rfl) ?_
                        refine lv_iload S.1 S.2.1 dX10_copy_180 (lv_at hl 6 rfl) ?_
                        refine z_miw (z_mV S hK (c_X10_refused l E ad flt ppl kd vl nb fr tl rA rP rk rv rn rf rt can fw fs ss sl g a tr n _) gX10_copy_X10_refused rfl hv_X10_refused ⟨Nat.le_of_ble_eq_true rfl, Nat.le_of_ble_eq_true rfl⟩ (va_recv hK hP (ci := 10) (q0 := 0) rfl rfl) hP hD trivial hl.1 rfl (Nat.le_of_ble_eq_true rfl) ⟨by decide, by decide⟩ rfl dX10_copy_182) hD hS hA (fun r_182 u H locs h_182 hP hD hS => ?_)
                        rw [h_182]
                        have hP : zP E (mW E ad 0 ppl kd vl nb fr tl rA rP rk rv rn rf rt can fw fs ss sl g a tr) H := hP
                        have hD : va_D A (mW E ad 0 ppl kd vl nb fr tl rA rP rk rv rn rf rt can fw fs ss sl g a tr) := hD
                        exact hQ (n) ((0, (g, a))) _ _ (Or.inr ⟨⟨by omega, by omega, by omega, rfl, rfl⟩, by rw [hg, show n = y by omega]⟩) hP hD hS _ _ dX10_copy_185
                      · skip
                        refine lv_aload_n S.1 S.2.1 dX10_copy_151 rfl (lv_at hl 1 rfl) ?_
                        refine z_get S hK hP 0 rfl rfl 19 (by decide) i_X10_copy_10 q_X10_copy_4 rfl dX10_copy_152 ?_
                        refine z_bipush S (by decide +kernel) dX10_copy_155 ?_
                        refine lv_iload_n S.1 S.2.1 dX10_copy_157 rfl (lv_at hl 4 rfl) ?_
                        refine z_imul S dX10_copy_158 ?_
                        refine lv_iload S.1 S.2.1 dX10_copy_159 (lv_at hl 5 rfl) ?_
                        refine z_iadd S dX10_copy_161 ?_
                        refine lv_iload S.1 S.2.1 dX10_copy_162 (lv_at hl 0 rfl) ?_
                        refine z_iadd S dX10_copy_164 ?_
                        refine lv_aload_n S.1 S.2.1 dX10_copy_165 rfl (lv_at hl 1 rfl) ?_
                        refine z_get S hK hP 0 rfl rfl 20 (by decide) i_X10_copy_10 q_X10_copy_3 rfl dX10_copy_166 ?_
                        refine lv_iload S.1 S.2.1 dX10_copy_169 (lv_at hl 0 rfl) ?_
                        refine z_iald S hK hP 17 rfl (by omega) dX10_copy_171 ?_
                        refine z_iast S hK hP hD hS 16 rfl (by omega) dX10_copy_172 (fun H locs hP hD hS => ?_)
                        have hP : zP E (mW E ad flt ppl kd vl nb fr tl rA rP rk rv rn rf rt can fw fs ss sl (zu g (((100 * o) + j) + y) (a (y))) a tr) H := hP
                        have hD : va_D A (mW E ad flt ppl kd vl nb fr tl rA rP rk rv rn rf rt can fw fs ss sl (zu g (((100 * o) + j) + y) (a (y))) a tr) := hD
                        refine z_iinc (lv' := [(6, .int (jI (y + 1))), (0, .ref (ad 0)), (1, .int (jI (k))), (2, .int (jI (i))), (3, .int (jI (o))), (4, .int (jI (j))), (5, .int (jI (n)))]) S hl (k := 0) rfl (by decide) rfl dX10_copy_173 (fun ls hl => ?_)
                        refine z_goto (tgt := 144) S dX10_copy_176 (by decide) ?_
                        exact ih_12 (y + 1) (zu g (((100 * o) + j) + y) (a (y))) (by omega) (by omega) (by rw [hg]; exact zcpy_next sh sh (by omega) (ha y (by omega) (by omega))) _ _ hP hD hS ls (lv_sub hl [0, 1, 2, 3, 4, 5, 6] rfl)
                  · skip
                    refine lv_aload_n S.1 S.2.1 dX10_copy_114 rfl (lv_at hl 1 rfl) ?_
                    refine z_get S hK hP 0 rfl rfl 20 (by decide) i_X10_copy_10 q_X10_copy_3 rfl dX10_copy_115 ?_
                    refine lv_iload S.1 S.2.1 dX10_copy_118 (lv_at hl 0 rfl) ?_
                    refine lv_aload_n S.1 S.2.1 dX10_copy_120 rfl (lv_at hl 1 rfl) ?_
                    refine z_get S hK hP 0 rfl rfl 19 (by decide) i_X10_copy_10 q_X10_copy_4 rfl dX10_copy_121 ?_
                    refine z_bipush S (by decide +kernel) dX10_copy_124 ?_
                    refine lv_iload_n S.1 S.2.1 dX10_copy_126 rfl (lv_at hl 2 rfl) ?_
                    refine z_imul S dX10_copy_127 ?_
                    refine lv_iload_n S.1 S.2.1 dX10_copy_128 rfl (lv_at hl 3 rfl) ?_
                    refine z_iadd S dX10_copy_129 ?_
                    refine lv_iload S.1 S.2.1 dX10_copy_130 (lv_at hl 0 rfl) ?_
                    refine z_iadd S dX10_copy_132 ?_
                    refine z_iald S hK hP 16 rfl (by omega) dX10_copy_133 ?_
                    have hf_13 := hcr ((((100 * k) + i) + x))
                    refine z_iast S hK hP hD hS 17 rfl (by omega) dX10_copy_134 (fun H locs hP hD hS => ?_)
                    have hP : zP E (mW E ad flt ppl kd vl nb fr tl rA rP rk rv rn rf rt can fw fs ss sl sh (zu a x (sh (((100 * k) + i) + x))) tr) H := hP
                    have hD : va_D A (mW E ad flt ppl kd vl nb fr tl rA rP rk rv rn rf rt can fw fs ss sl sh (zu a x (sh (((100 * k) + i) + x))) tr) := hD
                    refine z_iinc (lv' := [(6, .int (jI (x + 1))), (0, .ref (ad 0)), (1, .int (jI (k))), (2, .int (jI (i))), (3, .int (jI (o))), (4, .int (jI (j))), (5, .int (jI (n)))]) S hl (k := 0) rfl (by decide) rfl dX10_copy_135 (fun ls hl => ?_)
                    refine z_goto (tgt := 107) S dX10_copy_138 (by decide) ?_
                    exact ih_9 (x + 1) (zu a x (sh (((100 * k) + i) + x))) (by omega) (by omega) (zall_step (fun y q1 q2 => by rw [zu_n (by omega)]; exact ha y q1 q2) zu_s) _ _ hP hD hS ls (lv_sub hl [0, 1, 2, 3, 4, 5, 6] rfl)
              · skip
                refine lv_aload_n S.1 S.2.1 dX10_copy_98 rfl (lv_at hl 0 rfl) ?_
                refine z_iconst S dX10_copy_99 ?_
                refine z_miw (z_mV S hK (c_X10_failed l E ad flt ppl kd vl nb fr tl rA rP rk rv rn rf rt can fw fs ss sl sh hd tr 3 _) gX10_copy_X10_failed rfl hv_X10_failed ⟨Nat.le_of_ble_eq_true rfl, Nat.le_of_ble_eq_true rfl⟩ (va_recv hK hP (ci := 10) (q0 := 0) rfl rfl) hP hD trivial hl.1 rfl (Nat.le_of_ble_eq_true rfl) ⟨by decide, by decide⟩ rfl dX10_copy_100) hD hS hA (fun r_100 u H locs h_100 hP hD hS => ?_)
                rw [h_100]
                have hP : zP E (mW E ad 3 ppl kd vl nb fr tl rA rP rk rv rn rf rt can fw fs ss sl sh hd tr) H := hP
                have hD : va_D A (mW E ad 3 ppl kd vl nb fr tl rA rP rk rv rn rf rt can fw fs ss sl sh hd tr) := hD
                exact hQ (-10 - 3) ((3, (sh, hd))) _ _ (Or.inl ⟨Or.inr ⟨by omega, Or.inr ⟨by omega, Or.inr ⟨by omega, by omega, rfl, rfl⟩⟩⟩, rfl⟩) hP hD hS _ _ dX10_copy_103
          · skip
            refine lv_aload_n S.1 S.2.1 dX10_copy_59 rfl (lv_at hl 0 rfl) ?_
            refine z_iconst S dX10_copy_60 ?_
            refine z_miw (z_mV S hK (c_X10_failed l E ad flt ppl kd vl nb fr tl rA rP rk rv rn rf rt can fw fs ss sl sh hd tr 2 _) gX10_copy_X10_failed rfl hv_X10_failed ⟨Nat.le_of_ble_eq_true rfl, Nat.le_of_ble_eq_true rfl⟩ (va_recv hK hP (ci := 10) (q0 := 0) rfl rfl) hP hD trivial hl.1 rfl (Nat.le_of_ble_eq_true rfl) ⟨by decide, by decide⟩ rfl dX10_copy_61) hD hS hA (fun r_61 u H locs h_61 hP hD hS => ?_)
            rw [h_61]
            have hP : zP E (mW E ad 2 ppl kd vl nb fr tl rA rP rk rv rn rf rt can fw fs ss sl sh hd tr) H := hP
            have hD : va_D A (mW E ad 2 ppl kd vl nb fr tl rA rP rk rv rn rf rt can fw fs ss sl sh hd tr) := hD
            exact hQ (-10 - 2) ((2, (sh, hd))) _ _ (Or.inl ⟨Or.inr ⟨by omega, Or.inr ⟨by omega, Or.inl ⟨by omega, rfl, rfl⟩⟩⟩, rfl⟩) hP hD hS _ _ dX10_copy_64
        · skip
          refine lv_aload_n S.1 S.2.1 dX10_copy_38 rfl (lv_at hl 0 rfl) ?_
          refine z_iconst S dX10_copy_39 ?_
          refine z_miw (z_mV S hK (c_X10_failed l E ad flt ppl kd vl nb fr tl rA rP rk rv rn rf rt can fw fs ss sl sh hd tr 1 _) gX10_copy_X10_failed rfl hv_X10_failed ⟨Nat.le_of_ble_eq_true rfl, Nat.le_of_ble_eq_true rfl⟩ (va_recv hK hP (ci := 10) (q0 := 0) rfl rfl) hP hD trivial hl.1 rfl (Nat.le_of_ble_eq_true rfl) ⟨by decide, by decide⟩ rfl dX10_copy_40) hD hS hA (fun r_40 u H locs h_40 hP hD hS => ?_)
          rw [h_40]
          have hP : zP E (mW E ad 1 ppl kd vl nb fr tl rA rP rk rv rn rf rt can fw fs ss sl sh hd tr) H := hP
          have hD : va_D A (mW E ad 1 ppl kd vl nb fr tl rA rP rk rv rn rf rt can fw fs ss sl sh hd tr) := hD
          exact hQ (-10 - 1) ((1, (sh, hd))) _ _ (Or.inl ⟨Or.inr ⟨by omega, Or.inl ⟨by omega, rfl, rfl⟩⟩, rfl⟩) hP hD hS _ _ dX10_copy_43
    · skip
      refine lv_aload_n S.1 S.2.1 dX10_copy_14 rfl (lv_at hl 0 rfl) ?_
      refine z_iconst S dX10_copy_15 ?_
      refine z_miw (z_mV S hK (c_X10_refused l E ad flt ppl kd vl nb fr tl rA rP rk rv rn rf rt can fw fs ss sl sh hd tr (-1) _) gX10_copy_X10_refused rfl hv_X10_refused ⟨Nat.le_of_ble_eq_true rfl, Nat.le_of_ble_eq_true rfl⟩ (va_recv hK hP (ci := 10) (q0 := 0) rfl rfl) hP hD trivial hl.1 rfl (Nat.le_of_ble_eq_true rfl) ⟨by decide, by decide⟩ rfl dX10_copy_16) hD hS hA (fun r_16 u H locs h_16 hP hD hS => ?_)
      rw [h_16]
      have hP : zP E (mW E ad 0 ppl kd vl nb fr tl rA rP rk rv rn rf rt can fw fs ss sl sh hd tr) H := hP
      have hD : va_D A (mW E ad 0 ppl kd vl nb fr tl rA rP rk rv rn rf rt can fw fs ss sl sh hd tr) := hD
      exact hQ (((-1))) ((0, (sh, hd))) _ _ (Or.inl ⟨Or.inl ⟨by omega, rfl, rfl⟩, rfl⟩) hP hD hS _ _ dX10_copy_19

set_option maxHeartbeats 1000000 in
set_option maxRecDepth 20000 in
theorem c_X10_traced (l : Launch) (E : zE) (ad : Nat → Nat) (flt ppl : Int) (kd vl nb fr tl : Int → Int) (rA rP : Int) (rk rv rn rf rt can fw fs ss sl sh hd : Int → Int) (tr : Int) (n : Int) : zMv l E yX10_traced wsX10_traced (zr 1 0 0) [.ref (ad 0), .int (jI (n))] (mW E ad flt ppl kd vl nb fr tl rA rP rk rv rn rf rt can fw fs ss sl sh hd tr) (fun _ => True) (fun (u : Unit) => True) (fun (u : Unit) => mW E ad flt ppl kd vl nb fr tl rA rP rk rv rn rf rt can fw fs ss sl sh hd (31 * tr + n)) 0 0 := by
  refine zMv_of (own := RX10) (cc := cX10_traced) (maxL := 2) (by decide) rfl (Nat.le_of_ble_eq_true rfl) rfl ?_
  intro p e s m args below meth c Q A S hK hini hA hS hP hD hAe hG hQ ls hl
  have hl : lv_has ls 2 [(0, .ref (ad 0)), (1, .int (jI (n)))] := hl
  refine lv_aload_n S.1 S.2.1 dX10_traced_0 rfl (lv_at hl 0 rfl) ?_
  refine z_bipush S (by decide +kernel) dX10_traced_1 ?_
  refine lv_aload_n S.1 S.2.1 dX10_traced_3 rfl (lv_at hl 0 rfl) ?_
  refine z_get S hK hP 0 rfl rfl 21 (by decide) i_X10_traced_10 q_X10_traced_1 rfl dX10_traced_4 ?_
  refine z_imul S dX10_traced_7 ?_
  refine lv_iload_n S.1 S.2.1 dX10_traced_8 rfl (lv_at hl 1 rfl) ?_
  refine z_iadd S dX10_traced_9 ?_
  refine z_puti S hK hP hD hS 0 rfl rfl 21 (by decide) i_X10_traced_10 q_X10_traced_1 tyX10 tyX10_ok nmX10 rfl (by decide +kernel) (Nat.le_of_ble_eq_true rfl) dX10_traced_10 (fun H locs hP hD hS => ?_)
  have hP : zP E (mW E ad flt ppl kd vl nb fr tl rA rP rk rv rn rf rt can fw fs ss sl sh hd ((31 * tr) + n)) H := hP
  have hD : va_D A (mW E ad flt ppl kd vl nb fr tl rA rP rk rv rn rf rt can fw fs ss sl sh hd ((31 * tr) + n)) := hD
  exact hQ (()) _ _ (trivial) hP hD hS _ _ dX10_traced_13

set_option maxHeartbeats 1000000 in
set_option maxRecDepth 20000 in
theorem c_X10_tell (l : Launch) (E : zE) (ad : Nat → Nat) (flt ppl : Int) (kd vl nb fr tl : Int → Int) (rA rP : Int) (rk rv rn rf rt can fw fs ss sl sh hd : Int → Int) (tr : Int) (x : Int) (h_x : -2147483648 ≤ x ∧ x ≤ 2147483647) (hp : 0 ≤ ppl ∧ ppl ≤ 10) (hpe : zPeo ppl kd vl nb fr tl) : zMi l E yX10_tell wsX10_tell (zr 3 0 0) [.ref (ad 0), .int (jI (x))] (mW E ad flt ppl kd vl nb fr tl rA rP rk rv rn rf rt can fw fs ss sl sh hd tr) (fun _ => True) (fun r (u : Int) => zA_tell ppl kd nb tr x r u) (fun (u : Int) => mW E ad flt ppl kd vl nb fr tl rA rP rk rv rn rf rt can fw fs ss sl sh hd u) 0 0 := by
  refine zMi_of (own := RX10) (cc := cX10_tell) (maxL := 4) (by decide) rfl (Nat.le_of_ble_eq_true rfl) rfl ?_
  intro p e s m args below meth c Q A S hK hA hS hP hD hAe hG hQ ls hl
  have hl : lv_has ls 4 [(0, .ref (ad 0)), (1, .int (jI (x)))] := hl
  refine lv_aload_n S.1 S.2.1 dX10_tell_0 rfl (lv_at hl 0 rfl) ?_
  refine lv_iload_n S.1 S.2.1 dX10_tell_1 rfl (lv_at hl 1 rfl) ?_
  refine z_ri (z_rV S hK (c_X10_noOne l E ad flt ppl kd vl nb fr tl rA rP rk rv rn rf rt can fw fs ss sl sh hd tr x (by omega) (by omega)) gX10_tell_X10_noOne rfl hv_X10_noOne ⟨Nat.le_of_ble_eq_true rfl, Nat.le_of_ble_eq_true rfl⟩ (va_recv hK hP (ci := 10) (q0 := 0) rfl rfl) hP hl.1 rfl (Nat.le_of_ble_eq_true rfl) ⟨by decide, by decide⟩ rfl dX10_tell_2) (fun r_2 h_2 => ?_)
  refine z_if_eq (tgt := 10) S dX10_tell_5 (by decide) (by omega) (fun c_5 => ?_) (fun c_5 => ?_)
  · skip
    have hx2 := hpe x (by omega) (by omega)
    refine lv_aload_n S.1 S.2.1 dX10_tell_10 rfl (lv_at hl 0 rfl) ?_
    refine z_get S hK hP 0 rfl rfl 2 (by decide) i_X10_tell_10 q_X10_tell_1 rfl dX10_tell_11 ?_
    refine lv_iload_n S.1 S.2.1 dX10_tell_14 rfl (lv_at hl 1 rfl) ?_
    refine z_iald S hK hP 1 rfl (by omega) dX10_tell_15 ?_
    refine lv_istore_n (lv' := [(2, .int (jI (kd (x)))), (0, .ref (ad 0)), (1, .int (jI (x)))]) S.1 S.2.1 dX10_tell_16 rfl hl (by decide) rfl (fun ls hl => ?_)
    refine lv_iload_n S.1 S.2.1 dX10_tell_17 rfl (lv_at hl 0 rfl) ?_
    refine z_iconst S dX10_tell_18 ?_
    refine z_icmp_ne (tgt := 27) S dX10_tell_19 (by decide) (by omega) (fun c_19 => ?_) (fun c_19 => ?_)
    · skip
      refine lv_iload_n S.1 S.2.1 dX10_tell_27 rfl (lv_at hl 0 rfl) ?_
      refine z_if_le (tgt := 36) S dX10_tell_28 (by decide) (by omega) (fun c_28 => ?_) (fun c_28 => ?_)
      · skip
        refine lv_aload_n S.1 S.2.1 dX10_tell_36 rfl (lv_at hl 1 rfl) ?_
        refine z_iconst S dX10_tell_37 ?_
        refine z_mvw (z_mV S hK (c_X10_traced l E ad flt ppl kd vl nb fr tl rA rP rk rv rn rf rt can fw fs ss sl sh hd tr 1 _) gX10_tell_X10_traced rfl hv_X10_traced ⟨Nat.le_of_ble_eq_true rfl, Nat.le_of_ble_eq_true rfl⟩ (va_recv hK hP (ci := 10) (q0 := 0) rfl rfl) hP hD trivial hl.1 rfl (Nat.le_of_ble_eq_true rfl) ⟨by decide, by decide⟩ rfl dX10_tell_38) hD hS hA (fun u H locs h_38 hP hD hS => ?_)
        have hP : zP E (mW E ad flt ppl kd vl nb fr tl rA rP rk rv rn rf rt can fw fs ss sl sh hd (31 * tr + 1)) H := hP
        have hD : va_D A (mW E ad flt ppl kd vl nb fr tl rA rP rk rv rn rf rt can fw fs ss sl sh hd (31 * tr + 1)) := hD
        refine lv_iload_n S.1 S.2.1 dX10_tell_41 rfl (lv_at hl 0 rfl) ?_
        refine z_iconst S dX10_tell_42 ?_
        refine z_icmp_ne (tgt := 51) S dX10_tell_43 (by decide) (by omega) (fun c_43 => ?_) (fun c_43 => ?_)
        · skip
          refine lv_aload_n S.1 S.2.1 dX10_tell_51 rfl (lv_at hl 1 rfl) ?_
          refine z_get S hK hP 0 rfl rfl 4 (by decide) i_X10_tell_10 q_X10_tell_2 rfl dX10_tell_52 ?_
          refine lv_iload_n S.1 S.2.1 dX10_tell_55 rfl (lv_at hl 2 rfl) ?_
          refine z_iald S hK hP 3 rfl (by omega) dX10_tell_56 ?_
          refine lv_istore_n (lv' := [(3, .int (jI (nb (x)))), (2, .int (jI (kd (x)))), (0, .ref (ad 0)), (1, .int (jI (x)))]) S.1 S.2.1 dX10_tell_57 rfl hl (by decide) rfl (fun ls hl => ?_)
          refine lv_iload_n S.1 S.2.1 dX10_tell_58 rfl (lv_at hl 1 rfl) ?_
          refine z_if_ne (tgt := 66) S dX10_tell_59 (by decide) (by omega) (fun c_59 => ?_) (fun c_59 => ?_)
          · skip
            refine lv_iload_n S.1 S.2.1 dX10_tell_66 rfl (lv_at hl 1 rfl) ?_
            refine z_iconst S dX10_tell_67 ?_
            refine z_icmp_ne (tgt := 78) S dX10_tell_68 (by decide) (by omega) (fun c_68 => ?_) (fun c_68 => ?_)
            · skip
              refine z_iconst S dX10_tell_78 ?_
              refine lv_iload_n S.1 S.2.1 dX10_tell_79 rfl (lv_at hl 0 rfl) ?_
              refine z_imul S dX10_tell_80 ?_
              refine z_bipush S (by decide +kernel) dX10_tell_81 ?_
              refine z_iadd S dX10_tell_83 ?_
              exact hQ ((2 * (nb (x))) + 100) (31 * tr + 1) _ _ (by unfold zA_tell; omega) hP hD hS _ _ dX10_tell_84
            · skip
              refine lv_iload_n S.1 S.2.1 dX10_tell_71 rfl (lv_at hl 0 rfl) ?_
              refine z_bipush S (by decide +kernel) dX10_tell_72 ?_
              refine z_iadd S dX10_tell_74 ?_
              refine z_goto (tgt := 84) S dX10_tell_75 (by decide) ?_
              exact hQ ((nb (x)) + 100) (31 * tr + 1) _ _ (by unfold zA_tell; omega) hP hD hS _ _ dX10_tell_84
          · skip
            refine lv_iload_n S.1 S.2.1 dX10_tell_62 rfl (lv_at hl 0 rfl) ?_
            refine z_goto (tgt := 84) S dX10_tell_63 (by decide) ?_
            exact hQ (nb (x)) (31 * tr + 1) _ _ (by unfold zA_tell; omega) hP hD hS _ _ dX10_tell_84
        · skip
          refine lv_aload_n S.1 S.2.1 dX10_tell_46 rfl (lv_at hl 1 rfl) ?_
          refine z_iconst S dX10_tell_47 ?_
          refine z_mvw (z_mV S hK (c_X10_traced l E ad flt ppl kd vl nb fr tl rA rP rk rv rn rf rt can fw fs ss sl sh hd (31 * tr + 1) 1 _) gX10_tell_X10_traced rfl hv_X10_traced ⟨Nat.le_of_ble_eq_true rfl, Nat.le_of_ble_eq_true rfl⟩ (va_recv hK hP (ci := 10) (q0 := 0) rfl rfl) hP hD trivial hl.1 rfl (Nat.le_of_ble_eq_true rfl) ⟨by decide, by decide⟩ rfl dX10_tell_48) hD hS hA (fun u H locs h_48 hP hD hS => ?_)
          have hP : zP E (mW E ad flt ppl kd vl nb fr tl rA rP rk rv rn rf rt can fw fs ss sl sh hd (31 * (31 * tr + 1) + 1)) H := hP
          have hD : va_D A (mW E ad flt ppl kd vl nb fr tl rA rP rk rv rn rf rt can fw fs ss sl sh hd (31 * (31 * tr + 1) + 1)) := hD
          refine lv_aload_n S.1 S.2.1 dX10_tell_51 rfl (lv_at hl 1 rfl) ?_
          refine z_get S hK hP 0 rfl rfl 4 (by decide) i_X10_tell_10 q_X10_tell_2 rfl dX10_tell_52 ?_
          refine lv_iload_n S.1 S.2.1 dX10_tell_55 rfl (lv_at hl 2 rfl) ?_
          refine z_iald S hK hP 3 rfl (by omega) dX10_tell_56 ?_
          refine lv_istore_n (lv' := [(3, .int (jI (nb (x)))), (2, .int (jI (kd (x)))), (0, .ref (ad 0)), (1, .int (jI (x)))]) S.1 S.2.1 dX10_tell_57 rfl hl (by decide) rfl (fun ls hl => ?_)
          refine lv_iload_n S.1 S.2.1 dX10_tell_58 rfl (lv_at hl 1 rfl) ?_
          refine z_if_ne (tgt := 66) S dX10_tell_59 (by decide) (by omega) (fun c_59 => ?_) (fun c_59 => ?_)
          · skip
            refine lv_iload_n S.1 S.2.1 dX10_tell_66 rfl (lv_at hl 1 rfl) ?_
            refine z_iconst S dX10_tell_67 ?_
            refine z_icmp_ne (tgt := 78) S dX10_tell_68 (by decide) (by omega) (fun c_68 => ?_) (fun c_68 => ?_)
            · skip
              refine z_iconst S dX10_tell_78 ?_
              refine lv_iload_n S.1 S.2.1 dX10_tell_79 rfl (lv_at hl 0 rfl) ?_
              refine z_imul S dX10_tell_80 ?_
              refine z_bipush S (by decide +kernel) dX10_tell_81 ?_
              refine z_iadd S dX10_tell_83 ?_
              exact hQ ((2 * (nb (x))) + 100) (31 * (31 * tr + 1) + 1) _ _ (by unfold zA_tell; omega) hP hD hS _ _ dX10_tell_84
            · skip
              refine lv_iload_n S.1 S.2.1 dX10_tell_71 rfl (lv_at hl 0 rfl) ?_
              refine z_bipush S (by decide +kernel) dX10_tell_72 ?_
              refine z_iadd S dX10_tell_74 ?_
              refine z_goto (tgt := 84) S dX10_tell_75 (by decide) ?_
              exact hQ ((nb (x)) + 100) (31 * (31 * tr + 1) + 1) _ _ (by unfold zA_tell; omega) hP hD hS _ _ dX10_tell_84
          · skip
            refine lv_iload_n S.1 S.2.1 dX10_tell_62 rfl (lv_at hl 0 rfl) ?_
            refine z_goto (tgt := 84) S dX10_tell_63 (by decide) ?_
            exact hQ (nb (x)) (31 * (31 * tr + 1) + 1) _ _ (by unfold zA_tell; omega) hP hD hS _ _ dX10_tell_84
      · skip
        refine lv_aload_n S.1 S.2.1 dX10_tell_31 rfl (lv_at hl 1 rfl) ?_
        refine z_iconst S dX10_tell_32 ?_
        refine z_mvw (z_mV S hK (c_X10_traced l E ad flt ppl kd vl nb fr tl rA rP rk rv rn rf rt can fw fs ss sl sh hd tr 2 _) gX10_tell_X10_traced rfl hv_X10_traced ⟨Nat.le_of_ble_eq_true rfl, Nat.le_of_ble_eq_true rfl⟩ (va_recv hK hP (ci := 10) (q0 := 0) rfl rfl) hP hD trivial hl.1 rfl (Nat.le_of_ble_eq_true rfl) ⟨by decide, by decide⟩ rfl dX10_tell_33) hD hS hA (fun u H locs h_33 hP hD hS => ?_)
        have hP : zP E (mW E ad flt ppl kd vl nb fr tl rA rP rk rv rn rf rt can fw fs ss sl sh hd (31 * tr + 2)) H := hP
        have hD : va_D A (mW E ad flt ppl kd vl nb fr tl rA rP rk rv rn rf rt can fw fs ss sl sh hd (31 * tr + 2)) := hD
        refine lv_aload_n S.1 S.2.1 dX10_tell_36 rfl (lv_at hl 1 rfl) ?_
        refine z_iconst S dX10_tell_37 ?_
        refine z_mvw (z_mV S hK (c_X10_traced l E ad flt ppl kd vl nb fr tl rA rP rk rv rn rf rt can fw fs ss sl sh hd (31 * tr + 2) 1 _) gX10_tell_X10_traced rfl hv_X10_traced ⟨Nat.le_of_ble_eq_true rfl, Nat.le_of_ble_eq_true rfl⟩ (va_recv hK hP (ci := 10) (q0 := 0) rfl rfl) hP hD trivial hl.1 rfl (Nat.le_of_ble_eq_true rfl) ⟨by decide, by decide⟩ rfl dX10_tell_38) hD hS hA (fun u H locs h_38 hP hD hS => ?_)
        have hP : zP E (mW E ad flt ppl kd vl nb fr tl rA rP rk rv rn rf rt can fw fs ss sl sh hd (31 * (31 * tr + 2) + 1)) H := hP
        have hD : va_D A (mW E ad flt ppl kd vl nb fr tl rA rP rk rv rn rf rt can fw fs ss sl sh hd (31 * (31 * tr + 2) + 1)) := hD
        refine lv_iload_n S.1 S.2.1 dX10_tell_41 rfl (lv_at hl 0 rfl) ?_
        refine z_iconst S dX10_tell_42 ?_
        refine z_icmp_ne (tgt := 51) S dX10_tell_43 (by decide) (by omega) (fun c_43 => ?_) (fun c_43 => ?_)
        · skip
          refine lv_aload_n S.1 S.2.1 dX10_tell_51 rfl (lv_at hl 1 rfl) ?_
          refine z_get S hK hP 0 rfl rfl 4 (by decide) i_X10_tell_10 q_X10_tell_2 rfl dX10_tell_52 ?_
          refine lv_iload_n S.1 S.2.1 dX10_tell_55 rfl (lv_at hl 2 rfl) ?_
          refine z_iald S hK hP 3 rfl (by omega) dX10_tell_56 ?_
          refine lv_istore_n (lv' := [(3, .int (jI (nb (x)))), (2, .int (jI (kd (x)))), (0, .ref (ad 0)), (1, .int (jI (x)))]) S.1 S.2.1 dX10_tell_57 rfl hl (by decide) rfl (fun ls hl => ?_)
          refine lv_iload_n S.1 S.2.1 dX10_tell_58 rfl (lv_at hl 1 rfl) ?_
          refine z_if_ne (tgt := 66) S dX10_tell_59 (by decide) (by omega) (fun c_59 => ?_) (fun c_59 => ?_)
          · skip
            refine lv_iload_n S.1 S.2.1 dX10_tell_66 rfl (lv_at hl 1 rfl) ?_
            refine z_iconst S dX10_tell_67 ?_
            refine z_icmp_ne (tgt := 78) S dX10_tell_68 (by decide) (by omega) (fun c_68 => ?_) (fun c_68 => ?_)
            · skip
              refine z_iconst S dX10_tell_78 ?_
              refine lv_iload_n S.1 S.2.1 dX10_tell_79 rfl (lv_at hl 0 rfl) ?_
              refine z_imul S dX10_tell_80 ?_
              refine z_bipush S (by decide +kernel) dX10_tell_81 ?_
              refine z_iadd S dX10_tell_83 ?_
              exact hQ ((2 * (nb (x))) + 100) (31 * (31 * tr + 2) + 1) _ _ (by unfold zA_tell; omega) hP hD hS _ _ dX10_tell_84
            · skip
              refine lv_iload_n S.1 S.2.1 dX10_tell_71 rfl (lv_at hl 0 rfl) ?_
              refine z_bipush S (by decide +kernel) dX10_tell_72 ?_
              refine z_iadd S dX10_tell_74 ?_
              refine z_goto (tgt := 84) S dX10_tell_75 (by decide) ?_
              exact hQ ((nb (x)) + 100) (31 * (31 * tr + 2) + 1) _ _ (by unfold zA_tell; omega) hP hD hS _ _ dX10_tell_84
          · skip
            refine lv_iload_n S.1 S.2.1 dX10_tell_62 rfl (lv_at hl 0 rfl) ?_
            refine z_goto (tgt := 84) S dX10_tell_63 (by decide) ?_
            exact hQ (nb (x)) (31 * (31 * tr + 2) + 1) _ _ (by unfold zA_tell; omega) hP hD hS _ _ dX10_tell_84
        · skip
          refine lv_aload_n S.1 S.2.1 dX10_tell_46 rfl (lv_at hl 1 rfl) ?_
          refine z_iconst S dX10_tell_47 ?_
          refine z_mvw (z_mV S hK (c_X10_traced l E ad flt ppl kd vl nb fr tl rA rP rk rv rn rf rt can fw fs ss sl sh hd (31 * (31 * tr + 2) + 1) 1 _) gX10_tell_X10_traced rfl hv_X10_traced ⟨Nat.le_of_ble_eq_true rfl, Nat.le_of_ble_eq_true rfl⟩ (va_recv hK hP (ci := 10) (q0 := 0) rfl rfl) hP hD trivial hl.1 rfl (Nat.le_of_ble_eq_true rfl) ⟨by decide, by decide⟩ rfl dX10_tell_48) hD hS hA (fun u H locs h_48 hP hD hS => ?_)
          have hP : zP E (mW E ad flt ppl kd vl nb fr tl rA rP rk rv rn rf rt can fw fs ss sl sh hd (31 * (31 * (31 * tr + 2) + 1) + 1)) H := hP
          have hD : va_D A (mW E ad flt ppl kd vl nb fr tl rA rP rk rv rn rf rt can fw fs ss sl sh hd (31 * (31 * (31 * tr + 2) + 1) + 1)) := hD
          refine lv_aload_n S.1 S.2.1 dX10_tell_51 rfl (lv_at hl 1 rfl) ?_
          refine z_get S hK hP 0 rfl rfl 4 (by decide) i_X10_tell_10 q_X10_tell_2 rfl dX10_tell_52 ?_
          refine lv_iload_n S.1 S.2.1 dX10_tell_55 rfl (lv_at hl 2 rfl) ?_
          refine z_iald S hK hP 3 rfl (by omega) dX10_tell_56 ?_
          refine lv_istore_n (lv' := [(3, .int (jI (nb (x)))), (2, .int (jI (kd (x)))), (0, .ref (ad 0)), (1, .int (jI (x)))]) S.1 S.2.1 dX10_tell_57 rfl hl (by decide) rfl (fun ls hl => ?_)
          refine lv_iload_n S.1 S.2.1 dX10_tell_58 rfl (lv_at hl 1 rfl) ?_
          refine z_if_ne (tgt := 66) S dX10_tell_59 (by decide) (by omega) (fun c_59 => ?_) (fun c_59 => ?_)
          · skip
            refine lv_iload_n S.1 S.2.1 dX10_tell_66 rfl (lv_at hl 1 rfl) ?_
            refine z_iconst S dX10_tell_67 ?_
            refine z_icmp_ne (tgt := 78) S dX10_tell_68 (by decide) (by omega) (fun c_68 => ?_) (fun c_68 => ?_)
            · skip
              refine z_iconst S dX10_tell_78 ?_
              refine lv_iload_n S.1 S.2.1 dX10_tell_79 rfl (lv_at hl 0 rfl) ?_
              refine z_imul S dX10_tell_80 ?_
              refine z_bipush S (by decide +kernel) dX10_tell_81 ?_
              refine z_iadd S dX10_tell_83 ?_
              exact hQ ((2 * (nb (x))) + 100) (31 * (31 * (31 * tr + 2) + 1) + 1) _ _ (by unfold zA_tell; omega) hP hD hS _ _ dX10_tell_84
            · skip
              refine lv_iload_n S.1 S.2.1 dX10_tell_71 rfl (lv_at hl 0 rfl) ?_
              refine z_bipush S (by decide +kernel) dX10_tell_72 ?_
              refine z_iadd S dX10_tell_74 ?_
              refine z_goto (tgt := 84) S dX10_tell_75 (by decide) ?_
              exact hQ ((nb (x)) + 100) (31 * (31 * (31 * tr + 2) + 1) + 1) _ _ (by unfold zA_tell; omega) hP hD hS _ _ dX10_tell_84
          · skip
            refine lv_iload_n S.1 S.2.1 dX10_tell_62 rfl (lv_at hl 0 rfl) ?_
            refine z_goto (tgt := 84) S dX10_tell_63 (by decide) ?_
            exact hQ (nb (x)) (31 * (31 * (31 * tr + 2) + 1) + 1) _ _ (by unfold zA_tell; omega) hP hD hS _ _ dX10_tell_84
    · skip
      refine lv_aload_n S.1 S.2.1 dX10_tell_22 rfl (lv_at hl 1 rfl) ?_
      refine z_iconst S dX10_tell_23 ?_
      refine z_mvw (z_mV S hK (c_X10_traced l E ad flt ppl kd vl nb fr tl rA rP rk rv rn rf rt can fw fs ss sl sh hd tr 3 _) gX10_tell_X10_traced rfl hv_X10_traced ⟨Nat.le_of_ble_eq_true rfl, Nat.le_of_ble_eq_true rfl⟩ (va_recv hK hP (ci := 10) (q0 := 0) rfl rfl) hP hD trivial hl.1 rfl (Nat.le_of_ble_eq_true rfl) ⟨by decide, by decide⟩ rfl dX10_tell_24) hD hS hA (fun u H locs h_24 hP hD hS => ?_)
      have hP : zP E (mW E ad flt ppl kd vl nb fr tl rA rP rk rv rn rf rt can fw fs ss sl sh hd (31 * tr + 3)) H := hP
      have hD : va_D A (mW E ad flt ppl kd vl nb fr tl rA rP rk rv rn rf rt can fw fs ss sl sh hd (31 * tr + 3)) := hD
      refine lv_iload_n S.1 S.2.1 dX10_tell_27 rfl (lv_at hl 0 rfl) ?_
      refine z_if_le (tgt := 36) S dX10_tell_28 (by decide) (by omega) (fun c_28 => ?_) (fun c_28 => ?_)
      · skip
        refine lv_aload_n S.1 S.2.1 dX10_tell_36 rfl (lv_at hl 1 rfl) ?_
        refine z_iconst S dX10_tell_37 ?_
        refine z_mvw (z_mV S hK (c_X10_traced l E ad flt ppl kd vl nb fr tl rA rP rk rv rn rf rt can fw fs ss sl sh hd (31 * tr + 3) 1 _) gX10_tell_X10_traced rfl hv_X10_traced ⟨Nat.le_of_ble_eq_true rfl, Nat.le_of_ble_eq_true rfl⟩ (va_recv hK hP (ci := 10) (q0 := 0) rfl rfl) hP hD trivial hl.1 rfl (Nat.le_of_ble_eq_true rfl) ⟨by decide, by decide⟩ rfl dX10_tell_38) hD hS hA (fun u H locs h_38 hP hD hS => ?_)
        have hP : zP E (mW E ad flt ppl kd vl nb fr tl rA rP rk rv rn rf rt can fw fs ss sl sh hd (31 * (31 * tr + 3) + 1)) H := hP
        have hD : va_D A (mW E ad flt ppl kd vl nb fr tl rA rP rk rv rn rf rt can fw fs ss sl sh hd (31 * (31 * tr + 3) + 1)) := hD
        refine lv_iload_n S.1 S.2.1 dX10_tell_41 rfl (lv_at hl 0 rfl) ?_
        refine z_iconst S dX10_tell_42 ?_
        refine z_icmp_ne (tgt := 51) S dX10_tell_43 (by decide) (by omega) (fun c_43 => ?_) (fun c_43 => ?_)
        · skip
          refine lv_aload_n S.1 S.2.1 dX10_tell_51 rfl (lv_at hl 1 rfl) ?_
          refine z_get S hK hP 0 rfl rfl 4 (by decide) i_X10_tell_10 q_X10_tell_2 rfl dX10_tell_52 ?_
          refine lv_iload_n S.1 S.2.1 dX10_tell_55 rfl (lv_at hl 2 rfl) ?_
          refine z_iald S hK hP 3 rfl (by omega) dX10_tell_56 ?_
          refine lv_istore_n (lv' := [(3, .int (jI (nb (x)))), (2, .int (jI (kd (x)))), (0, .ref (ad 0)), (1, .int (jI (x)))]) S.1 S.2.1 dX10_tell_57 rfl hl (by decide) rfl (fun ls hl => ?_)
          refine lv_iload_n S.1 S.2.1 dX10_tell_58 rfl (lv_at hl 1 rfl) ?_
          refine z_if_ne (tgt := 66) S dX10_tell_59 (by decide) (by omega) (fun c_59 => ?_) (fun c_59 => ?_)
          · skip
            refine lv_iload_n S.1 S.2.1 dX10_tell_66 rfl (lv_at hl 1 rfl) ?_
            refine z_iconst S dX10_tell_67 ?_
            refine z_icmp_ne (tgt := 78) S dX10_tell_68 (by decide) (by omega) (fun c_68 => ?_) (fun c_68 => ?_)
            · skip
              refine z_iconst S dX10_tell_78 ?_
              refine lv_iload_n S.1 S.2.1 dX10_tell_79 rfl (lv_at hl 0 rfl) ?_
              refine z_imul S dX10_tell_80 ?_
              refine z_bipush S (by decide +kernel) dX10_tell_81 ?_
              refine z_iadd S dX10_tell_83 ?_
              exact hQ ((2 * (nb (x))) + 100) (31 * (31 * tr + 3) + 1) _ _ (by unfold zA_tell; omega) hP hD hS _ _ dX10_tell_84
            · skip
              refine lv_iload_n S.1 S.2.1 dX10_tell_71 rfl (lv_at hl 0 rfl) ?_
              refine z_bipush S (by decide +kernel) dX10_tell_72 ?_
              refine z_iadd S dX10_tell_74 ?_
              refine z_goto (tgt := 84) S dX10_tell_75 (by decide) ?_
              exact hQ ((nb (x)) + 100) (31 * (31 * tr + 3) + 1) _ _ (by unfold zA_tell; omega) hP hD hS _ _ dX10_tell_84
          · skip
            refine lv_iload_n S.1 S.2.1 dX10_tell_62 rfl (lv_at hl 0 rfl) ?_
            refine z_goto (tgt := 84) S dX10_tell_63 (by decide) ?_
            exact hQ (nb (x)) (31 * (31 * tr + 3) + 1) _ _ (by unfold zA_tell; omega) hP hD hS _ _ dX10_tell_84
        · skip
          refine lv_aload_n S.1 S.2.1 dX10_tell_46 rfl (lv_at hl 1 rfl) ?_
          refine z_iconst S dX10_tell_47 ?_
          refine z_mvw (z_mV S hK (c_X10_traced l E ad flt ppl kd vl nb fr tl rA rP rk rv rn rf rt can fw fs ss sl sh hd (31 * (31 * tr + 3) + 1) 1 _) gX10_tell_X10_traced rfl hv_X10_traced ⟨Nat.le_of_ble_eq_true rfl, Nat.le_of_ble_eq_true rfl⟩ (va_recv hK hP (ci := 10) (q0 := 0) rfl rfl) hP hD trivial hl.1 rfl (Nat.le_of_ble_eq_true rfl) ⟨by decide, by decide⟩ rfl dX10_tell_48) hD hS hA (fun u H locs h_48 hP hD hS => ?_)
          have hP : zP E (mW E ad flt ppl kd vl nb fr tl rA rP rk rv rn rf rt can fw fs ss sl sh hd (31 * (31 * (31 * tr + 3) + 1) + 1)) H := hP
          have hD : va_D A (mW E ad flt ppl kd vl nb fr tl rA rP rk rv rn rf rt can fw fs ss sl sh hd (31 * (31 * (31 * tr + 3) + 1) + 1)) := hD
          refine lv_aload_n S.1 S.2.1 dX10_tell_51 rfl (lv_at hl 1 rfl) ?_
          refine z_get S hK hP 0 rfl rfl 4 (by decide) i_X10_tell_10 q_X10_tell_2 rfl dX10_tell_52 ?_
          refine lv_iload_n S.1 S.2.1 dX10_tell_55 rfl (lv_at hl 2 rfl) ?_
          refine z_iald S hK hP 3 rfl (by omega) dX10_tell_56 ?_
          refine lv_istore_n (lv' := [(3, .int (jI (nb (x)))), (2, .int (jI (kd (x)))), (0, .ref (ad 0)), (1, .int (jI (x)))]) S.1 S.2.1 dX10_tell_57 rfl hl (by decide) rfl (fun ls hl => ?_)
          refine lv_iload_n S.1 S.2.1 dX10_tell_58 rfl (lv_at hl 1 rfl) ?_
          refine z_if_ne (tgt := 66) S dX10_tell_59 (by decide) (by omega) (fun c_59 => ?_) (fun c_59 => ?_)
          · skip
            refine lv_iload_n S.1 S.2.1 dX10_tell_66 rfl (lv_at hl 1 rfl) ?_
            refine z_iconst S dX10_tell_67 ?_
            refine z_icmp_ne (tgt := 78) S dX10_tell_68 (by decide) (by omega) (fun c_68 => ?_) (fun c_68 => ?_)
            · skip
              refine z_iconst S dX10_tell_78 ?_
              refine lv_iload_n S.1 S.2.1 dX10_tell_79 rfl (lv_at hl 0 rfl) ?_
              refine z_imul S dX10_tell_80 ?_
              refine z_bipush S (by decide +kernel) dX10_tell_81 ?_
              refine z_iadd S dX10_tell_83 ?_
              exact hQ ((2 * (nb (x))) + 100) (31 * (31 * (31 * tr + 3) + 1) + 1) _ _ (by unfold zA_tell; omega) hP hD hS _ _ dX10_tell_84
            · skip
              refine lv_iload_n S.1 S.2.1 dX10_tell_71 rfl (lv_at hl 0 rfl) ?_
              refine z_bipush S (by decide +kernel) dX10_tell_72 ?_
              refine z_iadd S dX10_tell_74 ?_
              refine z_goto (tgt := 84) S dX10_tell_75 (by decide) ?_
              exact hQ ((nb (x)) + 100) (31 * (31 * (31 * tr + 3) + 1) + 1) _ _ (by unfold zA_tell; omega) hP hD hS _ _ dX10_tell_84
          · skip
            refine lv_iload_n S.1 S.2.1 dX10_tell_62 rfl (lv_at hl 0 rfl) ?_
            refine z_goto (tgt := 84) S dX10_tell_63 (by decide) ?_
            exact hQ (nb (x)) (31 * (31 * (31 * tr + 3) + 1) + 1) _ _ (by unfold zA_tell; omega) hP hD hS _ _ dX10_tell_84
      · skip
        refine lv_aload_n S.1 S.2.1 dX10_tell_31 rfl (lv_at hl 1 rfl) ?_
        refine z_iconst S dX10_tell_32 ?_
        refine z_mvw (z_mV S hK (c_X10_traced l E ad flt ppl kd vl nb fr tl rA rP rk rv rn rf rt can fw fs ss sl sh hd (31 * tr + 3) 2 _) gX10_tell_X10_traced rfl hv_X10_traced ⟨Nat.le_of_ble_eq_true rfl, Nat.le_of_ble_eq_true rfl⟩ (va_recv hK hP (ci := 10) (q0 := 0) rfl rfl) hP hD trivial hl.1 rfl (Nat.le_of_ble_eq_true rfl) ⟨by decide, by decide⟩ rfl dX10_tell_33) hD hS hA (fun u H locs h_33 hP hD hS => ?_)
        have hP : zP E (mW E ad flt ppl kd vl nb fr tl rA rP rk rv rn rf rt can fw fs ss sl sh hd (31 * (31 * tr + 3) + 2)) H := hP
        have hD : va_D A (mW E ad flt ppl kd vl nb fr tl rA rP rk rv rn rf rt can fw fs ss sl sh hd (31 * (31 * tr + 3) + 2)) := hD
        refine lv_aload_n S.1 S.2.1 dX10_tell_36 rfl (lv_at hl 1 rfl) ?_
        refine z_iconst S dX10_tell_37 ?_
        refine z_mvw (z_mV S hK (c_X10_traced l E ad flt ppl kd vl nb fr tl rA rP rk rv rn rf rt can fw fs ss sl sh hd (31 * (31 * tr + 3) + 2) 1 _) gX10_tell_X10_traced rfl hv_X10_traced ⟨Nat.le_of_ble_eq_true rfl, Nat.le_of_ble_eq_true rfl⟩ (va_recv hK hP (ci := 10) (q0 := 0) rfl rfl) hP hD trivial hl.1 rfl (Nat.le_of_ble_eq_true rfl) ⟨by decide, by decide⟩ rfl dX10_tell_38) hD hS hA (fun u H locs h_38 hP hD hS => ?_)
        have hP : zP E (mW E ad flt ppl kd vl nb fr tl rA rP rk rv rn rf rt can fw fs ss sl sh hd (31 * (31 * (31 * tr + 3) + 2) + 1)) H := hP
        have hD : va_D A (mW E ad flt ppl kd vl nb fr tl rA rP rk rv rn rf rt can fw fs ss sl sh hd (31 * (31 * (31 * tr + 3) + 2) + 1)) := hD
        refine lv_iload_n S.1 S.2.1 dX10_tell_41 rfl (lv_at hl 0 rfl) ?_
        refine z_iconst S dX10_tell_42 ?_
        refine z_icmp_ne (tgt := 51) S dX10_tell_43 (by decide) (by omega) (fun c_43 => ?_) (fun c_43 => ?_)
        · skip
          refine lv_aload_n S.1 S.2.1 dX10_tell_51 rfl (lv_at hl 1 rfl) ?_
          refine z_get S hK hP 0 rfl rfl 4 (by decide) i_X10_tell_10 q_X10_tell_2 rfl dX10_tell_52 ?_
          refine lv_iload_n S.1 S.2.1 dX10_tell_55 rfl (lv_at hl 2 rfl) ?_
          refine z_iald S hK hP 3 rfl (by omega) dX10_tell_56 ?_
          refine lv_istore_n (lv' := [(3, .int (jI (nb (x)))), (2, .int (jI (kd (x)))), (0, .ref (ad 0)), (1, .int (jI (x)))]) S.1 S.2.1 dX10_tell_57 rfl hl (by decide) rfl (fun ls hl => ?_)
          refine lv_iload_n S.1 S.2.1 dX10_tell_58 rfl (lv_at hl 1 rfl) ?_
          refine z_if_ne (tgt := 66) S dX10_tell_59 (by decide) (by omega) (fun c_59 => ?_) (fun c_59 => ?_)
          · skip
            refine lv_iload_n S.1 S.2.1 dX10_tell_66 rfl (lv_at hl 1 rfl) ?_
            refine z_iconst S dX10_tell_67 ?_
            refine z_icmp_ne (tgt := 78) S dX10_tell_68 (by decide) (by omega) (fun c_68 => ?_) (fun c_68 => ?_)
            · skip
              refine z_iconst S dX10_tell_78 ?_
              refine lv_iload_n S.1 S.2.1 dX10_tell_79 rfl (lv_at hl 0 rfl) ?_
              refine z_imul S dX10_tell_80 ?_
              refine z_bipush S (by decide +kernel) dX10_tell_81 ?_
              refine z_iadd S dX10_tell_83 ?_
              exact hQ ((2 * (nb (x))) + 100) (31 * (31 * (31 * tr + 3) + 2) + 1) _ _ (by unfold zA_tell; omega) hP hD hS _ _ dX10_tell_84
            · skip
              refine lv_iload_n S.1 S.2.1 dX10_tell_71 rfl (lv_at hl 0 rfl) ?_
              refine z_bipush S (by decide +kernel) dX10_tell_72 ?_
              refine z_iadd S dX10_tell_74 ?_
              refine z_goto (tgt := 84) S dX10_tell_75 (by decide) ?_
              exact hQ ((nb (x)) + 100) (31 * (31 * (31 * tr + 3) + 2) + 1) _ _ (by unfold zA_tell; omega) hP hD hS _ _ dX10_tell_84
          · skip
            refine lv_iload_n S.1 S.2.1 dX10_tell_62 rfl (lv_at hl 0 rfl) ?_
            refine z_goto (tgt := 84) S dX10_tell_63 (by decide) ?_
            exact hQ (nb (x)) (31 * (31 * (31 * tr + 3) + 2) + 1) _ _ (by unfold zA_tell; omega) hP hD hS _ _ dX10_tell_84
        · skip
          refine lv_aload_n S.1 S.2.1 dX10_tell_46 rfl (lv_at hl 1 rfl) ?_
          refine z_iconst S dX10_tell_47 ?_
          refine z_mvw (z_mV S hK (c_X10_traced l E ad flt ppl kd vl nb fr tl rA rP rk rv rn rf rt can fw fs ss sl sh hd (31 * (31 * (31 * tr + 3) + 2) + 1) 1 _) gX10_tell_X10_traced rfl hv_X10_traced ⟨Nat.le_of_ble_eq_true rfl, Nat.le_of_ble_eq_true rfl⟩ (va_recv hK hP (ci := 10) (q0 := 0) rfl rfl) hP hD trivial hl.1 rfl (Nat.le_of_ble_eq_true rfl) ⟨by decide, by decide⟩ rfl dX10_tell_48) hD hS hA (fun u H locs h_48 hP hD hS => ?_)
          have hP : zP E (mW E ad flt ppl kd vl nb fr tl rA rP rk rv rn rf rt can fw fs ss sl sh hd (31 * (31 * (31 * (31 * tr + 3) + 2) + 1) + 1)) H := hP
          have hD : va_D A (mW E ad flt ppl kd vl nb fr tl rA rP rk rv rn rf rt can fw fs ss sl sh hd (31 * (31 * (31 * (31 * tr + 3) + 2) + 1) + 1)) := hD
          refine lv_aload_n S.1 S.2.1 dX10_tell_51 rfl (lv_at hl 1 rfl) ?_
          refine z_get S hK hP 0 rfl rfl 4 (by decide) i_X10_tell_10 q_X10_tell_2 rfl dX10_tell_52 ?_
          refine lv_iload_n S.1 S.2.1 dX10_tell_55 rfl (lv_at hl 2 rfl) ?_
          refine z_iald S hK hP 3 rfl (by omega) dX10_tell_56 ?_
          refine lv_istore_n (lv' := [(3, .int (jI (nb (x)))), (2, .int (jI (kd (x)))), (0, .ref (ad 0)), (1, .int (jI (x)))]) S.1 S.2.1 dX10_tell_57 rfl hl (by decide) rfl (fun ls hl => ?_)
          refine lv_iload_n S.1 S.2.1 dX10_tell_58 rfl (lv_at hl 1 rfl) ?_
          refine z_if_ne (tgt := 66) S dX10_tell_59 (by decide) (by omega) (fun c_59 => ?_) (fun c_59 => ?_)
          · skip
            refine lv_iload_n S.1 S.2.1 dX10_tell_66 rfl (lv_at hl 1 rfl) ?_
            refine z_iconst S dX10_tell_67 ?_
            refine z_icmp_ne (tgt := 78) S dX10_tell_68 (by decide) (by omega) (fun c_68 => ?_) (fun c_68 => ?_)
            · skip
              refine z_iconst S dX10_tell_78 ?_
              refine lv_iload_n S.1 S.2.1 dX10_tell_79 rfl (lv_at hl 0 rfl) ?_
              refine z_imul S dX10_tell_80 ?_
              refine z_bipush S (by decide +kernel) dX10_tell_81 ?_
              refine z_iadd S dX10_tell_83 ?_
              exact hQ ((2 * (nb (x))) + 100) (31 * (31 * (31 * (31 * tr + 3) + 2) + 1) + 1) _ _ (by unfold zA_tell; omega) hP hD hS _ _ dX10_tell_84
            · skip
              refine lv_iload_n S.1 S.2.1 dX10_tell_71 rfl (lv_at hl 0 rfl) ?_
              refine z_bipush S (by decide +kernel) dX10_tell_72 ?_
              refine z_iadd S dX10_tell_74 ?_
              refine z_goto (tgt := 84) S dX10_tell_75 (by decide) ?_
              exact hQ ((nb (x)) + 100) (31 * (31 * (31 * (31 * tr + 3) + 2) + 1) + 1) _ _ (by unfold zA_tell; omega) hP hD hS _ _ dX10_tell_84
          · skip
            refine lv_iload_n S.1 S.2.1 dX10_tell_62 rfl (lv_at hl 0 rfl) ?_
            refine z_goto (tgt := 84) S dX10_tell_63 (by decide) ?_
            exact hQ (nb (x)) (31 * (31 * (31 * (31 * tr + 3) + 2) + 1) + 1) _ _ (by unfold zA_tell; omega) hP hD hS _ _ dX10_tell_84
  · skip
    refine z_iconst S dX10_tell_8 ?_
    exact hQ (-1) (tr) _ _ (Or.inl ⟨by omega, rfl, rfl⟩) hP hD hS _ _ dX10_tell_9

set_option maxHeartbeats 1000000 in
set_option maxRecDepth 20000 in
theorem c_X10_mourn (l : Launch) (E : zE) (ad : Nat → Nat) (flt ppl : Int) (kd vl nb fr tl : Int → Int) (rA rP : Int) (rk rv rn rf rt can fw fs ss sl sh hd : Int → Int) (tr : Int) (x : Int) (h_x : -2147483648 ≤ x ∧ x ≤ 2147483647) (hp : 0 ≤ ppl ∧ ppl ≤ 10) (hpe : zPeo ppl kd vl nb fr tl) : zMi l E yX10_mourn wsX10_mourn (zr 3 0 0) [.ref (ad 0), .int (jI (x))] (mW E ad flt ppl kd vl nb fr tl rA rP rk rv rn rf rt can fw fs ss sl sh hd tr) (fun _ => True) (fun r (u : Int) => zA_mourn ppl kd tr x r u) (fun (u : Int) => mW E ad flt ppl kd vl nb fr tl rA rP rk rv rn rf rt can fw fs ss sl sh hd u) 0 0 := by
  refine zMi_of (own := RX10) (cc := cX10_mourn) (maxL := 2) (by decide) rfl (Nat.le_of_ble_eq_true rfl) rfl ?_
  intro p e s m args below meth c Q A S hK hA hS hP hD hAe hG hQ ls hl
  have hl : lv_has ls 2 [(0, .ref (ad 0)), (1, .int (jI (x)))] := hl
  refine lv_aload_n S.1 S.2.1 dX10_mourn_0 rfl (lv_at hl 0 rfl) ?_
  refine lv_iload_n S.1 S.2.1 dX10_mourn_1 rfl (lv_at hl 1 rfl) ?_
  refine z_ri (z_rV S hK (c_X10_noOne l E ad flt ppl kd vl nb fr tl rA rP rk rv rn rf rt can fw fs ss sl sh hd tr x (by omega) (by omega)) gX10_mourn_X10_noOne rfl hv_X10_noOne ⟨Nat.le_of_ble_eq_true rfl, Nat.le_of_ble_eq_true rfl⟩ (va_recv hK hP (ci := 10) (q0 := 0) rfl rfl) hP hl.1 rfl (Nat.le_of_ble_eq_true rfl) ⟨by decide, by decide⟩ rfl dX10_mourn_2) (fun r_2 h_2 => ?_)
  refine z_if_eq (tgt := 10) S dX10_mourn_5 (by decide) (by omega) (fun c_5 => ?_) (fun c_5 => ?_)
  · skip
    have hx2 := hpe x (by omega) (by omega)
    refine lv_aload_n S.1 S.2.1 dX10_mourn_10 rfl (lv_at hl 0 rfl) ?_
    refine lv_aload_n S.1 S.2.1 dX10_mourn_11 rfl (lv_at hl 0 rfl) ?_
    refine z_get S hK hP 0 rfl rfl 2 (by decide) i_X10_mourn_10 q_X10_mourn_1 rfl dX10_mourn_12 ?_
    refine lv_iload_n S.1 S.2.1 dX10_mourn_15 rfl (lv_at hl 1 rfl) ?_
    refine z_iald S hK hP 1 rfl (by omega) dX10_mourn_16 ?_
    refine z_iconst S dX10_mourn_17 ?_
    refine z_icmp_ne (tgt := 25) S dX10_mourn_18 (by decide) (by omega) (fun c_18 => ?_) (fun c_18 => ?_)
    · skip
      refine z_iconst S dX10_mourn_25 ?_
      refine z_mvw (z_mV S hK (c_X10_traced l E ad flt ppl kd vl nb fr tl rA rP rk rv rn rf rt can fw fs ss sl sh hd tr 4 _) gX10_mourn_X10_traced rfl hv_X10_traced ⟨Nat.le_of_ble_eq_true rfl, Nat.le_of_ble_eq_true rfl⟩ (va_recv hK hP (ci := 10) (q0 := 0) rfl rfl) hP hD trivial hl.1 rfl (Nat.le_of_ble_eq_true rfl) ⟨by decide, by decide⟩ rfl dX10_mourn_26) hD hS hA (fun u H locs h_26 hP hD hS => ?_)
      have hP : zP E (mW E ad flt ppl kd vl nb fr tl rA rP rk rv rn rf rt can fw fs ss sl sh hd (31 * tr + 4)) H := hP
      have hD : va_D A (mW E ad flt ppl kd vl nb fr tl rA rP rk rv rn rf rt can fw fs ss sl sh hd (31 * tr + 4)) := hD
      refine lv_aload_n S.1 S.2.1 dX10_mourn_29 rfl (lv_at hl 0 rfl) ?_
      refine z_get S hK hP 0 rfl rfl 2 (by decide) i_X10_mourn_10 q_X10_mourn_1 rfl dX10_mourn_30 ?_
      refine lv_iload_n S.1 S.2.1 dX10_mourn_33 rfl (lv_at hl 1 rfl) ?_
      refine z_iald S hK hP 1 rfl (by omega) dX10_mourn_34 ?_
      refine z_iconst S dX10_mourn_35 ?_
      refine z_icmp_ne (tgt := 44) S dX10_mourn_36 (by decide) (by omega) (fun c_36 => ?_) (fun c_36 => ?_)
      · skip
        refine lv_iload_n S.1 S.2.1 dX10_mourn_44 rfl (lv_at hl 1 rfl) ?_
        exact hQ (x) (31 * tr + 4) _ _ (by unfold zA_mourn; omega) hP hD hS _ _ dX10_mourn_45
      · skip
        refine z_bipush S (by decide +kernel) dX10_mourn_39 ?_
        refine z_goto (tgt := 45) S dX10_mourn_41 (by decide) ?_
        exact hQ (80) (31 * tr + 4) _ _ (by unfold zA_mourn; omega) hP hD hS _ _ dX10_mourn_45
    · skip
      refine z_iconst S dX10_mourn_21 ?_
      refine z_goto (tgt := 26) S dX10_mourn_22 (by decide) ?_
      refine z_mvw (z_mV S hK (c_X10_traced l E ad flt ppl kd vl nb fr tl rA rP rk rv rn rf rt can fw fs ss sl sh hd tr 5 _) gX10_mourn_X10_traced rfl hv_X10_traced ⟨Nat.le_of_ble_eq_true rfl, Nat.le_of_ble_eq_true rfl⟩ (va_recv hK hP (ci := 10) (q0 := 0) rfl rfl) hP hD trivial hl.1 rfl (Nat.le_of_ble_eq_true rfl) ⟨by decide, by decide⟩ rfl dX10_mourn_26) hD hS hA (fun u H locs h_26 hP hD hS => ?_)
      have hP : zP E (mW E ad flt ppl kd vl nb fr tl rA rP rk rv rn rf rt can fw fs ss sl sh hd (31 * tr + 5)) H := hP
      have hD : va_D A (mW E ad flt ppl kd vl nb fr tl rA rP rk rv rn rf rt can fw fs ss sl sh hd (31 * tr + 5)) := hD
      refine lv_aload_n S.1 S.2.1 dX10_mourn_29 rfl (lv_at hl 0 rfl) ?_
      refine z_get S hK hP 0 rfl rfl 2 (by decide) i_X10_mourn_10 q_X10_mourn_1 rfl dX10_mourn_30 ?_
      refine lv_iload_n S.1 S.2.1 dX10_mourn_33 rfl (lv_at hl 1 rfl) ?_
      refine z_iald S hK hP 1 rfl (by omega) dX10_mourn_34 ?_
      refine z_iconst S dX10_mourn_35 ?_
      refine z_icmp_ne (tgt := 44) S dX10_mourn_36 (by decide) (by omega) (fun c_36 => ?_) (fun c_36 => ?_)
      · skip
        refine lv_iload_n S.1 S.2.1 dX10_mourn_44 rfl (lv_at hl 1 rfl) ?_
        exact hQ (x) (31 * tr + 5) _ _ (by unfold zA_mourn; omega) hP hD hS _ _ dX10_mourn_45
      · skip
        refine z_bipush S (by decide +kernel) dX10_mourn_39 ?_
        refine z_goto (tgt := 45) S dX10_mourn_41 (by decide) ?_
        exact hQ (80) (31 * tr + 5) _ _ (by unfold zA_mourn; omega) hP hD hS _ _ dX10_mourn_45
  · skip
    refine z_iconst S dX10_mourn_8 ?_
    exact hQ (-1) (tr) _ _ (Or.inl ⟨by omega, rfl, rfl⟩) hP hD hS _ _ dX10_mourn_9

set_option maxHeartbeats 1000000 in
set_option maxRecDepth 20000 in
theorem c_X10_as (l : Launch) (E : zE) (ad : Nat → Nat) (flt ppl : Int) (kd vl nb fr tl : Int → Int) (rA rP : Int) (rk rv rn rf rt can fw fs ss sl sh hd : Int → Int) (tr : Int) (x : Int) (kind : Int) (h_x : -2147483648 ≤ x ∧ x ≤ 2147483647) (h_kind : -2147483648 ≤ kind ∧ kind ≤ 2147483647) (hp : 0 ≤ ppl ∧ ppl ≤ 10) (hpe : zPeo ppl kd vl nb fr tl) : zMi l E yX10_as wsX10_as (zr 3 0 0) [.ref (ad 0), .int (jI (x)), .int (jI (kind))] (mW E ad flt ppl kd vl nb fr tl rA rP rk rv rn rf rt can fw fs ss sl sh hd tr) (fun _ => True) (fun r (u : Int) => zA_as ppl kd x kind r u) (fun (u : Int) => mW E ad u ppl kd vl nb fr tl rA rP rk rv rn rf rt can fw fs ss sl sh hd tr) 0 0 := by
  refine zMi_of (own := RX10) (cc := cX10_as) (maxL := 3) (by decide) rfl (Nat.le_of_ble_eq_true rfl) rfl ?_
  intro p e s m args below meth c Q A S hK hA hS hP hD hAe hG hQ ls hl
  have hl : lv_has ls 3 [(0, .ref (ad 0)), (1, .int (jI (x))), (2, .int (jI (kind)))] := hl
  refine lv_aload_n S.1 S.2.1 dX10_as_0 rfl (lv_at hl 0 rfl) ?_
  refine lv_iload_n S.1 S.2.1 dX10_as_1 rfl (lv_at hl 1 rfl) ?_
  refine z_ri (z_rV S hK (c_X10_noOne l E ad flt ppl kd vl nb fr tl rA rP rk rv rn rf rt can fw fs ss sl sh hd tr x (by omega) (by omega)) gX10_as_X10_noOne rfl hv_X10_noOne ⟨Nat.le_of_ble_eq_true rfl, Nat.le_of_ble_eq_true rfl⟩ (va_recv hK hP (ci := 10) (q0 := 0) rfl rfl) hP hl.1 rfl (Nat.le_of_ble_eq_true rfl) ⟨by decide, by decide⟩ rfl dX10_as_2) (fun r_2 h_2 => ?_)
  refine z_if_eq (tgt := 14) S dX10_as_5 (by decide) (by omega) (fun c_5 => ?_) (fun c_5 => ?_)
  · skip
    have hx2 := hpe x (by omega) (by omega)
    refine lv_iload_n S.1 S.2.1 dX10_as_14 rfl (lv_at hl 2 rfl) ?_
    refine z_i2l S (by omega) dX10_as_15 ?_
    refine z_lconst (z := 0) S (by decide +kernel) dX10_as_16 ?_
    refine z_ldc2 (n := 2) S q_X10_as_1 (by decide +kernel) dX10_as_17 ?_
    refine z_ri (z_rS S hK (c_X10_in l E kind 0 2 (by omega) (by omega) (by omega)) gX10_as_X10_in rfl hs_X10_in ⟨Nat.le_of_ble_eq_true rfl, Nat.le_of_ble_eq_true rfl⟩ trivial hl.1 rfl (Nat.le_of_ble_eq_true rfl) ⟨by decide, by decide⟩ rfl dX10_as_20) (fun r_20 h_20 => ?_)
    refine z_if_ne (tgt := 33) S dX10_as_23 (by decide) (by omega) (fun c_23 => ?_) (fun c_23 => ?_)
    · skip
      refine lv_aload_n S.1 S.2.1 dX10_as_33 rfl (lv_at hl 0 rfl) ?_
      refine z_get S hK hP 0 rfl rfl 2 (by decide) i_X10_as_10 q_X10_as_2 rfl dX10_as_34 ?_
      refine lv_iload_n S.1 S.2.1 dX10_as_37 rfl (lv_at hl 1 rfl) ?_
      refine z_iald S hK hP 1 rfl (by omega) dX10_as_38 ?_
      refine lv_iload_n S.1 S.2.1 dX10_as_39 rfl (lv_at hl 2 rfl) ?_
      refine z_icmp_lt (tgt := 51) S dX10_as_40 (by decide) (by omega) (fun c_40 => ?_) (fun c_40 => ?_)
      · skip
        refine lv_aload_n S.1 S.2.1 dX10_as_51 rfl (lv_at hl 0 rfl) ?_
        refine z_iconst S dX10_as_52 ?_
        refine z_miw (z_mV S hK (c_X10_failed l E ad flt ppl kd vl nb fr tl rA rP rk rv rn rf rt can fw fs ss sl sh hd tr 2 _) gX10_as_X10_failed rfl hv_X10_failed ⟨Nat.le_of_ble_eq_true rfl, Nat.le_of_ble_eq_true rfl⟩ (va_recv hK hP (ci := 10) (q0 := 0) rfl rfl) hP hD trivial hl.1 rfl (Nat.le_of_ble_eq_true rfl) ⟨by decide, by decide⟩ rfl dX10_as_53) hD hS hA (fun r_53 u H locs h_53 hP hD hS => ?_)
        rw [h_53]
        have hP : zP E (mW E ad 2 ppl kd vl nb fr tl rA rP rk rv rn rf rt can fw fs ss sl sh hd tr) H := hP
        have hD : va_D A (mW E ad 2 ppl kd vl nb fr tl rA rP rk rv rn rf rt can fw fs ss sl sh hd tr) := hD
        exact hQ (-10 - 2) (2) _ _ (by unfold zA_as; omega) hP hD hS _ _ dX10_as_56
      · skip
        refine lv_aload_n S.1 S.2.1 dX10_as_43 rfl (lv_at hl 0 rfl) ?_
        refine z_iconst S dX10_as_44 ?_
        refine z_miw (z_mV S hK (c_X10_refused l E ad flt ppl kd vl nb fr tl rA rP rk rv rn rf rt can fw fs ss sl sh hd tr 1 _) gX10_as_X10_refused rfl hv_X10_refused ⟨Nat.le_of_ble_eq_true rfl, Nat.le_of_ble_eq_true rfl⟩ (va_recv hK hP (ci := 10) (q0 := 0) rfl rfl) hP hD trivial hl.1 rfl (Nat.le_of_ble_eq_true rfl) ⟨by decide, by decide⟩ rfl dX10_as_45) hD hS hA (fun r_45 u H locs h_45 hP hD hS => ?_)
        rw [h_45]
        have hP : zP E (mW E ad 0 ppl kd vl nb fr tl rA rP rk rv rn rf rt can fw fs ss sl sh hd tr) H := hP
        have hD : va_D A (mW E ad 0 ppl kd vl nb fr tl rA rP rk rv rn rf rt can fw fs ss sl sh hd tr) := hD
        refine z_goto (tgt := 56) S dX10_as_48 (by decide) ?_
        exact hQ (1) (0) _ _ (by unfold zA_as; omega) hP hD hS _ _ dX10_as_56
    · skip
      refine lv_aload_n S.1 S.2.1 dX10_as_26 rfl (lv_at hl 0 rfl) ?_
      refine z_bipush S (by decide +kernel) dX10_as_27 ?_
      refine z_miw (z_mV S hK (c_X10_refused l E ad flt ppl kd vl nb fr tl rA rP rk rv rn rf rt can fw fs ss sl sh hd tr (-2) _) gX10_as_X10_refused rfl hv_X10_refused ⟨Nat.le_of_ble_eq_true rfl, Nat.le_of_ble_eq_true rfl⟩ (va_recv hK hP (ci := 10) (q0 := 0) rfl rfl) hP hD trivial hl.1 rfl (Nat.le_of_ble_eq_true rfl) ⟨by decide, by decide⟩ rfl dX10_as_29) hD hS hA (fun r_29 u H locs h_29 hP hD hS => ?_)
      rw [h_29]
      have hP : zP E (mW E ad 0 ppl kd vl nb fr tl rA rP rk rv rn rf rt can fw fs ss sl sh hd tr) H := hP
      have hD : va_D A (mW E ad 0 ppl kd vl nb fr tl rA rP rk rv rn rf rt can fw fs ss sl sh hd tr) := hD
      exact hQ (((-2))) (0) _ _ (by unfold zA_as; omega) hP hD hS _ _ dX10_as_32
  · skip
    refine lv_aload_n S.1 S.2.1 dX10_as_8 rfl (lv_at hl 0 rfl) ?_
    refine z_iconst S dX10_as_9 ?_
    refine z_miw (z_mV S hK (c_X10_refused l E ad flt ppl kd vl nb fr tl rA rP rk rv rn rf rt can fw fs ss sl sh hd tr (-1) _) gX10_as_X10_refused rfl hv_X10_refused ⟨Nat.le_of_ble_eq_true rfl, Nat.le_of_ble_eq_true rfl⟩ (va_recv hK hP (ci := 10) (q0 := 0) rfl rfl) hP hD trivial hl.1 rfl (Nat.le_of_ble_eq_true rfl) ⟨by decide, by decide⟩ rfl dX10_as_10) hD hS hA (fun r_10 u H locs h_10 hP hD hS => ?_)
    rw [h_10]
    have hP : zP E (mW E ad 0 ppl kd vl nb fr tl rA rP rk rv rn rf rt can fw fs ss sl sh hd tr) H := hP
    have hD : va_D A (mW E ad 0 ppl kd vl nb fr tl rA rP rk rv rn rf rt can fw fs ss sl sh hd tr) := hD
    exact hQ (((-1))) (0) _ _ (by unfold zA_as; omega) hP hD hS _ _ dX10_as_13

set_option maxHeartbeats 1000000 in
set_option maxRecDepth 20000 in
theorem c_X10_trace (l : Launch) (E : zE) (ad : Nat → Nat) (flt ppl : Int) (kd vl nb fr tl : Int → Int) (rA rP : Int) (rk rv rn rf rt can fw fs ss sl sh hd : Int → Int) (tr : Int) : zRi l E yX10_trace wsX10_trace (zr 1 0 0) [.ref (ad 0)] (fun H => zP E (mW E ad flt ppl kd vl nb fr tl rA rP rk rv rn rf rt can fw fs ss sl sh hd tr) H) (fun r => r = tr) := by
  refine zRi_of (own := RX10) (cc := cX10_trace) (maxL := 1) (by decide) rfl (Nat.le_of_ble_eq_true rfl) rfl ?_
  intro p e s m args below meth c Q S hK hP hQ ls hl
  have hl : lv_has ls 1 [(0, .ref (ad 0))] := hl
  refine lv_aload_n S.1 S.2.1 dX10_trace_0 rfl (lv_at hl 0 rfl) ?_
  refine z_get S hK hP 0 rfl rfl 21 (by decide) i_X10_trace_10 q_X10_trace_1 rfl dX10_trace_1 ?_
  exact hQ (tr) (rfl) _ _ dX10_trace_4

set_option maxHeartbeats 1000000 in
set_option maxRecDepth 20000 in
theorem c_X10_fault (l : Launch) (E : zE) (ad : Nat → Nat) (flt ppl : Int) (kd vl nb fr tl : Int → Int) (rA rP : Int) (rk rv rn rf rt can fw fs ss sl sh hd : Int → Int) (tr : Int) : zRi l E yX10_fault wsX10_fault (zr 1 0 0) [.ref (ad 0)] (fun H => zP E (mW E ad flt ppl kd vl nb fr tl rA rP rk rv rn rf rt can fw fs ss sl sh hd tr) H) (fun r => r = flt) := by
  refine zRi_of (own := RX10) (cc := cX10_fault) (maxL := 1) (by decide) rfl (Nat.le_of_ble_eq_true rfl) rfl ?_
  intro p e s m args below meth c Q S hK hP hQ ls hl
  have hl : lv_has ls 1 [(0, .ref (ad 0))] := hl
  refine lv_aload_n S.1 S.2.1 dX10_fault_0 rfl (lv_at hl 0 rfl) ?_
  refine z_get S hK hP 0 rfl rfl 0 (by decide) i_X10_fault_10 q_X10_fault_1 rfl dX10_fault_1 ?_
  exact hQ (flt) (rfl) _ _ dX10_fault_4

set_option maxHeartbeats 1000000 in
set_option maxRecDepth 20000 in
theorem c_X10_many (l : Launch) (E : zE) (ad : Nat → Nat) (flt ppl : Int) (kd vl nb fr tl : Int → Int) (rA rP : Int) (rk rv rn rf rt can fw fs ss sl sh hd : Int → Int) (tr : Int) : zRi l E yX10_many wsX10_many (zr 1 0 0) [.ref (ad 0)] (fun H => zP E (mW E ad flt ppl kd vl nb fr tl rA rP rk rv rn rf rt can fw fs ss sl sh hd tr) H) (fun r => r = ppl) := by
  refine zRi_of (own := RX10) (cc := cX10_many) (maxL := 1) (by decide) rfl (Nat.le_of_ble_eq_true rfl) rfl ?_
  intro p e s m args below meth c Q S hK hP hQ ls hl
  have hl : lv_has ls 1 [(0, .ref (ad 0))] := hl
  refine lv_aload_n S.1 S.2.1 dX10_many_0 rfl (lv_at hl 0 rfl) ?_
  refine z_get S hK hP 0 rfl rfl 1 (by decide) i_X10_many_10 q_X10_many_1 rfl dX10_many_1 ?_
  exact hQ (ppl) (rfl) _ _ dX10_many_4
