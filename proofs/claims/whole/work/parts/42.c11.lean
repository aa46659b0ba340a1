theorem i_X9_sheet_9 : ∀ w ∈ u_ws RX9 TX9 8, w ∈ wsX9_sheet := fun w h => List.mem_cons_of_mem _ (List.mem_append_left _ (List.mem_append_right _ h))
theorem q_X9_sheet_1 : Cond.fieldLink RX9 56 "LivingNumbers" "latestFault" "I" ∈ wsX9_sheet := List.mem_of_getElem? (i := 1) rfl
theorem q_X9_sheet_2 : Cond.fieldLink RX9 12 "LivingNumbers" "sheets" "LLivingNumbers$Sheets;" ∈ wsX9_sheet := List.mem_of_getElem? (i := 2) rfl
theorem i_X9_lose_9 : ∀ w ∈ u_ws RX9 TX9 8, w ∈ wsX9_lose := fun w h => List.mem_cons_of_mem _ (List.mem_append_left _ (List.mem_append_right _ h))
theorem q_X9_lose_1 : Cond.fieldLink RX9 12 "LivingNumbers" "sheets" "LLivingNumbers$Sheets;" ∈ wsX9_lose := List.mem_of_getElem? (i := 1) rfl
theorem hv_X7_clear : yX7_clear.cls = RX7 ∧ yX7_clear.cls ≠ "java/lang/invoke/MethodHandle" ∧ yX7_clear.cls ≠ "java/lang/invoke/VarHandle" ∧ (parseMethodDescriptor yX7_clear.desc).map (fun d => d.parameters.length) = some 1 := by decide +kernel
theorem i_X9_put_9 : ∀ w ∈ u_ws RX9 TX9 8, w ∈ wsX9_put := fun w h => List.mem_cons_of_mem _ (List.mem_append_left _ (List.mem_append_right _ h))
theorem q_X9_put_1 : Cond.fieldLink RX9 56 "LivingNumbers" "latestFault" "I" ∈ wsX9_put := List.mem_of_getElem? (i := 1) rfl
theorem q_X9_put_2 : Cond.fieldLink RX9 12 "LivingNumbers" "sheets" "LLivingNumbers$Sheets;" ∈ wsX9_put := List.mem_of_getElem? (i := 2) rfl
theorem hv_X7_hasCell : yX7_hasCell.cls = RX7 ∧ yX7_hasCell.cls ≠ "java/lang/invoke/MethodHandle" ∧ yX7_hasCell.cls ≠ "java/lang/invoke/VarHandle" ∧ (parseMethodDescriptor yX7_hasCell.desc).map (fun d => d.parameters.length) = some 2 := by decide +kernel
theorem i_X9_cell_9 : ∀ w ∈ u_ws RX9 TX9 8, w ∈ wsX9_cell := fun w h => List.mem_cons_of_mem _ (List.mem_append_left _ (List.mem_append_right _ h))
theorem q_X9_cell_1 : Cond.fieldLink RX9 56 "LivingNumbers" "latestFault" "I" ∈ wsX9_cell := List.mem_of_getElem? (i := 1) rfl
theorem q_X9_cell_2 : Cond.constantLong RX9 145 (-9223372036854775808) ∈ wsX9_cell := List.mem_of_getElem? (i := 2) rfl
theorem q_X9_cell_3 : Cond.fieldLink RX9 12 "LivingNumbers" "sheets" "LLivingNumbers$Sheets;" ∈ wsX9_cell := List.mem_of_getElem? (i := 3) rfl
theorem i_X9_copy_9 : ∀ w ∈ u_ws RX9 TX9 8, w ∈ wsX9_copy := fun w h => List.mem_cons_of_mem _ (List.mem_append_left _ (List.mem_append_right _ h))
theorem q_X9_copy_1 : Cond.fieldLink RX9 56 "LivingNumbers" "latestFault" "I" ∈ wsX9_copy := List.mem_of_getElem? (i := 1) rfl
theorem q_X9_copy_2 : Cond.fieldLink RX9 12 "LivingNumbers" "sheets" "LLivingNumbers$Sheets;" ∈ wsX9_copy := List.mem_of_getElem? (i := 2) rfl
theorem hv_X7_move : yX7_move.cls = RX7 ∧ yX7_move.cls ≠ "java/lang/invoke/MethodHandle" ∧ yX7_move.cls ≠ "java/lang/invoke/VarHandle" ∧ (parseMethodDescriptor yX7_move.desc).map (fun d => d.parameters.length) = some 5 := by decide +kernel
theorem i_X9_tell_9 : ∀ w ∈ u_ws RX9 TX9 8, w ∈ wsX9_tell := fun w h => List.mem_cons_of_mem _ (List.mem_append_left _ (List.mem_append_left _ (List.mem_append_left _ (List.mem_append_left _ (List.mem_append_left _ (List.mem_append_right _ h))))))
theorem q_X9_tell_1 : Cond.fieldLink RX9 28 "LivingNumbers" "people" "LLivingNumbers$People;" ∈ wsX9_tell := List.mem_of_getElem? (i := 1) rfl
theorem q_X9_tell_2 : Cond.fieldLink RX9 35 "LivingNumbers" "traced" "LLivingNumbers$Trace;" ∈ wsX9_tell := List.mem_of_getElem? (i := 2) rfl
theorem q_X9_tell_42 : Cond.code yX3_telling cX3_telling 2 (some .int) ∈ wsX9_tell := List.mem_of_getElem? (i := 42) rfl
theorem hv_X3_telling : yX3_telling.cls = RX3 ∧ yX3_telling.cls ≠ "java/lang/invoke/MethodHandle" ∧ yX3_telling.cls ≠ "java/lang/invoke/VarHandle" ∧ (parseMethodDescriptor yX3_telling.desc).map (fun d => d.parameters.length) = some 1 := by decide +kernel
theorem i_X9_mourn_9 : ∀ w ∈ u_ws RX9 TX9 8, w ∈ wsX9_mourn := fun w h => List.mem_cons_of_mem _ (List.mem_append_left _ (List.mem_append_left _ (List.mem_append_right _ h)))
theorem q_X9_mourn_1 : Cond.fieldLink RX9 28 "LivingNumbers" "people" "LLivingNumbers$People;" ∈ wsX9_mourn := List.mem_of_getElem? (i := 1) rfl
theorem q_X9_mourn_2 : Cond.fieldLink RX9 35 "LivingNumbers" "traced" "LLivingNumbers$Trace;" ∈ wsX9_mourn := List.mem_of_getElem? (i := 2) rfl
theorem q_X9_mourn_23 : Cond.code yX3_mourning cX3_mourning 3 (some .int) ∈ wsX9_mourn := List.mem_of_getElem? (i := 23) rfl
theorem hu_2__LLivingNumbers_Trace_I_I : "LivingNumbers$Named" ≠ "java/lang/invoke/MethodHandle" ∧ "LivingNumbers$Named" ≠ "java/lang/invoke/VarHandle" ∧ (parseMethodDescriptor "(LLivingNumbers$Trace;I)I").map (fun d => d.parameters.length) = some 2 := by decide +kernel
theorem hv_X3_mourning : yX3_mourning.cls = RX3 ∧ yX3_mourning.cls ≠ "java/lang/invoke/MethodHandle" ∧ yX3_mourning.cls ≠ "java/lang/invoke/VarHandle" ∧ (parseMethodDescriptor yX3_mourning.desc).map (fun d => d.parameters.length) = some 2 := by decide +kernel
theorem i_X9_as_9 : ∀ w ∈ u_ws RX9 TX9 8, w ∈ wsX9_as := fun w h => List.mem_cons_of_mem _ (List.mem_append_left _ (List.mem_append_right _ h))
theorem q_X9_as_1 : Cond.fieldLink RX9 56 "LivingNumbers" "latestFault" "I" ∈ wsX9_as := List.mem_of_getElem? (i := 1) rfl
theorem q_X9_as_2 : Cond.fieldLink RX9 28 "LivingNumbers" "people" "LLivingNumbers$People;" ∈ wsX9_as := List.mem_of_getElem? (i := 2) rfl
theorem q_X9_as_17 : Cond.code yX3_kind cX3_kind 1 (some .int) ∈ wsX9_as := List.mem_of_getElem? (i := 17) rfl
theorem i_X9_trace_9 : ∀ w ∈ u_ws RX9 TX9 8, w ∈ wsX9_trace := fun w h => List.mem_cons_of_mem _ (List.mem_append_left _ (List.mem_append_right _ h))
theorem q_X9_trace_1 : Cond.fieldLink RX9 35 "LivingNumbers" "traced" "LLivingNumbers$Trace;" ∈ wsX9_trace := List.mem_of_getElem? (i := 1) rfl
theorem hv_X8_left : yX8_left.cls = RX8 ∧ yX8_left.cls ≠ "java/lang/invoke/MethodHandle" ∧ yX8_left.cls ≠ "java/lang/invoke/VarHandle" ∧ (parseMethodDescriptor yX8_left.desc).map (fun d => d.parameters.length) = some 0 := by decide +kernel
theorem i_X9_fault_9 : ∀ w ∈ u_ws RX9 TX9 8, w ∈ wsX9_fault := fun w h => List.mem_cons_of_mem _ (List.mem_append_right _ h)
theorem q_X9_fault_1 : Cond.fieldLink RX9 56 "LivingNumbers" "latestFault" "I" ∈ wsX9_fault := List.mem_of_getElem? (i := 1) rfl
theorem i_X9_many_9 : ∀ w ∈ u_ws RX9 TX9 8, w ∈ wsX9_many := fun w h => List.mem_cons_of_mem _ (List.mem_append_left _ (List.mem_append_right _ h))
theorem q_X9_many_1 : Cond.fieldLink RX9 28 "LivingNumbers" "people" "LLivingNumbers$People;" ∈ wsX9_many := List.mem_of_getElem? (i := 1) rfl
set_option maxHeartbeats 1000000 in
set_option maxRecDepth 20000 in
theorem c_X9_sheet (l : Launch) (E : zE) (ac : Nat → Nat) (flt : Int) (ce la si : Int → Int) (ln : Int) (co : Int → Int) (n : Int) (on : Nat → Option Nat) (tr : Int) (fw cw ch nm : Int → Int) (k : Int) (lane : Int) (cn : Int) (ss : Int → Int) (sl : Int → Int) (h_k : -2147483648 ≤ k ∧ k ≤ 2147483647) (h_lane : -2147483648 ≤ lane ∧ lane ≤ 2147483647) (h_cn : -2147483648 ≤ cn ∧ cn ≤ 2147483647) (hrel : zRel la si ss sl) : zMi l E yX9_sheet wsX9_sheet (zr 8 0 0) [.ref (ac 0), .int (jI (k)), .int (jI (lane)), .int (jI (cn))] (cW E ac flt ce la si ln co n on tr fw cw ch nm) (fun _ => True) (fun r (u : Int × ((Int → Int) × ((Int → Int) × (Int → Int)))) => ∃ ss2 sl2, zA_sheet ss sl ce k lane cn r u.1 ss2 sl2 u.2.1 ∧ zRel u.2.2.1 u.2.2.2 ss2 sl2) (fun (u : Int × ((Int → Int) × ((Int → Int) × (Int → Int)))) => cW E ac u.1 u.2.1 u.2.2.1 u.2.2.2 ln co n on tr fw cw ch nm) 0 0 := by
  refine zMi_of (own := RX9) (cc := cX9_sheet) (maxL := 4) (by decide) rfl (Nat.le_of_ble_eq_true rfl) rfl ?_
  intro p e s m args below meth c Q A S hK hA hS hP hD hAe hG hQ ls hl
  have hl : lv_has ls 4 [(0, .ref (ac 0)), (1, .int (jI (k))), (2, .int (jI (lane))), (3, .int (jI (cn)))] := hl
  have hls := zRel_ls hrel
  refine lv_aload_n S.1 S.2.1 dX9_sheet_0 rfl (lv_at hl 0 rfl) ?_
  refine z_iconst S dX9_sheet_1 ?_
  refine z_puti S hK hP hD hS 0 rfl rfl 7 (by decide) i_X9_sheet_9 q_X9_sheet_1 tyX9 tyX9_ok nmX9 rfl (by decide +kernel) (Nat.le_of_ble_eq_true rfl) dX9_sheet_2 (fun H locs hP hD hS => ?_)
  have hP : zP E (cW E ac 0 ce la si ln co n on tr fw cw ch nm) H := hP
  have hD : va_D A (cW E ac 0 ce la si ln co n on tr fw cw ch nm) := hD
  refine lv_iload_n S.1 S.2.1 dX9_sheet_5 rfl (lv_at hl 1 rfl) ?_
  refine z_ri (z_rS S hK (c_X9_isSheet l E k (by omega)) gX9_sheet_X9_isSheet rfl hs_X9_isSheet ⟨Nat.le_of_ble_eq_true rfl, Nat.le_of_ble_eq_true rfl⟩ trivial hl.1 rfl (Nat.le_of_ble_eq_true rfl) ⟨by decide, by decide⟩ rfl dX9_sheet_6) (fun r_6 h_6 => ?_)
  refine z_if_ne (tgt := 14) S dX9_sheet_9 (by decide) (by omega) (fun c_9 => ?_) (fun c_9 => ?_)
  · skip
    refine lv_iload_n S.1 S.2.1 dX9_sheet_14 rfl (lv_at hl 2 rfl) ?_
    refine z_ri (z_rS S hK (c_X9_isLane l E lane (by omega)) gX9_sheet_X9_isLane rfl hs_X9_isLane ⟨Nat.le_of_ble_eq_true rfl, Nat.le_of_ble_eq_true rfl⟩ trivial hl.1 rfl (Nat.le_of_ble_eq_true rfl) ⟨by decide, by decide⟩ rfl dX9_sheet_15) (fun r_15 h_15 => ?_)
    refine z_if_eq (tgt := 27) S dX9_sheet_18 (by decide) (by omega) (fun c_18 => ?_) (fun c_18 => ?_)
    · skip
      refine z_bipush S (by decide +kernel) dX9_sheet_27 ?_
      exact hQ (-2) ((0, (ce, (la, si)))) _ _ (⟨ss, sl, Or.inl ⟨Or.inr ⟨by omega, Or.inl ⟨by omega, rfl, rfl⟩⟩, rfl, rfl, rfl⟩, hrel⟩) hP hD hS _ _ dX9_sheet_29
    · skip
      refine lv_iload_n S.1 S.2.1 dX9_sheet_21 rfl (lv_at hl 3 rfl) ?_
      refine z_bipush S (by decide +kernel) dX9_sheet_22 ?_
      refine z_icmp_le (tgt := 30) S dX9_sheet_24 (by decide) (by omega) (fun c_24 => ?_) (fun c_24 => ?_)
      · skip
        refine lv_iload_n S.1 S.2.1 dX9_sheet_30 rfl (lv_at hl 3 rfl) ?_
        refine z_if_ge (tgt := 40) S dX9_sheet_31 (by decide) (by omega) (fun c_31 => ?_) (fun c_31 => ?_)
        · skip
          refine lv_aload_n S.1 S.2.1 dX9_sheet_40 rfl (lv_at hl 0 rfl) ?_
          refine z_get S hK hP 0 rfl rfl 0 (by decide) i_X9_sheet_9 q_X9_sheet_2 rfl dX9_sheet_41 ?_
          refine lv_iload_n S.1 S.2.1 dX9_sheet_44 rfl (lv_at hl 1 rfl) ?_
          refine lv_iload_n S.1 S.2.1 dX9_sheet_45 rfl (lv_at hl 2 rfl) ?_
          refine lv_iload_n S.1 S.2.1 dX9_sheet_46 rfl (lv_at hl 3 rfl) ?_
          refine z_mv (wr := [(ac 0, .inr (9, [.ref (ac 1), .ref (ac 5), .ref (ac 7), .ref (ac 9), .ref (ac 10), .ref (ac 12), .ref (ac 14), .int (jI 0)])), (ac 5, .inr (6, [.ref (ac 6), .int (jI ln)])), (ac 6, eI E 100 co), (ac 7, .inr (4, [.ref (ac 8), .int (jI n)])), (ac 8, eN E 10 on), (ac 9, .inr (8, [.int (jI tr)])), (ac 10, .inr (0, [.ref (ac 11)])), (ac 11, eI E 1000 fw), (ac 12, .inr (0, [.ref (ac 13)])), (ac 13, eI E 1000 cw), (ac 14, .inr (5, [.ref (ac 15), .ref (ac 16)])), (ac 15, eI E 3 ch), (ac 16, eI E 3 nm)]) (z_mV S hK (c_X7_renew l E (ac 1) (ac 2) (ac 3) (ac 4) ce la si k lane cn (by omega) (by omega) (by omega) (hls) _) gX9_sheet_X7_renew rfl hv_X7_renew ⟨Nat.le_of_ble_eq_true rfl, Nat.le_of_ble_eq_true rfl⟩ (va_recv hK hP (ci := 7) (q0 := 1) rfl rfl) (hP.sub [1, 2, 3, 4] rfl) (hD.sub [1, 2, 3, 4] (by decide) rfl) trivial hl.1 rfl (Nat.le_of_ble_eq_true rfl) ⟨by decide, by decide⟩ rfl dX9_sheet_47) hP hD hS hA [1, 2, 3, 4] [0, 5, 6, 7, 8, 9, 10, 11, 12, 13, 14, 15, 16] [0, 13, 14, 15, 16, 1, 2, 3, 4, 5, 6, 7, 8, 9, 10, 11, 12] rfl rfl (by decide) (by decide) (fun (u : Unit) => cW E ac 0 (zfill ce (100 * k) cn 0) (zu la k lane) (zu si k cn) ln co n on tr fw cw ch nm) (by decide) (fun _ => rfl) (fun u H locs h_47 hP hD hS => ?_)
          have hP : zP E (cW E ac 0 (zfill ce (100 * k) cn 0) (zu la k lane) (zu si k cn) ln co n on tr fw cw ch nm) H := hP
          have hD : va_D A (cW E ac 0 (zfill ce (100 * k) cn 0) (zu la k lane) (zu si k cn) ln co n on tr fw cw ch nm) := hD
          refine z_iconst S dX9_sheet_50 ?_
          exact hQ (1) ((0, (zfill ce (100 * k) cn 0, (zu la k lane, zu si k cn)))) _ _ (⟨_, _, Or.inr ⟨⟨by omega, by omega, by omega, rfl, rfl⟩, rfl, rfl, rfl⟩, zRel_renew hrel (by omega) (by omega)⟩) hP hD hS _ _ dX9_sheet_51
        · skip
          refine lv_aload_n S.1 S.2.1 dX9_sheet_34 rfl (lv_at hl 0 rfl) ?_
          refine z_iconst S dX9_sheet_35 ?_
          refine z_miw (z_mV S hK (c_X9_faulted l E ac 0 ce la si ln co n on tr fw cw ch nm 4 _) gX9_sheet_X9_faulted rfl hv_X9_faulted ⟨Nat.le_of_ble_eq_true rfl, Nat.le_of_ble_eq_true rfl⟩ (va_recv hK hP (ci := 9) (q0 := 0) rfl rfl) hP hD trivial hl.1 rfl (Nat.le_of_ble_eq_true rfl) ⟨by decide, by decide⟩ rfl dX9_sheet_36) hD hS hA (fun r_36 u H locs h_36 hP hD hS => ?_)
          rw [h_36]
          have hP : zP E (cW E ac 4 ce la si ln co n on tr fw cw ch nm) H := hP
          have hD : va_D A (cW E ac 4 ce la si ln co n on tr fw cw ch nm) := hD
          exact hQ (-10 - 4) ((4, (ce, (la, si)))) _ _ (⟨ss, sl, Or.inl ⟨Or.inr ⟨by omega, Or.inr ⟨by omega, by omega, by omega, by omega⟩⟩, rfl, rfl, rfl⟩, hrel⟩) hP hD hS _ _ dX9_sheet_39
      · skip
        refine z_bipush S (by decide +kernel) dX9_sheet_27 ?_
        exact hQ (-2) ((0, (ce, (la, si)))) _ _ (⟨ss, sl, Or.inl ⟨Or.inr ⟨by omega, Or.inl ⟨by omega, rfl, rfl⟩⟩, rfl, rfl, rfl⟩, hrel⟩) hP hD hS _ _ dX9_sheet_29
  · skip
    refine z_iconst S dX9_sheet_12 ?_
    exact hQ (-1) ((0, (ce, (la, si)))) _ _ (⟨ss, sl, Or.inl ⟨Or.inl ⟨by omega, rfl, rfl⟩, rfl, rfl, rfl⟩, hrel⟩) hP hD hS _ _ dX9_sheet_13

set_option maxHeartbeats 1000000 in
set_option maxRecDepth 20000 in
theorem c_X9_lose (l : Launch) (E : zE) (ac : Nat → Nat) (flt : Int) (ce la si : Int → Int) (ln : Int) (co : Int → Int) (n : Int) (on : Nat → Option Nat) (tr : Int) (fw cw ch nm : Int → Int) (k : Int) (ss : Int → Int) (sl : Int → Int) (h_k : -2147483648 ≤ k ∧ k ≤ 2147483647) (hrel : zRel la si ss sl) : zMi l E yX9_lose wsX9_lose (zr 9 0 0) [.ref (ac 0), .int (jI (k))] (cW E ac flt ce la si ln co n on tr fw cw ch nm) (fun _ => True) (fun r (u : (Int → Int) × (Int → Int)) => ∃ ss2, zA_lose ss k r ss2 ∧ zRel u.1 u.2 ss2 sl) (fun (u : (Int → Int) × (Int → Int)) => cW E ac flt ce u.1 u.2 ln co n on tr fw cw ch nm) 0 0 := by
  refine zMi_of (own := RX9) (cc := cX9_lose) (maxL := 2) (by decide) rfl (Nat.le_of_ble_eq_true rfl) rfl ?_
  intro p e s m args below meth c Q A S hK hA hS hP hD hAe hG hQ ls hl
  have hl : lv_has ls 2 [(0, .ref (ac 0)), (1, .int (jI (k)))] := hl
  have hls := zRel_ls hrel
  refine lv_iload_n S.1 S.2.1 dX9_lose_0 rfl (lv_at hl 1 rfl) ?_
  refine z_ri (z_rS S hK (c_X9_isSheet l E k (by omega)) gX9_lose_X9_isSheet rfl hs_X9_isSheet ⟨Nat.le_of_ble_eq_true rfl, Nat.le_of_ble_eq_true rfl⟩ trivial hl.1 rfl (Nat.le_of_ble_eq_true rfl) ⟨by decide, by decide⟩ rfl dX9_lose_1) (fun r_1 h_1 => ?_)
  refine z_if_ne (tgt := 9) S dX9_lose_4 (by decide) (by omega) (fun c_4 => ?_) (fun c_4 => ?_)
  · skip
    refine lv_aload_n S.1 S.2.1 dX9_lose_9 rfl (lv_at hl 0 rfl) ?_
    refine z_get S hK hP 0 rfl rfl 0 (by decide) i_X9_lose_9 q_X9_lose_1 rfl dX9_lose_10 ?_
    refine lv_iload_n S.1 S.2.1 dX9_lose_13 rfl (lv_at hl 1 rfl) ?_
    refine z_ri (z_rV S hK (c_X7_hasRow l E (ac 1) (ac 2) (ac 3) (ac 4) ce la si k (by omega) (hls)) gX9_lose_X7_hasRow rfl hv_X7_hasRow ⟨Nat.le_of_ble_eq_true rfl, Nat.le_of_ble_eq_true rfl⟩ (va_recv hK hP (ci := 7) (q0 := 1) rfl rfl) (hP.sub [1, 2, 3, 4] rfl) hl.1 rfl (Nat.le_of_ble_eq_true rfl) ⟨by decide, by decide⟩ rfl dX9_lose_14) (fun r_14 h_14 => ?_)
    refine z_if_ne (tgt := 22) S dX9_lose_17 (by decide) (by omega) (fun c_17 => ?_) (fun c_17 => ?_)
    · skip
      refine lv_aload_n S.1 S.2.1 dX9_lose_22 rfl (lv_at hl 0 rfl) ?_
      have hrk := hrel k (by omega) (by omega)
      refine z_get S hK hP 0 rfl rfl 0 (by decide) i_X9_lose_9 q_X9_lose_1 rfl dX9_lose_23 ?_
      refine lv_iload_n S.1 S.2.1 dX9_lose_26 rfl (lv_at hl 1 rfl) ?_
      refine z_mv (wr := [(ac 0, .inr (9, [.ref (ac 1), .ref (ac 5), .ref (ac 7), .ref (ac 9), .ref (ac 10), .ref (ac 12), .ref (ac 14), .int (jI flt)])), (ac 5, .inr (6, [.ref (ac 6), .int (jI ln)])), (ac 6, eI E 100 co), (ac 7, .inr (4, [.ref (ac 8), .int (jI n)])), (ac 8, eN E 10 on), (ac 9, .inr (8, [.int (jI tr)])), (ac 10, .inr (0, [.ref (ac 11)])), (ac 11, eI E 1000 fw), (ac 12, .inr (0, [.ref (ac 13)])), (ac 13, eI E 1000 cw), (ac 14, .inr (5, [.ref (ac 15), .ref (ac 16)])), (ac 15, eI E 3 ch), (ac 16, eI E 3 nm)]) (z_mV S hK (c_X7_clear l E (ac 1) (ac 2) (ac 3) (ac 4) ce la si k (by omega) (hls) _) gX9_lose_X7_clear rfl hv_X7_clear ⟨Nat.le_of_ble_eq_true rfl, Nat.le_of_ble_eq_true rfl⟩ (va_recv hK hP (ci := 7) (q0 := 1) rfl rfl) (hP.sub [1, 2, 3, 4] rfl) (hD.sub [1, 2, 3, 4] (by decide) rfl) trivial hl.1 rfl (Nat.le_of_ble_eq_true rfl) ⟨by decide, by decide⟩ rfl dX9_lose_27) hP hD hS hA [1, 2, 3, 4] [0, 5, 6, 7, 8, 9, 10, 11, 12, 13, 14, 15, 16] [0, 13, 14, 15, 16, 1, 2, 3, 4, 5, 6, 7, 8, 9, 10, 11, 12] rfl rfl (by decide) (by decide) (fun (u : Unit) => cW E ac flt (zfill ce (100 * k) 0 0) (zu la k (-1)) (zu si k 0) ln co n on tr fw cw ch nm) (by decide) (fun _ => rfl) (fun u H locs h_27 hP hD hS => ?_)
      have hP : zP E (cW E ac flt (zfill ce (100 * k) 0 0) (zu la k (-1)) (zu si k 0) ln co n on tr fw cw ch nm) H := hP
      have hD : va_D A (cW E ac flt (zfill ce (100 * k) 0 0) (zu la k (-1)) (zu si k 0) ln co n on tr fw cw ch nm) := hD
      rw [zfill_0] at hP hD
      refine z_iconst S dX9_lose_30 ?_
      exact hQ (1) ((zu la k (-1), zu si k 0)) _ _ (⟨_, Or.inr ⟨⟨by omega, by omega⟩, rfl⟩, zRel_clear hrel⟩) hP hD hS _ _ dX9_lose_31
    · skip
      have hrk := hrel k (by omega) (by omega)
      refine z_iconst S dX9_lose_20 ?_
      exact hQ (0) ((la, si)) _ _ (⟨_, Or.inr ⟨⟨by omega, by omega⟩, rfl⟩, zRel_same (la := la) (si := si) hrel (by omega)⟩) hP hD hS _ _ dX9_lose_21
  · skip
    refine z_iconst S dX9_lose_7 ?_
    exact hQ (-1) ((la, si)) _ _ (⟨_, Or.inl ⟨⟨by omega, rfl⟩, rfl⟩, hrel⟩) hP hD hS _ _ dX9_lose_8

set_option maxHeartbeats 1000000 in
set_option maxRecDepth 20000 in
theorem c_X9_put (l : Launch) (E : zE) (ac : Nat → Nat) (flt : Int) (ce la si : Int → Int) (ln : Int) (co : Int → Int) (n : Int) (on : Nat → Option Nat) (tr : Int) (fw cw ch nm : Int → Int) (k : Int) (i : Int) (v : Int) (ss : Int → Int) (sl : Int → Int) (h_k : -2147483648 ≤ k ∧ k ≤ 2147483647) (h_i : -2147483648 ≤ i ∧ i ≤ 2147483647) (h_v : -2147483648 ≤ v ∧ v ≤ 2147483647) (hrel : zRel la si ss sl) : zMi l E yX9_put wsX9_put (zr 8 0 0) [.ref (ac 0), .int (jI (k)), .int (jI (i)), .int (jI (v))] (cW E ac flt ce la si ln co n on tr fw cw ch nm) (fun _ => True) (fun r (u : Int × (Int → Int)) => zA_put ss sl ce k i v r u.1 u.2) (fun (u : Int × (Int → Int)) => cW E ac u.1 u.2 la si ln co n on tr fw cw ch nm) 0 0 := by
  refine zMi_of (own := RX9) (cc := cX9_put) (maxL := 4) (by decide) rfl (Nat.le_of_ble_eq_true rfl) rfl ?_
  intro p e s m args below meth c Q A S hK hA hS hP hD hAe hG hQ ls hl
  have hl : lv_has ls 4 [(0, .ref (ac 0)), (1, .int (jI (k))), (2, .int (jI (i))), (3, .int (jI (v)))] := hl
  have hls := zRel_ls hrel
  refine lv_aload_n S.1 S.2.1 dX9_put_0 rfl (lv_at hl 0 rfl) ?_
  refine z_iconst S dX9_put_1 ?_
  refine z_puti S hK hP hD hS 0 rfl rfl 7 (by decide) i_X9_put_9 q_X9_put_1 tyX9 tyX9_ok nmX9 rfl (by decide +kernel) (Nat.le_of_ble_eq_true rfl) dX9_put_2 (fun H locs hP hD hS => ?_)
  have hP : zP E (cW E ac 0 ce la si ln co n on tr fw cw ch nm) H := hP
  have hD : va_D A (cW E ac 0 ce la si ln co n on tr fw cw ch nm) := hD
  refine lv_iload_n S.1 S.2.1 dX9_put_5 rfl (lv_at hl 1 rfl) ?_
  refine z_ri (z_rS S hK (c_X9_isSheet l E k (by omega)) gX9_put_X9_isSheet rfl hs_X9_isSheet ⟨Nat.le_of_ble_eq_true rfl, Nat.le_of_ble_eq_true rfl⟩ trivial hl.1 rfl (Nat.le_of_ble_eq_true rfl) ⟨by decide, by decide⟩ rfl dX9_put_6) (fun r_6 h_6 => ?_)
  refine z_if_ne (tgt := 14) S dX9_put_9 (by decide) (by omega) (fun c_9 => ?_) (fun c_9 => ?_)
  · skip
    have hrk := hrel k (by omega) (by omega)
    refine lv_aload_n S.1 S.2.1 dX9_put_14 rfl (lv_at hl 0 rfl) ?_
    refine z_get S hK hP 0 rfl rfl 0 (by decide) i_X9_put_9 q_X9_put_2 rfl dX9_put_15 ?_
    refine lv_iload_n S.1 S.2.1 dX9_put_18 rfl (lv_at hl 1 rfl) ?_
    refine z_ri (z_rV S hK (c_X7_hasRow l E (ac 1) (ac 2) (ac 3) (ac 4) ce la si k (by omega) (hls)) gX9_put_X7_hasRow rfl hv_X7_hasRow ⟨Nat.le_of_ble_eq_true rfl, Nat.le_of_ble_eq_true rfl⟩ (va_recv hK hP (ci := 7) (q0 := 1) rfl rfl) (hP.sub [1, 2, 3, 4] rfl) hl.1 rfl (Nat.le_of_ble_eq_true rfl) ⟨by decide, by decide⟩ rfl dX9_put_19) (fun r_19 h_19 => ?_)
    refine z_if_ne (tgt := 31) S dX9_put_22 (by decide) (by omega) (fun c_22 => ?_) (fun c_22 => ?_)
    · skip
      refine lv_aload_n S.1 S.2.1 dX9_put_31 rfl (lv_at hl 0 rfl) ?_
      refine z_get S hK hP 0 rfl rfl 0 (by decide) i_X9_put_9 q_X9_put_2 rfl dX9_put_32 ?_
      refine lv_iload_n S.1 S.2.1 dX9_put_35 rfl (lv_at hl 1 rfl) ?_
      refine lv_iload_n S.1 S.2.1 dX9_put_36 rfl (lv_at hl 2 rfl) ?_
      refine z_ri (z_rV S hK (c_X7_hasCell l E (ac 1) (ac 2) (ac 3) (ac 4) ce la si k i (by omega) (by omega) (hls)) gX9_put_X7_hasCell rfl hv_X7_hasCell ⟨Nat.le_of_ble_eq_true rfl, Nat.le_of_ble_eq_true rfl⟩ (va_recv hK hP (ci := 7) (q0 := 1) rfl rfl) (hP.sub [1, 2, 3, 4] rfl) hl.1 rfl (Nat.le_of_ble_eq_true rfl) ⟨by decide, by decide⟩ rfl dX9_put_37) (fun r_37 h_37 => ?_)
      refine z_if_ne (tgt := 49) S dX9_put_40 (by decide) (by omega) (fun c_40 => ?_) (fun c_40 => ?_)
      · skip
        refine lv_aload_n S.1 S.2.1 dX9_put_49 rfl (lv_at hl 0 rfl) ?_
        refine z_get S hK hP 0 rfl rfl 0 (by decide) i_X9_put_9 q_X9_put_2 rfl dX9_put_50 ?_
        refine lv_iload_n S.1 S.2.1 dX9_put_53 rfl (lv_at hl 1 rfl) ?_
        refine lv_iload_n S.1 S.2.1 dX9_put_54 rfl (lv_at hl 2 rfl) ?_
        refine lv_iload_n S.1 S.2.1 dX9_put_55 rfl (lv_at hl 3 rfl) ?_
        refine z_mv (wr := [(ac 0, .inr (9, [.ref (ac 1), .ref (ac 5), .ref (ac 7), .ref (ac 9), .ref (ac 10), .ref (ac 12), .ref (ac 14), .int (jI 0)])), (ac 5, .inr (6, [.ref (ac 6), .int (jI ln)])), (ac 6, eI E 100 co), (ac 7, .inr (4, [.ref (ac 8), .int (jI n)])), (ac 8, eN E 10 on), (ac 9, .inr (8, [.int (jI tr)])), (ac 10, .inr (0, [.ref (ac 11)])), (ac 11, eI E 1000 fw), (ac 12, .inr (0, [.ref (ac 13)])), (ac 13, eI E 1000 cw), (ac 14, .inr (5, [.ref (ac 15), .ref (ac 16)])), (ac 15, eI E 3 ch), (ac 16, eI E 3 nm)]) (z_mV S hK (c_X7_set l E (ac 1) (ac 2) (ac 3) (ac 4) ce la si k i v (by omega) (by omega) (hls) _) gX9_put_X7_set rfl hv_X7_set ⟨Nat.le_of_ble_eq_true rfl, Nat.le_of_ble_eq_true rfl⟩ (va_recv hK hP (ci := 7) (q0 := 1) rfl rfl) (hP.sub [1, 2, 3, 4] rfl) (hD.sub [1, 2, 3, 4] (by decide) rfl) trivial hl.1 rfl (Nat.le_of_ble_eq_true rfl) ⟨by decide, by decide⟩ rfl dX9_put_56) hP hD hS hA [1, 2, 3, 4] [0, 5, 6, 7, 8, 9, 10, 11, 12, 13, 14, 15, 16] [0, 13, 14, 15, 16, 1, 2, 3, 4, 5, 6, 7, 8, 9, 10, 11, 12] rfl rfl (by decide) (by decide) (fun (u : Int → Int) => cW E ac 0 u la si ln co n on tr fw cw ch nm) (by decide) (fun _ => rfl) (fun u H locs h_56 hP hD hS => ?_)
        obtain ⟨u56_ce, u56_ce_e⟩ : ∃ z, z = u := ⟨_, rfl⟩
        subst u56_ce_e
        try dsimp only at h_56
        have hP : zP E (cW E ac 0 u56_ce la si ln co n on tr fw cw ch nm) H := hP
        have hD : va_D A (cW E ac 0 u56_ce la si ln co n on tr fw cw ch nm) := hD
        refine z_iconst S dX9_put_59 ?_
        exact hQ (1) ((0, u56_ce)) _ _ (Or.inr ⟨⟨by omega, by omega, rfl, rfl⟩, by rw [show sl k = la k by omega]; exact h_56.elim (fun q => q.2) (fun q => absurd q.1 (by omega))⟩) hP hD hS _ _ dX9_put_60
      · skip
        refine lv_aload_n S.1 S.2.1 dX9_put_43 rfl (lv_at hl 0 rfl) ?_
        refine z_iconst S dX9_put_44 ?_
        refine z_miw (z_mV S hK (c_X9_faulted l E ac 0 ce la si ln co n on tr fw cw ch nm 3 _) gX9_put_X9_faulted rfl hv_X9_faulted ⟨Nat.le_of_ble_eq_true rfl, Nat.le_of_ble_eq_true rfl⟩ (va_recv hK hP (ci := 9) (q0 := 0) rfl rfl) hP hD trivial hl.1 rfl (Nat.le_of_ble_eq_true rfl) ⟨by decide, by decide⟩ rfl dX9_put_45) hD hS hA (fun r_45 u H locs h_45 hP hD hS => ?_)
        rw [h_45]
        have hP : zP E (cW E ac 3 ce la si ln co n on tr fw cw ch nm) H := hP
        have hD : va_D A (cW E ac 3 ce la si ln co n on tr fw cw ch nm) := hD
        exact hQ (-10 - 3) ((3, ce)) _ _ (Or.inl ⟨Or.inr ⟨by omega, Or.inr ⟨by omega, by omega, by omega⟩⟩, rfl⟩) hP hD hS _ _ dX9_put_48
    · skip
      refine lv_aload_n S.1 S.2.1 dX9_put_25 rfl (lv_at hl 0 rfl) ?_
      refine z_iconst S dX9_put_26 ?_
      refine z_miw (z_mV S hK (c_X9_faulted l E ac 0 ce la si ln co n on tr fw cw ch nm 1 _) gX9_put_X9_faulted rfl hv_X9_faulted ⟨Nat.le_of_ble_eq_true rfl, Nat.le_of_ble_eq_true rfl⟩ (va_recv hK hP (ci := 9) (q0 := 0) rfl rfl) hP hD trivial hl.1 rfl (Nat.le_of_ble_eq_true rfl) ⟨by decide, by decide⟩ rfl dX9_put_27) hD hS hA (fun r_27 u H locs h_27 hP hD hS => ?_)
      rw [h_27]
      have hP : zP E (cW E ac 1 ce la si ln co n on tr fw cw ch nm) H := hP
      have hD : va_D A (cW E ac 1 ce la si ln co n on tr fw cw ch nm) := hD
      exact hQ (-10 - 1) ((1, ce)) _ _ (Or.inl ⟨Or.inr ⟨by omega, Or.inl ⟨by omega, by omega, by omega⟩⟩, rfl⟩) hP hD hS _ _ dX9_put_30
  · skip
    refine z_iconst S dX9_put_12 ?_
    exact hQ (-1) ((0, ce)) _ _ (Or.inl ⟨Or.inl ⟨by omega, rfl, rfl⟩, rfl⟩) hP hD hS _ _ dX9_put_13

set_option maxHeartbeats 1000000 in
set_option maxRecDepth 20000 in
theorem c_X9_cell (l : Launch) (E : zE) (ac : Nat → Nat) (flt : Int) (ce la si : Int → Int) (ln : Int) (co : Int → Int) (n : Int) (on : Nat → Option Nat) (tr : Int) (fw cw ch nm : Int → Int) (k : Int) (i : Int) (lane : Int) (ss : Int → Int) (sl : Int → Int) (h_k : -2147483648 ≤ k ∧ k ≤ 2147483647) (h_i : -2147483648 ≤ i ∧ i ≤ 2147483647) (h_lane : -2147483648 ≤ lane ∧ lane ≤ 2147483647) (hrel : zRel la si ss sl) (hce : zRg ce) : zMl l E yX9_cell wsX9_cell (zr 8 0 0) [.ref (ac 0), .int (jI (k)), .int (jI (i)), .int (jI (lane))] (cW E ac flt ce la si ln co n on tr fw cw ch nm) (fun _ => True) (fun r (u : Int) => zA_cell ss sl ce k i lane r u) (fun (u : Int) => cW E ac u ce la si ln co n on tr fw cw ch nm) 0 0 := by
  refine zMl_of (own := RX9) (cc := cX9_cell) (maxL := 5) (by decide) rfl (Nat.le_of_ble_eq_true rfl) rfl ?_
  intro p e s m args below meth c Q A S hK hA hS hP hD hAe hG hQ ls hl
  have hl : lv_has ls 5 [(0, .ref (ac 0)), (1, .int (jI (k))), (2, .int (jI (i))), (3, .int (jI (lane)))] := hl
  have hls := zRel_ls hrel
  refine lv_aload_n S.1 S.2.1 dX9_cell_0 rfl (lv_at hl 0 rfl) ?_
  refine z_iconst S dX9_cell_1 ?_
  refine z_puti S hK hP hD hS 0 rfl rfl 7 (by decide) i_X9_cell_9 q_X9_cell_1 tyX9 tyX9_ok nmX9 rfl (by decide +kernel) (Nat.le_of_ble_eq_true rfl) dX9_cell_2 (fun H locs hP hD hS => ?_)
  have hP : zP E (cW E ac 0 ce la si ln co n on tr fw cw ch nm) H := hP
  have hD : va_D A (cW E ac 0 ce la si ln co n on tr fw cw ch nm) := hD
  refine lv_iload_n S.1 S.2.1 dX9_cell_5 rfl (lv_at hl 1 rfl) ?_
  refine z_ri (z_rS S hK (c_X9_isSheet l E k (by omega)) gX9_cell_X9_isSheet rfl hs_X9_isSheet ⟨Nat.le_of_ble_eq_true rfl, Nat.le_of_ble_eq_true rfl⟩ trivial hl.1 rfl (Nat.le_of_ble_eq_true rfl) ⟨by decide, by decide⟩ rfl dX9_cell_6) (fun r_6 h_6 => ?_)
  refine z_if_eq (tgt := 19) S dX9_cell_9 (by decide) (by omega) (fun c_9 => ?_) (fun c_9 => ?_)
  · skip
    refine z_ldc2 (n := -9223372036854775808) S q_X9_cell_2 (by decide +kernel) dX9_cell_19 ?_
    exact hQ (-9223372036854775808) (0) _ _ (Or.inl ⟨by omega, rfl, rfl⟩) hP hD hS _ _ dX9_cell_22
  · skip
    refine lv_iload_n S.1 S.2.1 dX9_cell_12 rfl (lv_at hl 3 rfl) ?_
    refine z_ri (z_rS S hK (c_X9_isLane l E lane (by omega)) gX9_cell_X9_isLane rfl hs_X9_isLane ⟨Nat.le_of_ble_eq_true rfl, Nat.le_of_ble_eq_true rfl⟩ trivial hl.1 rfl (Nat.le_of_ble_eq_true rfl) ⟨by decide, by decide⟩ rfl dX9_cell_13) (fun r_13 h_13 => ?_)
    refine z_if_ne (tgt := 23) S dX9_cell_16 (by decide) (by omega) (fun c_16 => ?_) (fun c_16 => ?_)
    · skip
      have hrk := hrel k (by omega) (by omega)
      refine lv_aload_n S.1 S.2.1 dX9_cell_23 rfl (lv_at hl 0 rfl) ?_
      refine lv_iload_n S.1 S.2.1 dX9_cell_24 rfl (lv_at hl 1 rfl) ?_
      refine lv_iload_n S.1 S.2.1 dX9_cell_25 rfl (lv_at hl 3 rfl) ?_
      refine z_ri (z_rV S hK (c_X9_faultAs l E ac 0 ce la si ln co n on tr fw cw ch nm k lane ss sl (by omega) (by omega) (hrel)) gX9_cell_X9_faultAs rfl hv_X9_faultAs ⟨Nat.le_of_ble_eq_true rfl, Nat.le_of_ble_eq_true rfl⟩ (va_recv hK hP (ci := 9) (q0 := 0) rfl rfl) hP hl.1 rfl (Nat.le_of_ble_eq_true rfl) ⟨by decide, by decide⟩ rfl dX9_cell_26) (fun r_26 h_26 => ?_)
      refine lv_istore (lv' := [(4, .int (jI (r_26))), (0, .ref (ac 0)), (1, .int (jI (k))), (2, .int (jI (i))), (3, .int (jI (lane)))]) S.1 S.2.1 dX9_cell_29 hl (by decide) rfl (fun ls hl => ?_)
      refine lv_iload S.1 S.2.1 dX9_cell_31 (lv_at hl 0 rfl) ?_
      refine z_if_ne (tgt := 51) S dX9_cell_33 (by decide) (by omega) (fun c_33 => ?_) (fun c_33 => ?_)
      · skip
        refine lv_aload_n S.1 S.2.1 dX9_cell_51 rfl (lv_at hl 1 rfl) ?_
        refine lv_iload S.1 S.2.1 dX9_cell_52 (lv_at hl 0 rfl) ?_
        refine z_puti S hK hP hD hS 0 rfl rfl 7 (by decide) i_X9_cell_9 q_X9_cell_1 tyX9 tyX9_ok nmX9 rfl (by decide +kernel) (Nat.le_of_ble_eq_true rfl) dX9_cell_54 (fun H locs hP hD hS => ?_)
        have hP : zP E (cW E ac r_26 ce la si ln co n on tr fw cw ch nm) H := hP
        have hD : va_D A (cW E ac r_26 ce la si ln co n on tr fw cw ch nm) := hD
        refine lv_iload S.1 S.2.1 dX9_cell_57 (lv_at hl 0 rfl) ?_
        refine z_if_ne (tgt := 75) S dX9_cell_59 (by decide) (by omega) (fun c_59 => ?_) (fun c_59 => ?_)
        · skip
          refine z_ldc2 (n := -9223372036854775808) S q_X9_cell_2 (by decide +kernel) dX9_cell_75 ?_
          exact hQ (-9223372036854775808) (r_26) _ _ (Or.inr ⟨by omega, by rcases h_26 with q | q | q <;> first | exact Or.inl ⟨by omega, by omega, rfl, by omega⟩ | exact Or.inr (Or.inl ⟨by omega, rfl, by omega⟩) | exact Or.inr (Or.inr ⟨by omega, Or.inl ⟨by omega, rfl, by omega⟩⟩) | exact Or.inr (Or.inr ⟨by omega, Or.inr ⟨by omega, by omega, by omega⟩⟩) | (exfalso; omega)⟩) hP hD hS _ _ dX9_cell_78
        · skip
          refine lv_aload_n S.1 S.2.1 dX9_cell_62 rfl (lv_at hl 1 rfl) ?_
          refine z_get S hK hP 0 rfl rfl 0 (by decide) i_X9_cell_9 q_X9_cell_3 rfl dX9_cell_63 ?_
          refine lv_iload_n S.1 S.2.1 dX9_cell_66 rfl (lv_at hl 2 rfl) ?_
          refine lv_iload_n S.1 S.2.1 dX9_cell_67 rfl (lv_at hl 3 rfl) ?_
          refine z_ri (z_rV S hK (c_X7_at l E (ac 1) (ac 2) (ac 3) (ac 4) ce la si k i (by omega) (by omega) (hls)) gX9_cell_X7_at rfl hv_X7_at ⟨Nat.le_of_ble_eq_true rfl, Nat.le_of_ble_eq_true rfl⟩ (va_recv hK hP (ci := 7) (q0 := 1) rfl rfl) (hP.sub [1, 2, 3, 4] rfl) hl.1 rfl (Nat.le_of_ble_eq_true rfl) ⟨by decide, by decide⟩ rfl dX9_cell_68) (fun r_68 h_68 => ?_)
          have hc68 := hce (100 * k + i)
          refine z_i2l S (by omega) dX9_cell_71 ?_
          refine z_goto (tgt := 78) S dX9_cell_72 (by decide) ?_
          exact hQ (r_68) (r_26) _ _ (Or.inr ⟨by omega, by rcases h_26 with q | q | q <;> first | exact Or.inl ⟨by omega, by omega, rfl, by omega⟩ | exact Or.inr (Or.inl ⟨by omega, rfl, by omega⟩) | exact Or.inr (Or.inr ⟨by omega, Or.inl ⟨by omega, rfl, by omega⟩⟩) | exact Or.inr (Or.inr ⟨by omega, Or.inr ⟨by omega, by omega, by omega⟩⟩) | (exfalso; omega)⟩) hP hD hS _ _ dX9_cell_78
      · skip
        refine lv_aload_n S.1 S.2.1 dX9_cell_36 rfl (lv_at hl 1 rfl) ?_
        refine z_get S hK hP 0 rfl rfl 0 (by decide) i_X9_cell_9 q_X9_cell_3 rfl dX9_cell_37 ?_
        refine lv_iload_n S.1 S.2.1 dX9_cell_40 rfl (lv_at hl 2 rfl) ?_
        refine lv_iload_n S.1 S.2.1 dX9_cell_41 rfl (lv_at hl 3 rfl) ?_
        refine z_ri (z_rV S hK (c_X7_hasCell l E (ac 1) (ac 2) (ac 3) (ac 4) ce la si k i (by omega) (by omega) (hls)) gX9_cell_X7_hasCell rfl hv_X7_hasCell ⟨Nat.le_of_ble_eq_true rfl, Nat.le_of_ble_eq_true rfl⟩ (va_recv hK hP (ci := 7) (q0 := 1) rfl rfl) (hP.sub [1, 2, 3, 4] rfl) hl.1 rfl (Nat.le_of_ble_eq_true rfl) ⟨by decide, by decide⟩ rfl dX9_cell_42) (fun r_42 h_42 => ?_)
        refine z_if_ne (tgt := 51) S dX9_cell_45 (by decide) (by omega) (fun c_45 => ?_) (fun c_45 => ?_)
        · skip
          refine lv_aload_n S.1 S.2.1 dX9_cell_51 rfl (lv_at hl 1 rfl) ?_
          refine lv_iload S.1 S.2.1 dX9_cell_52 (lv_at hl 0 rfl) ?_
          refine z_puti S hK hP hD hS 0 rfl rfl 7 (by decide) i_X9_cell_9 q_X9_cell_1 tyX9 tyX9_ok nmX9 rfl (by decide +kernel) (Nat.le_of_ble_eq_true rfl) dX9_cell_54 (fun H locs hP hD hS => ?_)
          have hP : zP E (cW E ac r_26 ce la si ln co n on tr fw cw ch nm) H := hP
          have hD : va_D A (cW E ac r_26 ce la si ln co n on tr fw cw ch nm) := hD
          refine lv_iload S.1 S.2.1 dX9_cell_57 (lv_at hl 0 rfl) ?_
          refine z_if_ne (tgt := 75) S dX9_cell_59 (by decide) (by omega) (fun c_59 => ?_) (fun c_59 => ?_)
          · skip
            refine z_ldc2 (n := -9223372036854775808) S q_X9_cell_2 (by decide +kernel) dX9_cell_75 ?_
            exact hQ (-9223372036854775808) (r_26) _ _ (Or.inr ⟨by omega, by rcases h_26 with q | q | q <;> first | exact Or.inl ⟨by omega, by omega, rfl, by omega⟩ | exact Or.inr (Or.inl ⟨by omega, rfl, by omega⟩) | exact Or.inr (Or.inr ⟨by omega, Or.inl ⟨by omega, rfl, by omega⟩⟩) | exact Or.inr (Or.inr ⟨by omega, Or.inr ⟨by omega, by omega, by omega⟩⟩) | (exfalso; omega)⟩) hP hD hS _ _ dX9_cell_78
          · skip
            refine lv_aload_n S.1 S.2.1 dX9_cell_62 rfl (lv_at hl 1 rfl) ?_
            refine z_get S hK hP 0 rfl rfl 0 (by decide) i_X9_cell_9 q_X9_cell_3 rfl dX9_cell_63 ?_
            refine lv_iload_n S.1 S.2.1 dX9_cell_66 rfl (lv_at hl 2 rfl) ?_
            refine lv_iload_n S.1 S.2.1 dX9_cell_67 rfl (lv_at hl 3 rfl) ?_
            refine z_ri (z_rV S hK (c_X7_at l E (ac 1) (ac 2) (ac 3) (ac 4) ce la si k i (by omega) (by omega) (hls)) gX9_cell_X7_at rfl hv_X7_at ⟨Nat.le_of_ble_eq_true rfl, Nat.le_of_ble_eq_true rfl⟩ (va_recv hK hP (ci := 7) (q0 := 1) rfl rfl) (hP.sub [1, 2, 3, 4] rfl) hl.1 rfl (Nat.le_of_ble_eq_true rfl) ⟨by decide, by decide⟩ rfl dX9_cell_68) (fun r_68 h_68 => ?_)
            have hc68 := hce (100 * k + i)
            refine z_i2l S (by omega) dX9_cell_71 ?_
            refine z_goto (tgt := 78) S dX9_cell_72 (by decide) ?_
            exact hQ (r_68) (r_26) _ _ (Or.inr ⟨by omega, by rcases h_26 with q | q | q <;> first | exact Or.inl ⟨by omega, by omega, rfl, by omega⟩ | exact Or.inr (Or.inl ⟨by omega, rfl, by omega⟩) | exact Or.inr (Or.inr ⟨by omega, Or.inl ⟨by omega, rfl, by omega⟩⟩) | exact Or.inr (Or.inr ⟨by omega, Or.inr ⟨by omega, by omega, by omega⟩⟩) | (exfalso; omega)⟩) hP hD hS _ _ dX9_cell_78
        · skip
          refine z_iconst S dX9_cell_48 ?_
          refine lv_istore (lv' := [(4, .int (jI (3))), (0, .ref (ac 0)), (1, .int (jI (k))), (2, .int (jI (i))), (3, .int (jI (lane)))]) S.1 S.2.1 dX9_cell_49 hl (by decide) rfl (fun ls hl => ?_)
          refine lv_aload_n S.1 S.2.1 dX9_cell_51 rfl (lv_at hl 1 rfl) ?_
          refine lv_iload S.1 S.2.1 dX9_cell_52 (lv_at hl 0 rfl) ?_
          refine z_puti S hK hP hD hS 0 rfl rfl 7 (by decide) i_X9_cell_9 q_X9_cell_1 tyX9 tyX9_ok nmX9 rfl (by decide +kernel) (Nat.le_of_ble_eq_true rfl) dX9_cell_54 (fun H locs hP hD hS => ?_)
          have hP : zP E (cW E ac 3 ce la si ln co n on tr fw cw ch nm) H := hP
          have hD : va_D A (cW E ac 3 ce la si ln co n on tr fw cw ch nm) := hD
          refine lv_iload S.1 S.2.1 dX9_cell_57 (lv_at hl 0 rfl) ?_
          refine z_if_ne (tgt := 75) S dX9_cell_59 (by decide) (by omega) (fun c_59 => ?_) (fun c_59 => ?_)
          · skip
            refine z_ldc2 (n := -9223372036854775808) S q_X9_cell_2 (by decide +kernel) dX9_cell_75 ?_
            exact hQ (-9223372036854775808) (3) _ _ (Or.inr ⟨by omega, by rcases h_26 with q | q | q <;> first | exact Or.inl ⟨by omega, by omega, rfl, by omega⟩ | exact Or.inr (Or.inl ⟨by omega, rfl, by omega⟩) | exact Or.inr (Or.inr ⟨by omega, Or.inl ⟨by omega, rfl, by omega⟩⟩) | exact Or.inr (Or.inr ⟨by omega, Or.inr ⟨by omega, by omega, by omega⟩⟩) | (exfalso; omega)⟩) hP hD hS _ _ dX9_cell_78
          · skip
            refine lv_aload_n S.1 S.2.1 dX9_cell_62 rfl (lv_at hl 1 rfl) ?_
            refine z_get S hK hP 0 rfl rfl 0 (by decide) i_X9_cell_9 q_X9_cell_3 rfl dX9_cell_63 ?_
            refine lv_iload_n S.1 S.2.1 dX9_cell_66 rfl (lv_at hl 2 rfl) ?_
            refine lv_iload_n S.1 S.2.1 dX9_cell_67 rfl (lv_at hl 3 rfl) ?_
            refine z_ri (z_rV S hK (c_X7_at l E (ac 1) (ac 2) (ac 3) (ac 4) ce la si k i (by omega) (by omega) (hls)) gX9_cell_X7_at rfl hv_X7_at ⟨Nat.le_of_ble_eq_true rfl, Nat.le_of_ble_eq_true rfl⟩ (va_recv hK hP (ci := 7) (q0 := 1) rfl rfl) (hP.sub [1, 2, 3, 4] rfl) hl.1 rfl (Nat.le_of_ble_eq_true rfl) ⟨by decide, by decide⟩ rfl dX9_cell_68) (fun r_68 h_68 => ?_)
            have hc68 := hce (100 * k + i)
            refine z_i2l S (by omega) dX9_cell_71 ?_
            refine z_goto (tgt := 78) S dX9_cell_72 (by decide) ?_
            exact hQ (r_68) (3) _ _ (Or.inr ⟨by omega, by rcases h_26 with q | q | q <;> first | exact Or.inl ⟨by omega, by omega, rfl, by omega⟩ | exact Or.inr (Or.inl ⟨by omega, rfl, by omega⟩) | exact Or.inr (Or.inr ⟨by omega, Or.inl ⟨by omega, rfl, by omega⟩⟩) | exact Or.inr (Or.inr ⟨by omega, Or.inr ⟨by omega, by omega, by omega⟩⟩) | (exfalso; omega)⟩) hP hD hS _ _ dX9_cell_78
    · skip
      refine z_ldc2 (n := -9223372036854775808) S q_X9_cell_2 (by decide +kernel) dX9_cell_19 ?_
      exact hQ (-9223372036854775808) (0) _ _ (Or.inl ⟨by omega, rfl, rfl⟩) hP hD hS _ _ dX9_cell_22

set_option maxHeartbeats 1000000 in
set_option maxRecDepth 20000 in
theorem c_X9_copy (l : Launch) (E : zE) (ac : Nat → Nat) (flt : Int) (ce la si : Int → Int) (ln : Int) (co : Int → Int) (n : Int) (on : Nat → Option Nat) (tr : Int) (fw cw ch nm : Int → Int) (k : Int) (i : Int) (o : Int) (j : Int) (cn : Int) (ss : Int → Int) (sl : Int → Int) (h_k : -2147483648 ≤ k ∧ k ≤ 2147483647) (h_i : -2147483648 ≤ i ∧ i ≤ 2147483647) (h_o : -2147483648 ≤ o ∧ o ≤ 2147483647) (h_j : -2147483648 ≤ j ∧ j ≤ 2147483647) (h_cn : -2147483648 ≤ cn ∧ cn ≤ 2147483647) (hrel : zRel la si ss sl) : zMi l E yX9_copy wsX9_copy (zr 8 0 0) [.ref (ac 0), .int (jI (k)), .int (jI (i)), .int (jI (o)), .int (jI (j)), .int (jI (cn))] (cW E ac flt ce la si ln co n on tr fw cw ch nm) (fun _ => True) (fun r (u : Int × (Int → Int)) => zA_copy ss sl ce k i o j cn r u.1 u.2) (fun (u : Int × (Int → Int)) => cW E ac u.1 u.2 la si ln co n on tr fw cw ch nm) 0 0 := by
  refine zMi_of (own := RX9) (cc := cX9_copy) (maxL := 6) (by decide) rfl (Nat.le_of_ble_eq_true rfl) rfl ?_
  intro p e s m args below meth c Q A S hK hA hS hP hD hAe hG hQ ls hl
  have hl : lv_has ls 6 [(0, .ref (ac 0)), (1, .int (jI (k))), (2, .int (jI (i))), (3, .int (jI (o))), (4, .int (jI (j))), (5, .int (jI (cn)))] := hl
  have hls := zRel_ls hrel
  refine lv_aload_n S.1 S.2.1 dX9_copy_0 rfl (lv_at hl 0 rfl) ?_
  refine z_iconst S dX9_copy_1 ?_
  refine z_puti S hK hP hD hS 0 rfl rfl 7 (by decide) i_X9_copy_9 q_X9_copy_1 tyX9 tyX9_ok nmX9 rfl (by decide +kernel) (Nat.le_of_ble_eq_true rfl) dX9_copy_2 (fun H locs hP hD hS => ?_)
  have hP : zP E (cW E ac 0 ce la si ln co n on tr fw cw ch nm) H := hP
  have hD : va_D A (cW E ac 0 ce la si ln co n on tr fw cw ch nm) := hD
  refine lv_iload_n S.1 S.2.1 dX9_copy_5 rfl (lv_at hl 1 rfl) ?_
  refine z_ri (z_rS S hK (c_X9_isSheet l E k (by omega)) gX9_copy_X9_isSheet rfl hs_X9_isSheet ⟨Nat.le_of_ble_eq_true rfl, Nat.le_of_ble_eq_true rfl⟩ trivial hl.1 rfl (Nat.le_of_ble_eq_true rfl) ⟨by decide, by decide⟩ rfl dX9_copy_6) (fun r_6 h_6 => ?_)
  refine z_if_eq (tgt := 19) S dX9_copy_9 (by decide) (by omega) (fun c_9 => ?_) (fun c_9 => ?_)
  · skip
    refine z_iconst S dX9_copy_19 ?_
    exact hQ (-1) ((0, ce)) _ _ (Or.inl ⟨Or.inl ⟨by omega, rfl, rfl⟩, rfl⟩) hP hD hS _ _ dX9_copy_20
  · skip
    refine lv_iload_n S.1 S.2.1 dX9_copy_12 rfl (lv_at hl 3 rfl) ?_
    refine z_ri (z_rS S hK (c_X9_isSheet l E o (by omega)) gX9_copy_X9_isSheet rfl hs_X9_isSheet ⟨Nat.le_of_ble_eq_true rfl, Nat.le_of_ble_eq_true rfl⟩ trivial hl.1 rfl (Nat.le_of_ble_eq_true rfl) ⟨by decide, by decide⟩ rfl dX9_copy_13) (fun r_13 h_13 => ?_)
    refine z_if_ne (tgt := 21) S dX9_copy_16 (by decide) (by omega) (fun c_16 => ?_) (fun c_16 => ?_)
    · skip
      have hrk := hrel k (by omega) (by omega)
      have hro := hrel o (by omega) (by omega)
      refine lv_aload_n S.1 S.2.1 dX9_copy_21 rfl (lv_at hl 0 rfl) ?_
      refine z_get S hK hP 0 rfl rfl 0 (by decide) i_X9_copy_9 q_X9_copy_2 rfl dX9_copy_22 ?_
      refine lv_iload_n S.1 S.2.1 dX9_copy_25 rfl (lv_at hl 1 rfl) ?_
      refine z_ri (z_rV S hK (c_X7_hasRow l E (ac 1) (ac 2) (ac 3) (ac 4) ce la si k (by omega) (hls)) gX9_copy_X7_hasRow rfl hv_X7_hasRow ⟨Nat.le_of_ble_eq_true rfl, Nat.le_of_ble_eq_true rfl⟩ (va_recv hK hP (ci := 7) (q0 := 1) rfl rfl) (hP.sub [1, 2, 3, 4] rfl) hl.1 rfl (Nat.le_of_ble_eq_true rfl) ⟨by decide, by decide⟩ rfl dX9_copy_26) (fun r_26 h_26 => ?_)
      refine z_if_eq (tgt := 43) S dX9_copy_29 (by decide) (by omega) (fun c_29 => ?_) (fun c_29 => ?_)
      · skip
        refine lv_aload_n S.1 S.2.1 dX9_copy_43 rfl (lv_at hl 0 rfl) ?_
        refine z_iconst S dX9_copy_44 ?_
        refine z_miw (z_mV S hK (c_X9_faulted l E ac 0 ce la si ln co n on tr fw cw ch nm 1 _) gX9_copy_X9_faulted rfl hv_X9_faulted ⟨Nat.le_of_ble_eq_true rfl, Nat.le_of_ble_eq_true rfl⟩ (va_recv hK hP (ci := 9) (q0 := 0) rfl rfl) hP hD trivial hl.1 rfl (Nat.le_of_ble_eq_true rfl) ⟨by decide, by decide⟩ rfl dX9_copy_45) hD hS hA (fun r_45 u H locs h_45 hP hD hS => ?_)
        rw [h_45]
        have hP : zP E (cW E ac 1 ce la si ln co n on tr fw cw ch nm) H := hP
        have hD : va_D A (cW E ac 1 ce la si ln co n on tr fw cw ch nm) := hD
        exact hQ (-10 - 1) ((1, ce)) _ _ (Or.inl ⟨Or.inr ⟨by omega, Or.inl ⟨by omega, by omega, by omega⟩⟩, rfl⟩) hP hD hS _ _ dX9_copy_48
      · skip
        refine lv_aload_n S.1 S.2.1 dX9_copy_32 rfl (lv_at hl 0 rfl) ?_
        refine z_get S hK hP 0 rfl rfl 0 (by decide) i_X9_copy_9 q_X9_copy_2 rfl dX9_copy_33 ?_
        refine lv_iload_n S.1 S.2.1 dX9_copy_36 rfl (lv_at hl 3 rfl) ?_
        refine z_ri (z_rV S hK (c_X7_hasRow l E (ac 1) (ac 2) (ac 3) (ac 4) ce la si o (by omega) (hls)) gX9_copy_X7_hasRow rfl hv_X7_hasRow ⟨Nat.le_of_ble_eq_true rfl, Nat.le_of_ble_eq_true rfl⟩ (va_recv hK hP (ci := 7) (q0 := 1) rfl rfl) (hP.sub [1, 2, 3, 4] rfl) hl.1 rfl (Nat.le_of_ble_eq_true rfl) ⟨by decide, by decide⟩ rfl dX9_copy_37) (fun r_37 h_37 => ?_)
        refine z_if_ne (tgt := 49) S dX9_copy_40 (by decide) (by omega) (fun c_40 => ?_) (fun c_40 => ?_)
        · skip
          refine lv_aload_n S.1 S.2.1 dX9_copy_49 rfl (lv_at hl 0 rfl) ?_
          refine z_get S hK hP 0 rfl rfl 0 (by decide) i_X9_copy_9 q_X9_copy_2 rfl dX9_copy_50 ?_
          refine lv_iload_n S.1 S.2.1 dX9_copy_53 rfl (lv_at hl 1 rfl) ?_
          refine z_ri (z_rV S hK (c_X7_laneOf l E (ac 1) (ac 2) (ac 3) (ac 4) ce la si k (by omega)) gX9_copy_X7_laneOf rfl hv_X7_laneOf ⟨Nat.le_of_ble_eq_true rfl, Nat.le_of_ble_eq_true rfl⟩ (va_recv hK hP (ci := 7) (q0 := 1) rfl rfl) (hP.sub [1, 2, 3, 4] rfl) hl.1 rfl (Nat.le_of_ble_eq_true rfl) ⟨by decide, by decide⟩ rfl dX9_copy_54) (fun r_54 h_54 => ?_)
          rw [h_54]
          refine lv_aload_n S.1 S.2.1 dX9_copy_57 rfl (lv_at hl 0 rfl) ?_
          refine z_get S hK hP 0 rfl rfl 0 (by decide) i_X9_copy_9 q_X9_copy_2 rfl dX9_copy_58 ?_
          refine lv_iload_n S.1 S.2.1 dX9_copy_61 rfl (lv_at hl 3 rfl) ?_
          refine z_ri (z_rV S hK (c_X7_laneOf l E (ac 1) (ac 2) (ac 3) (ac 4) ce la si o (by omega)) gX9_copy_X7_laneOf rfl hv_X7_laneOf ⟨Nat.le_of_ble_eq_true rfl, Nat.le_of_ble_eq_true rfl⟩ (va_recv hK hP (ci := 7) (q0 := 1) rfl rfl) (hP.sub [1, 2, 3, 4] rfl) hl.1 rfl (Nat.le_of_ble_eq_true rfl) ⟨by decide, by decide⟩ rfl dX9_copy_62) (fun r_62 h_62 => ?_)
          rw [h_62]
          refine z_icmp_eq (tgt := 74) S dX9_copy_65 (by decide) (by omega) (fun c_65 => ?_) (fun c_65 => ?_)
          · skip
            refine lv_aload_n S.1 S.2.1 dX9_copy_74 rfl (lv_at hl 0 rfl) ?_
            refine z_get S hK hP 0 rfl rfl 0 (by decide) i_X9_copy_9 q_X9_copy_2 rfl dX9_copy_75 ?_
            refine lv_iload_n S.1 S.2.1 dX9_copy_78 rfl (lv_at hl 1 rfl) ?_
            refine lv_iload_n S.1 S.2.1 dX9_copy_79 rfl (lv_at hl 2 rfl) ?_
            refine lv_iload S.1 S.2.1 dX9_copy_80 (lv_at hl 5 rfl) ?_
            refine z_ri (z_rV S hK (c_X7_hasCells l E (ac 1) (ac 2) (ac 3) (ac 4) ce la si k i cn (by omega) (by omega) (by omega) (hls)) gX9_copy_X7_hasCells rfl hv_X7_hasCells ⟨Nat.le_of_ble_eq_true rfl, Nat.le_of_ble_eq_true rfl⟩ (va_recv hK hP (ci := 7) (q0 := 1) rfl rfl) (hP.sub [1, 2, 3, 4] rfl) hl.1 rfl (Nat.le_of_ble_eq_true rfl) ⟨by decide, by decide⟩ rfl dX9_copy_82) (fun r_82 h_82 => ?_)
            refine z_if_eq (tgt := 103) S dX9_copy_85 (by decide) (by omega) (fun c_85 => ?_) (fun c_85 => ?_)
            · skip
              refine lv_aload_n S.1 S.2.1 dX9_copy_103 rfl (lv_at hl 0 rfl) ?_
              refine z_iconst S dX9_copy_104 ?_
              refine z_miw (z_mV S hK (c_X9_faulted l E ac 0 ce la si ln co n on tr fw cw ch nm 3 _) gX9_copy_X9_faulted rfl hv_X9_faulted ⟨Nat.le_of_ble_eq_true rfl, Nat.le_of_ble_eq_true rfl⟩ (va_recv hK hP (ci := 9) (q0 := 0) rfl rfl) hP hD trivial hl.1 rfl (Nat.le_of_ble_eq_true rfl) ⟨by decide, by decide⟩ rfl dX9_copy_105) hD hS hA (fun r_105 u H locs h_105 hP hD hS => ?_)
              rw [h_105]
              have hP : zP E (cW E ac 3 ce la si ln co n on tr fw cw ch nm) H := hP
              have hD : va_D A (cW E ac 3 ce la si ln co n on tr fw cw ch nm) := hD
              exact hQ (-10 - 3) ((3, ce)) _ _ (Or.inl ⟨Or.inr ⟨by omega, Or.inr ⟨by omega, Or.inr ⟨by omega, by omega, by omega, by omega⟩⟩⟩, rfl⟩) hP hD hS _ _ dX9_copy_108
            · skip
              refine lv_aload_n S.1 S.2.1 dX9_copy_88 rfl (lv_at hl 0 rfl) ?_
              refine z_get S hK hP 0 rfl rfl 0 (by decide) i_X9_copy_9 q_X9_copy_2 rfl dX9_copy_89 ?_
              refine lv_iload_n S.1 S.2.1 dX9_copy_92 rfl (lv_at hl 3 rfl) ?_
              refine lv_iload S.1 S.2.1 dX9_copy_93 (lv_at hl 4 rfl) ?_
              refine lv_iload S.1 S.2.1 dX9_copy_95 (lv_at hl 5 rfl) ?_
              refine z_ri (z_rV S hK (c_X7_hasCells l E (ac 1) (ac 2) (ac 3) (ac 4) ce la si o j cn (by omega) (by omega) (by omega) (hls)) gX9_copy_X7_hasCells rfl hv_X7_hasCells ⟨Nat.le_of_ble_eq_true rfl, Nat.le_of_ble_eq_true rfl⟩ (va_recv hK hP (ci := 7) (q0 := 1) rfl rfl) (hP.sub [1, 2, 3, 4] rfl) hl.1 rfl (Nat.le_of_ble_eq_true rfl) ⟨by decide, by decide⟩ rfl dX9_copy_97) (fun r_97 h_97 => ?_)
              refine z_if_ne (tgt := 109) S dX9_copy_100 (by decide) (by omega) (fun c_100 => ?_) (fun c_100 => ?_)
              · skip
                refine lv_aload_n S.1 S.2.1 dX9_copy_109 rfl (lv_at hl 0 rfl) ?_
                refine z_get S hK hP 0 rfl rfl 0 (by decide) i_X9_copy_9 q_X9_copy_2 rfl dX9_copy_110 ?_
                refine lv_iload_n S.1 S.2.1 dX9_copy_113 rfl (lv_at hl 1 rfl) ?_
                refine lv_iload_n S.1 S.2.1 dX9_copy_114 rfl (lv_at hl 2 rfl) ?_
                refine lv_iload_n S.1 S.2.1 dX9_copy_115 rfl (lv_at hl 3 rfl) ?_
                refine lv_iload S.1 S.2.1 dX9_copy_116 (lv_at hl 4 rfl) ?_
                refine lv_iload S.1 S.2.1 dX9_copy_118 (lv_at hl 5 rfl) ?_
                refine z_mv (wr := [(ac 0, .inr (9, [.ref (ac 1), .ref (ac 5), .ref (ac 7), .ref (ac 9), .ref (ac 10), .ref (ac 12), .ref (ac 14), .int (jI 0)])), (ac 5, .inr (6, [.ref (ac 6), .int (jI ln)])), (ac 6, eI E 100 co), (ac 7, .inr (4, [.ref (ac 8), .int (jI n)])), (ac 8, eN E 10 on), (ac 9, .inr (8, [.int (jI tr)])), (ac 10, .inr (0, [.ref (ac 11)])), (ac 11, eI E 1000 fw), (ac 12, .inr (0, [.ref (ac 13)])), (ac 13, eI E 1000 cw), (ac 14, .inr (5, [.ref (ac 15), .ref (ac 16)])), (ac 15, eI E 3 ch), (ac 16, eI E 3 nm)]) (z_mV S hK (c_X7_move l E (ac 1) (ac 2) (ac 3) (ac 4) ce la si k i o j cn (by omega) (by omega) (by omega) (hls) _) gX9_copy_X7_move rfl hv_X7_move ⟨Nat.le_of_ble_eq_true rfl, Nat.le_of_ble_eq_true rfl⟩ (va_recv hK hP (ci := 7) (q0 := 1) rfl rfl) (hP.sub [1, 2, 3, 4] rfl) (hD.sub [1, 2, 3, 4] (by decide) rfl) trivial hl.1 rfl (Nat.le_of_ble_eq_true rfl) ⟨by decide, by decide⟩ rfl dX9_copy_120) hP hD hS hA [1, 2, 3, 4] [0, 5, 6, 7, 8, 9, 10, 11, 12, 13, 14, 15, 16] [0, 13, 14, 15, 16, 1, 2, 3, 4, 5, 6, 7, 8, 9, 10, 11, 12] rfl rfl (by decide) (by decide) (fun (u : Int → Int) => cW E ac 0 u la si ln co n on tr fw cw ch nm) (by decide) (fun _ => rfl) (fun u H locs h_120 hP hD hS => ?_)
                obtain ⟨u120_ce, u120_ce_e⟩ : ∃ z, z = u := ⟨_, rfl⟩
                subst u120_ce_e
                try dsimp only at h_120
                have hP : zP E (cW E ac 0 u120_ce la si ln co n on tr fw cw ch nm) H := hP
                have hD : va_D A (cW E ac 0 u120_ce la si ln co n on tr fw cw ch nm) := hD
                refine lv_iload S.1 S.2.1 dX9_copy_123 (lv_at hl 5 rfl) ?_
                exact hQ (cn) ((0, u120_ce)) _ _ (Or.inr ⟨⟨by omega, by omega, by omega, rfl, rfl⟩, h_120⟩) hP hD hS _ _ dX9_copy_125
              · skip
                refine lv_aload_n S.1 S.2.1 dX9_copy_103 rfl (lv_at hl 0 rfl) ?_
                refine z_iconst S dX9_copy_104 ?_
                refine z_miw (z_mV S hK (c_X9_faulted l E ac 0 ce la si ln co n on tr fw cw ch nm 3 _) gX9_copy_X9_faulted rfl hv_X9_faulted ⟨Nat.le_of_ble_eq_true rfl, Nat.le_of_ble_eq_true rfl⟩ (va_recv hK hP (ci := 9) (q0 := 0) rfl rfl) hP hD trivial hl.1 rfl (Nat.le_of_ble_eq_true rfl) ⟨by decide, by decide⟩ rfl dX9_copy_105) hD hS hA (fun r_105 u H locs h_105 hP hD hS => ?_)
                rw [h_105]
                have hP : zP E (cW E ac 3 ce la si ln co n on tr fw cw ch nm) H := hP
                have hD : va_D A (cW E ac 3 ce la si ln co n on tr fw cw ch nm) := hD
                exact hQ (-10 - 3) ((3, ce)) _ _ (Or.inl ⟨Or.inr ⟨by omega, Or.inr ⟨by omega, Or.inr ⟨by omega, by omega, by omega, by omega⟩⟩⟩, rfl⟩) hP hD hS _ _ dX9_copy_108
          · skip
            refine lv_aload_n S.1 S.2.1 dX9_copy_68 rfl (lv_at hl 0 rfl) ?_
            refine z_iconst S dX9_copy_69 ?_
            refine z_miw (z_mV S hK (c_X9_faulted l E ac 0 ce la si ln co n on tr fw cw ch nm 2 _) gX9_copy_X9_faulted rfl hv_X9_faulted ⟨Nat.le_of_ble_eq_true rfl, Nat.le_of_ble_eq_true rfl⟩ (va_recv hK hP (ci := 9) (q0 := 0) rfl rfl) hP hD trivial hl.1 rfl (Nat.le_of_ble_eq_true rfl) ⟨by decide, by decide⟩ rfl dX9_copy_70) hD hS hA (fun r_70 u H locs h_70 hP hD hS => ?_)
            rw [h_70]
            have hP : zP E (cW E ac 2 ce la si ln co n on tr fw cw ch nm) H := hP
            have hD : va_D A (cW E ac 2 ce la si ln co n on tr fw cw ch nm) := hD
            exact hQ (-10 - 2) ((2, ce)) _ _ (Or.inl ⟨Or.inr ⟨by omega, Or.inr ⟨by omega, Or.inl ⟨by omega, by omega, by omega⟩⟩⟩, rfl⟩) hP hD hS _ _ dX9_copy_73
        · skip
          refine lv_aload_n S.1 S.2.1 dX9_copy_43 rfl (lv_at hl 0 rfl) ?_
          refine z_iconst S dX9_copy_44 ?_
          refine z_miw (z_mV S hK (c_X9_faulted l E ac 0 ce la si ln co n on tr fw cw ch nm 1 _) gX9_copy_X9_faulted rfl hv_X9_faulted ⟨Nat.le_of_ble_eq_true rfl, Nat.le_of_ble_eq_true rfl⟩ (va_recv hK hP (ci := 9) (q0 := 0) rfl rfl) hP hD trivial hl.1 rfl (Nat.le_of_ble_eq_true rfl) ⟨by decide, by decide⟩ rfl dX9_copy_45) hD hS hA (fun r_45 u H locs h_45 hP hD hS => ?_)
          rw [h_45]
          have hP : zP E (cW E ac 1 ce la si ln co n on tr fw cw ch nm) H := hP
          have hD : va_D A (cW E ac 1 ce la si ln co n on tr fw cw ch nm) := hD
          exact hQ (-10 - 1) ((1, ce)) _ _ (Or.inl ⟨Or.inr ⟨by omega, Or.inl ⟨by omega, by omega, by omega⟩⟩, rfl⟩) hP hD hS _ _ dX9_copy_48
    · skip
      refine z_iconst S dX9_copy_19 ?_
      exact hQ (-1) ((0, ce)) _ _ (Or.inl ⟨Or.inl ⟨by omega, rfl, rfl⟩, rfl⟩) hP hD hS _ _ dX9_copy_20

set_option maxHeartbeats 1000000 in
set_option maxRecDepth 20000 in
theorem c_X9_tell (l : Launch) (E : zE) (ac : Nat → Nat) (flt : Int) (ce la si : Int → Int) (ln : Int) (co : Int → Int) (n : Int) (on : Nat → Option Nat) (tr : Int) (fw cw ch nm : Int → Int) (an : Int → Nat) (kd vl nb fr tl : Int → Int) (x : Int) (h_x : -2147483648 ≤ x ∧ x ≤ 2147483647) (hp : 0 ≤ n ∧ n ≤ 10) (hon : zOns n on an) (hpe : zPeo n kd vl nb fr tl) (hap : zAp (cW E ac flt ce la si ln co n on tr fw cw ch nm) n an) : zMi l E yX9_tell wsX9_tell (zr 6 0 0) [.ref (ac 0), .int (jI (x))] (cW E ac flt ce la si ln co n on tr fw cw ch nm) (fun H => zNm E n an kd vl nb fr tl H) (fun r (u : Int) => zA_tell n kd nb tr x r u) (fun (u : Int) => cW E ac flt ce la si ln co n on u fw cw ch nm) 0 0 := by
  refine zMi_of (own := RX9) (cc := cX9_tell) (maxL := 3) (by decide) rfl (Nat.le_of_ble_eq_true rfl) rfl ?_
  intro p e s m args below meth c Q A S hK hA hS hP hD hAe hG hQ ls hl
  have hl : lv_has ls 3 [(0, .ref (ac 0)), (1, .int (jI (x)))] := hl
  have hNA := zNm_A hG hAe hap
  refine lv_aload_n S.1 S.2.1 dX9_tell_0 rfl (lv_at hl 0 rfl) ?_
  refine z_get S hK hP 0 rfl rfl 2 (by decide) i_X9_tell_9 q_X9_tell_1 rfl dX9_tell_1 ?_
  refine lv_iload_n S.1 S.2.1 dX9_tell_4 rfl (lv_at hl 1 rfl) ?_
  refine z_rq (z_rV S hK (c_X4_one l E (ac 7) (ac 8) n on x an (by omega) (by omega) (hon)) gX9_tell_X4_one rfl hv_X4_one ⟨Nat.le_of_ble_eq_true rfl, Nat.le_of_ble_eq_true rfl⟩ (va_recv hK hP (ci := 4) (q0 := 7) rfl rfl) (hP.sub [7, 8] rfl) hl.1 rfl (Nat.le_of_ble_eq_true rfl) ⟨by decide, by decide⟩ rfl dX9_tell_5) (fun r_5 h_5 => ?_)
  rcases h_5 with ⟨e_5, hx_5⟩ | ⟨e_5, hx_5⟩
  · subst e_5
    refine W.eq (g2 := F0 m 8 ls [.ref (an x)]) rfl ?_
    refine lv_astore_n (lv' := [(2, .ref (an x)), (0, .ref (ac 0)), (1, .int (jI (x)))]) S.1 S.2.1 dX9_tell_8 rfl hl (by decide) rfl (fun ls hl => ?_)
    refine lv_aload_n S.1 S.2.1 dX9_tell_9 rfl (lv_at hl 0 rfl) ?_
    refine lv_ifnonnull (tgt := 17) S.1 S.2.1 dX9_tell_10 (by decide) ?_
    refine lv_aload_n S.1 S.2.1 dX9_tell_17 rfl (lv_at hl 0 rfl) ?_
    refine lv_aload_n S.1 S.2.1 dX9_tell_18 rfl (lv_at hl 1 rfl) ?_
    refine z_get S hK hP 0 rfl rfl 3 (by decide) i_X9_tell_9 q_X9_tell_2 rfl dX9_tell_19 ?_
    have hv_22 := hpe x (by omega) (by omega)
    have ha_22 : an x ≠ ac 9 := fun q => hap x (by omega) (by omega) 9 _ (by rw [q]; rfl)
    have hk3 : kd x = 2 ∨ kd x = 1 ∨ kd x = 0 := (by omega)
    rcases hk3 with ek | ek | ek
    · refine z_mi (wr := [(ac 0, .inr (9, [.ref (ac 1), .ref (ac 5), .ref (ac 7), .ref (ac 9), .ref (ac 10), .ref (ac 12), .ref (ac 14), .int (jI flt)])), (ac 1, .inr (7, [.ref (ac 2), .ref (ac 3), .ref (ac 4)])), (ac 2, eI E 400 ce), (ac 3, eI E 4 la), (ac 4, eI E 4 si), (ac 5, .inr (6, [.ref (ac 6), .int (jI ln)])), (ac 6, eI E 100 co), (ac 7, .inr (4, [.ref (ac 8), .int (jI n)])), (ac 8, eN E 10 on), (ac 10, .inr (0, [.ref (ac 11)])), (ac 11, eI E 1000 fw), (ac 12, .inr (0, [.ref (ac 13)])), (ac 13, eI E 1000 cw), (ac 14, .inr (5, [.ref (ac 15), .ref (ac 16)])), (ac 15, eI E 3 ch), (ac 16, eI E 3 nm)]) (z_mO S hK (c_X1_telling_1 l E (an x) (vl x) (nb x) (fr x) (tl x) (ac 9) tr ha_22 _) gX9_tell_X1_telling_u193X1 q_X9_tell_42 rfl hu_1__LLivingNumbers_Trace__I ⟨Nat.le_of_ble_eq_true rfl, Nat.le_of_ble_eq_true rfl⟩ (va_recv hK (zNm_k (zNm_keep hG hS hNA) (x := x) (ci := 1) (by omega) ek rfl) (ci := 1) (q0 := 0) rfl rfl) (hP.sub [9] rfl) (hD.sub [9] (by decide) rfl) (zNm_k (zNm_keep hG hS hNA) (x := x) (ci := 1) (by omega) ek rfl) hl.1 rfl (Nat.le_of_ble_eq_true rfl) ⟨by decide, by decide⟩ rfl dX9_tell_22) hP hD hS hA [9] [0, 1, 2, 3, 4, 5, 6, 7, 8, 10, 11, 12, 13, 14, 15, 16] [0, 1, 2, 3, 4, 5, 6, 7, 8, 16, 9, 10, 11, 12, 13, 14, 15] rfl rfl (by decide) (by decide) (fun (u : Int) => cW E ac flt ce la si ln co n on u fw cw ch nm) (by decide) (fun _ => rfl) (fun r_22 u H locs h_22 hP hD hS => ?_)
      obtain ⟨u_22, u_22_e⟩ : ∃ z, z = u := ⟨_, rfl⟩
      subst u_22_e
      have hP : zP E (cW E ac flt ce la si ln co n on u_22 fw cw ch nm) H := hP
      have hD : va_D A (cW E ac flt ce la si ln co n on u_22 fw cw ch nm) := hD
      exact hQ (r_22) (u_22) _ _ (by unfold zA_tell; omega) hP hD hS _ _ dX9_tell_25
    · refine z_mi (wr := [(ac 0, .inr (9, [.ref (ac 1), .ref (ac 5), .ref (ac 7), .ref (ac 9), .ref (ac 10), .ref (ac 12), .ref (ac 14), .int (jI flt)])), (ac 1, .inr (7, [.ref (ac 2), .ref (ac 3), .ref (ac 4)])), (ac 2, eI E 400 ce), (ac 3, eI E 4 la), (ac 4, eI E 4 si), (ac 5, .inr (6, [.ref (ac 6), .int (jI ln)])), (ac 6, eI E 100 co), (ac 7, .inr (4, [.ref (ac 8), .int (jI n)])), (ac 8, eN E 10 on), (ac 10, .inr (0, [.ref (ac 11)])), (ac 11, eI E 1000 fw), (ac 12, .inr (0, [.ref (ac 13)])), (ac 13, eI E 1000 cw), (ac 14, .inr (5, [.ref (ac 15), .ref (ac 16)])), (ac 15, eI E 3 ch), (ac 16, eI E 3 nm)]) (z_mO S hK (c_X2_telling_2 l E (an x) (vl x) (nb x) (fr x) (tl x) (ac 9) tr ha_22 _) gX9_tell_X2_telling_u193X2 q_X9_tell_42 rfl hu_1__LLivingNumbers_Trace__I ⟨Nat.le_of_ble_eq_true rfl, Nat.le_of_ble_eq_true rfl⟩ (va_recv hK (zNm_k (zNm_keep hG hS hNA) (x := x) (ci := 2) (by omega) ek rfl) (ci := 2) (q0 := 0) rfl rfl) (hP.sub [9] rfl) (hD.sub [9] (by decide) rfl) (zNm_k (zNm_keep hG hS hNA) (x := x) (ci := 2) (by omega) ek rfl) hl.1 rfl (Nat.le_of_ble_eq_true rfl) ⟨by decide, by decide⟩ rfl dX9_tell_22) hP hD hS hA [9] [0, 1, 2, 3, 4, 5, 6, 7, 8, 10, 11, 12, 13, 14, 15, 16] [0, 1, 2, 3, 4, 5, 6, 7, 8, 16, 9, 10, 11, 12, 13, 14, 15] rfl rfl (by decide) (by decide) (fun (u : Int) => cW E ac flt ce la si ln co n on u fw cw ch nm) (by decide) (fun _ => rfl) (fun r_22 u H locs h_22 hP hD hS => ?_)
      obtain ⟨u_22, u_22_e⟩ : ∃ z, z = u := ⟨_, rfl⟩
      subst u_22_e
      have hP : zP E (cW E ac flt ce la si ln co n on u_22 fw cw ch nm) H := hP
      have hD : va_D A (cW E ac flt ce la si ln co n on u_22 fw cw ch nm) := hD
      exact hQ (r_22) (u_22) _ _ (by unfold zA_tell; omega) hP hD hS _ _ dX9_tell_25
    · refine z_mi (wr := [(ac 0, .inr (9, [.ref (ac 1), .ref (ac 5), .ref (ac 7), .ref (ac 9), .ref (ac 10), .ref (ac 12), .ref (ac 14), .int (jI flt)])), (ac 1, .inr (7, [.ref (ac 2), .ref (ac 3), .ref (ac 4)])), (ac 2, eI E 400 ce), (ac 3, eI E 4 la), (ac 4, eI E 4 si), (ac 5, .inr (6, [.ref (ac 6), .int (jI ln)])), (ac 6, eI E 100 co), (ac 7, .inr (4, [.ref (ac 8), .int (jI n)])), (ac 8, eN E 10 on), (ac 10, .inr (0, [.ref (ac 11)])), (ac 11, eI E 1000 fw), (ac 12, .inr (0, [.ref (ac 13)])), (ac 13, eI E 1000 cw), (ac 14, .inr (5, [.ref (ac 15), .ref (ac 16)])), (ac 15, eI E 3 ch), (ac 16, eI E 3 nm)]) (z_mV S hK (c_X3_telling_3 l E (an x) (vl x) (nb x) (fr x) (tl x) (ac 9) tr ha_22 _) gX9_tell_X3_telling rfl hv_X3_telling ⟨Nat.le_of_ble_eq_true rfl, Nat.le_of_ble_eq_true rfl⟩ (va_recv hK (zNm_k (zNm_keep hG hS hNA) (x := x) (ci := 3) (by omega) ek rfl) (ci := 3) (q0 := 0) rfl rfl) (hP.sub [9] rfl) (hD.sub [9] (by decide) rfl) (zNm_k (zNm_keep hG hS hNA) (x := x) (ci := 3) (by omega) ek rfl) hl.1 rfl (Nat.le_of_ble_eq_true rfl) ⟨by decide, by decide⟩ rfl dX9_tell_22) hP hD hS hA [9] [0, 1, 2, 3, 4, 5, 6, 7, 8, 10, 11, 12, 13, 14, 15, 16] [0, 1, 2, 3, 4, 5, 6, 7, 8, 16, 9, 10, 11, 12, 13, 14, 15] rfl rfl (by decide) (by decide) (fun (u : Int) => cW E ac flt ce la si ln co n on u fw cw ch nm) (by decide) (fun _ => rfl) (fun r_22 u H locs h_22 hP hD hS => ?_)
      obtain ⟨u_22, u_22_e⟩ : ∃ z, z = u := ⟨_, rfl⟩
      subst u_22_e
      have hP : zP E (cW E ac flt ce la si ln co n on u_22 fw cw ch nm) H := hP
      have hD : va_D A (cW E ac flt ce la si ln co n on u_22 fw cw ch nm) := hD
      exact hQ (r_22) (u_22) _ _ (by unfold zA_tell; omega) hP hD hS _ _ dX9_tell_25
  · subst e_5
    refine W.eq (g2 := F0 m 8 ls [.null]) rfl ?_
    refine lv_astore_nN (lv' := [(2, .null), (0, .ref (ac 0)), (1, .int (jI (x)))]) S.1 S.2.1 dX9_tell_8 rfl hl (by decide) rfl (fun ls hl => ?_)
    refine lv_aload_nN S.1 S.2.1 dX9_tell_9 rfl (lv_at hl 0 rfl) ?_
    refine lv_ifnonnullN S.1 S.2.1 dX9_tell_10 ?_
    refine z_iconst S dX9_tell_13 ?_
    refine z_goto (tgt := 25) S dX9_tell_14 (by decide) ?_
    exact hQ (-1) (tr) _ _ (by unfold zA_tell; omega) hP hD hS _ _ dX9_tell_25

set_option maxHeartbeats 1000000 in
set_option maxRecDepth 20000 in
theorem c_X9_mourn (l : Launch) (E : zE) (ac : Nat → Nat) (flt : Int) (ce la si : Int → Int) (ln : Int) (co : Int → Int) (n : Int) (on : Nat → Option Nat) (tr : Int) (fw cw ch nm : Int → Int) (an : Int → Nat) (kd vl nb fr tl : Int → Int) (x : Int) (h_x : -2147483648 ≤ x ∧ x ≤ 2147483647) (hp : 0 ≤ n ∧ n ≤ 10) (hon : zOns n on an) (hpe : zPeo n kd vl nb fr tl) (hap : zAp (cW E ac flt ce la si ln co n on tr fw cw ch nm) n an) : zMi l E yX9_mourn wsX9_mourn (zr 6 0 0) [.ref (ac 0), .int (jI (x))] (cW E ac flt ce la si ln co n on tr fw cw ch nm) (fun H => zNm E n an kd vl nb fr tl H) (fun r (u : Int) => zA_mourn n kd tr x r u) (fun (u : Int) => cW E ac flt ce la si ln co n on u fw cw ch nm) 0 0 := by
  refine zMi_of (own := RX9) (cc := cX9_mourn) (maxL := 3) (by decide) rfl (Nat.le_of_ble_eq_true rfl) rfl ?_
  intro p e s m args below meth c Q A S hK hA hS hP hD hAe hG hQ ls hl
  have hl : lv_has ls 3 [(0, .ref (ac 0)), (1, .int (jI (x)))] := hl
  have hNA := zNm_A hG hAe hap
  refine lv_aload_n S.1 S.2.1 dX9_mourn_0 rfl (lv_at hl 0 rfl) ?_
  refine z_get S hK hP 0 rfl rfl 2 (by decide) i_X9_mourn_9 q_X9_mourn_1 rfl dX9_mourn_1 ?_
  refine lv_iload_n S.1 S.2.1 dX9_mourn_4 rfl (lv_at hl 1 rfl) ?_
  refine z_rq (z_rV S hK (c_X4_one l E (ac 7) (ac 8) n on x an (by omega) (by omega) (hon)) gX9_mourn_X4_one rfl hv_X4_one ⟨Nat.le_of_ble_eq_true rfl, Nat.le_of_ble_eq_true rfl⟩ (va_recv hK hP (ci := 4) (q0 := 7) rfl rfl) (hP.sub [7, 8] rfl) hl.1 rfl (Nat.le_of_ble_eq_true rfl) ⟨by decide, by decide⟩ rfl dX9_mourn_5) (fun r_5 h_5 => ?_)
  rcases h_5 with ⟨e_5, hx_5⟩ | ⟨e_5, hx_5⟩
  · subst e_5
    refine W.eq (g2 := F0 m 8 ls [.ref (an x)]) rfl ?_
    refine lv_astore_n (lv' := [(2, .ref (an x)), (0, .ref (ac 0)), (1, .int (jI (x)))]) S.1 S.2.1 dX9_mourn_8 rfl hl (by decide) rfl (fun ls hl => ?_)
    refine lv_aload_n S.1 S.2.1 dX9_mourn_9 rfl (lv_at hl 0 rfl) ?_
    refine lv_ifnonnull (tgt := 17) S.1 S.2.1 dX9_mourn_10 (by decide) ?_
    refine lv_aload_n S.1 S.2.1 dX9_mourn_17 rfl (lv_at hl 0 rfl) ?_
    refine lv_aload_n S.1 S.2.1 dX9_mourn_18 rfl (lv_at hl 1 rfl) ?_
    refine z_get S hK hP 0 rfl rfl 3 (by decide) i_X9_mourn_9 q_X9_mourn_2 rfl dX9_mourn_19 ?_
    refine lv_iload_n S.1 S.2.1 dX9_mourn_22 rfl (lv_at hl 2 rfl) ?_
    have hv_23 := hpe x (by omega) (by omega)
    have ha_23 : an x ≠ ac 9 := fun q => hap x (by omega) (by omega) 9 _ (by rw [q]; rfl)
    have hk3 : kd x = 2 ∨ kd x = 1 ∨ kd x = 0 := (by omega)
    rcases hk3 with ek | ek | ek
    · refine z_mi (wr := [(ac 0, .inr (9, [.ref (ac 1), .ref (ac 5), .ref (ac 7), .ref (ac 9), .ref (ac 10), .ref (ac 12), .ref (ac 14), .int (jI flt)])), (ac 1, .inr (7, [.ref (ac 2), .ref (ac 3), .ref (ac 4)])), (ac 2, eI E 400 ce), (ac 3, eI E 4 la), (ac 4, eI E 4 si), (ac 5, .inr (6, [.ref (ac 6), .int (jI ln)])), (ac 6, eI E 100 co), (ac 7, .inr (4, [.ref (ac 8), .int (jI n)])), (ac 8, eN E 10 on), (ac 10, .inr (0, [.ref (ac 11)])), (ac 11, eI E 1000 fw), (ac 12, .inr (0, [.ref (ac 13)])), (ac 13, eI E 1000 cw), (ac 14, .inr (5, [.ref (ac 15), .ref (ac 16)])), (ac 15, eI E 3 ch), (ac 16, eI E 3 nm)]) (z_mO S hK (c_X1_mourning_1 l E (an x) (ac 9) tr x _) gX9_mourn_X1_mourning_u197X1 q_X9_mourn_23 rfl hu_2__LLivingNumbers_Trace_I_I ⟨Nat.le_of_ble_eq_true rfl, Nat.le_of_ble_eq_true rfl⟩ (va_recv hK (zNm_k (zNm_keep hG hS hNA) (x := x) (ci := 1) (by omega) ek rfl) (ci := 1) (q0 := 0) rfl rfl) (hP.sub [9] rfl) (hD.sub [9] (by decide) rfl) trivial hl.1 rfl (Nat.le_of_ble_eq_true rfl) ⟨by decide, by decide⟩ rfl dX9_mourn_23) hP hD hS hA [9] [0, 1, 2, 3, 4, 5, 6, 7, 8, 10, 11, 12, 13, 14, 15, 16] [0, 1, 2, 3, 4, 5, 6, 7, 8, 16, 9, 10, 11, 12, 13, 14, 15] rfl rfl (by decide) (by decide) (fun (u : Int) => cW E ac flt ce la si ln co n on u fw cw ch nm) (by decide) (fun _ => rfl) (fun r_23 u H locs h_23 hP hD hS => ?_)
      obtain ⟨u_23, u_23_e⟩ : ∃ z, z = u := ⟨_, rfl⟩
      subst u_23_e
      have hP : zP E (cW E ac flt ce la si ln co n on u_23 fw cw ch nm) H := hP
      have hD : va_D A (cW E ac flt ce la si ln co n on u_23 fw cw ch nm) := hD
      exact hQ (r_23) (u_23) _ _ (by unfold zA_mourn; omega) hP hD hS _ _ dX9_mourn_26
    · refine z_mi (wr := [(ac 0, .inr (9, [.ref (ac 1), .ref (ac 5), .ref (ac 7), .ref (ac 9), .ref (ac 10), .ref (ac 12), .ref (ac 14), .int (jI flt)])), (ac 1, .inr (7, [.ref (ac 2), .ref (ac 3), .ref (ac 4)])), (ac 2, eI E 400 ce), (ac 3, eI E 4 la), (ac 4, eI E 4 si), (ac 5, .inr (6, [.ref (ac 6), .int (jI ln)])), (ac 6, eI E 100 co), (ac 7, .inr (4, [.ref (ac 8), .int (jI n)])), (ac 8, eN E 10 on), (ac 10, .inr (0, [.ref (ac 11)])), (ac 11, eI E 1000 fw), (ac 12, .inr (0, [.ref (ac 13)])), (ac 13, eI E 1000 cw), (ac 14, .inr (5, [.ref (ac 15), .ref (ac 16)])), (ac 15, eI E 3 ch), (ac 16, eI E 3 nm)]) (z_mU S hK (c_X3_mourning_2 l E (an x) (ac 9) tr x _) gX9_mourn_X3_mourning_u197X2 rfl rfl hu_2__LLivingNumbers_Trace_I_I ⟨Nat.le_of_ble_eq_true rfl, Nat.le_of_ble_eq_true rfl⟩ (va_recv hK (zNm_k (zNm_keep hG hS hNA) (x := x) (ci := 2) (by omega) ek rfl) (ci := 2) (q0 := 0) rfl rfl) (hP.sub [9] rfl) (hD.sub [9] (by decide) rfl) trivial hl.1 rfl (Nat.le_of_ble_eq_true rfl) ⟨by decide, by decide⟩ rfl dX9_mourn_23) hP hD hS hA [9] [0, 1, 2, 3, 4, 5, 6, 7, 8, 10, 11, 12, 13, 14, 15, 16] [0, 1, 2, 3, 4, 5, 6, 7, 8, 16, 9, 10, 11, 12, 13, 14, 15] rfl rfl (by decide) (by decide) (fun (u : Int) => cW E ac flt ce la si ln co n on u fw cw ch nm) (by decide) (fun _ => rfl) (fun r_23 u H locs h_23 hP hD hS => ?_)
      obtain ⟨u_23, u_23_e⟩ : ∃ z, z = u := ⟨_, rfl⟩
      subst u_23_e
      have hP : zP E (cW E ac flt ce la si ln co n on u_23 fw cw ch nm) H := hP
      have hD : va_D A (cW E ac flt ce la si ln co n on u_23 fw cw ch nm) := hD
      exact hQ (r_23) (u_23) _ _ (by unfold zA_mourn; omega) hP hD hS _ _ dX9_mourn_26
    · refine z_mi (wr := [(ac 0, .inr (9, [.ref (ac 1), .ref (ac 5), .ref (ac 7), .ref (ac 9), .ref (ac 10), .ref (ac 12), .ref (ac 14), .int (jI flt)])), (ac 1, .inr (7, [.ref (ac 2), .ref (ac 3), .ref (ac 4)])), (ac 2, eI E 400 ce), (ac 3, eI E 4 la), (ac 4, eI E 4 si), (ac 5, .inr (6, [.ref (ac 6), .int (jI ln)])), (ac 6, eI E 100 co), (ac 7, .inr (4, [.ref (ac 8), .int (jI n)])), (ac 8, eN E 10 on), (ac 10, .inr (0, [.ref (ac 11)])), (ac 11, eI E 1000 fw), (ac 12, .inr (0, [.ref (ac 13)])), (ac 13, eI E 1000 cw), (ac 14, .inr (5, [.ref (ac 15), .ref (ac 16)])), (ac 15, eI E 3 ch), (ac 16, eI E 3 nm)]) (z_mV S hK (c_X3_mourning_3 l E (an x) (ac 9) tr x _) gX9_mourn_X3_mourning rfl hv_X3_mourning ⟨Nat.le_of_ble_eq_true rfl, Nat.le_of_ble_eq_true rfl⟩ (va_recv hK (zNm_k (zNm_keep hG hS hNA) (x := x) (ci := 3) (by omega) ek rfl) (ci := 3) (q0 := 0) rfl rfl) (hP.sub [9] rfl) (hD.sub [9] (by decide) rfl) trivial hl.1 rfl (Nat.le_of_ble_eq_true rfl) ⟨by decide, by decide⟩ rfl dX9_mourn_23) hP hD hS hA [9] [0, 1, 2, 3, 4, 5, 6, 7, 8, 10, 11, 12, 13, 14, 15, 16] [0, 1, 2, 3, 4, 5, 6, 7, 8, 16, 9, 10, 11, 12, 13, 14, 15] rfl rfl (by decide) (by decide) (fun (u : Int) => cW E ac flt ce la si ln co n on u fw cw ch nm) (by decide) (fun _ => rfl) (fun r_23 u H locs h_23 hP hD hS => ?_)
      obtain ⟨u_23, u_23_e⟩ : ∃ z, z = u := ⟨_, rfl⟩
      subst u_23_e
      have hP : zP E (cW E ac flt ce la si ln co n on u_23 fw cw ch nm) H := hP
      have hD : va_D A (cW E ac flt ce la si ln co n on u_23 fw cw ch nm) := hD
      exact hQ (r_23) (u_23) _ _ (by unfold zA_mourn; omega) hP hD hS _ _ dX9_mourn_26
  · subst e_5
    refine W.eq (g2 := F0 m 8 ls [.null]) rfl ?_
    refine lv_astore_nN (lv' := [(2, .null), (0, .ref (ac 0)), (1, .int (jI (x)))]) S.1 S.2.1 dX9_mourn_8 rfl hl (by decide) rfl (fun ls hl => ?_)
    refine lv_aload_nN S.1 S.2.1 dX9_mourn_9 rfl (lv_at hl 0 rfl) ?_
    refine lv_ifnonnullN S.1 S.2.1 dX9_mourn_10 ?_
    refine z_iconst S dX9_mourn_13 ?_
    refine z_goto (tgt := 26) S dX9_mourn_14 (by decide) ?_
    exact hQ (-1) (tr) _ _ (by unfold zA_mourn; omega) hP hD hS _ _ dX9_mourn_26

set_option maxHeartbeats 1000000 in
set_option maxRecDepth 20000 in
theorem c_X9_as (l : Launch) (E : zE) (ac : Nat → Nat) (flt : Int) (ce la si : Int → Int) (ln : Int) (co : Int → Int) (n : Int) (on : Nat → Option Nat) (tr : Int) (fw cw ch nm : Int → Int) (an : Int → Nat) (kd vl nb fr tl : Int → Int) (x : Int) (kind : Int) (h_x : -2147483648 ≤ x ∧ x ≤ 2147483647) (h_kind : -2147483648 ≤ kind ∧ kind ≤ 2147483647) (hp : 0 ≤ n ∧ n ≤ 10) (hon : zOns n on an) (hpe : zPeo n kd vl nb fr tl) (hap : zAp (cW E ac flt ce la si ln co n on tr fw cw ch nm) n an) : zMi l E yX9_as wsX9_as (zr 6 0 0) [.ref (ac 0), .int (jI (x)), .int (jI (kind))] (cW E ac flt ce la si ln co n on tr fw cw ch nm) (fun H => zNm E n an kd vl nb fr tl H) (fun r (u : Int) => zA_as n kd x kind r u) (fun (u : Int) => cW E ac u ce la si ln co n on tr fw cw ch nm) 0 0 := by
  refine zMi_of (own := RX9) (cc := cX9_as) (maxL := 4) (by decide) rfl (Nat.le_of_ble_eq_true rfl) rfl ?_
  intro p e s m args below meth c Q A S hK hA hS hP hD hAe hG hQ ls hl
  have hl : lv_has ls 4 [(0, .ref (ac 0)), (1, .int (jI (x))), (2, .int (jI (kind)))] := hl
  have hNA := zNm_A hG hAe hap
  refine lv_aload_n S.1 S.2.1 dX9_as_0 rfl (lv_at hl 0 rfl) ?_
  refine z_iconst S dX9_as_1 ?_
  refine z_puti S hK hP hD hS 0 rfl rfl 7 (by decide) i_X9_as_9 q_X9_as_1 tyX9 tyX9_ok nmX9 rfl (by decide +kernel) (Nat.le_of_ble_eq_true rfl) dX9_as_2 (fun H locs hP hD hS => ?_)
  have hP : zP E (cW E ac 0 ce la si ln co n on tr fw cw ch nm) H := hP
  have hD : va_D A (cW E ac 0 ce la si ln co n on tr fw cw ch nm) := hD
  refine lv_aload_n S.1 S.2.1 dX9_as_5 rfl (lv_at hl 0 rfl) ?_
  refine z_get S hK hP 0 rfl rfl 2 (by decide) i_X9_as_9 q_X9_as_2 rfl dX9_as_6 ?_
  refine lv_iload_n S.1 S.2.1 dX9_as_9 rfl (lv_at hl 1 rfl) ?_
  refine z_rq (z_rV S hK (c_X4_one l E (ac 7) (ac 8) n on x an (by omega) (by omega) (hon)) gX9_as_X4_one rfl hv_X4_one ⟨Nat.le_of_ble_eq_true rfl, Nat.le_of_ble_eq_true rfl⟩ (va_recv hK hP (ci := 4) (q0 := 7) rfl rfl) (hP.sub [7, 8] rfl) hl.1 rfl (Nat.le_of_ble_eq_true rfl) ⟨by decide, by decide⟩ rfl dX9_as_10) (fun r_10 h_10 => ?_)
  rcases h_10 with ⟨e_10, hx_10⟩ | ⟨e_10, hx_10⟩
  · subst e_10
    refine W.eq (g2 := F0 m 13 ls [.ref (an x)]) rfl ?_
    refine lv_astore_n (lv' := [(3, .ref (an x)), (0, .ref (ac 0)), (1, .int (jI (x))), (2, .int (jI (kind)))]) S.1 S.2.1 dX9_as_13 rfl hl (by decide) rfl (fun ls hl => ?_)
    refine lv_aload_n S.1 S.2.1 dX9_as_14 rfl (lv_at hl 0 rfl) ?_
    refine lv_ifnonnull (tgt := 20) S.1 S.2.1 dX9_as_15 (by decide) ?_
    refine lv_iload_n S.1 S.2.1 dX9_as_20 rfl (lv_at hl 3 rfl) ?_
    refine z_if_lt (tgt := 29) S dX9_as_21 (by decide) (by omega) (fun c_21 => ?_) (fun c_21 => ?_)
    · skip
      refine z_bipush S (by decide +kernel) dX9_as_29 ?_
      exact hQ (-2) (0) _ _ (by unfold zA_as; omega) hP hD hS _ _ dX9_as_31
    · skip
      refine lv_iload_n S.1 S.2.1 dX9_as_24 rfl (lv_at hl 3 rfl) ?_
      refine z_iconst S dX9_as_25 ?_
      refine z_icmp_lt (tgt := 32) S dX9_as_26 (by decide) (by omega) (fun c_26 => ?_) (fun c_26 => ?_)
      · skip
        refine lv_aload_n S.1 S.2.1 dX9_as_32 rfl (lv_at hl 0 rfl) ?_
        have hv_33 := hpe x (by omega) (by omega)
        refine z_ri (post := fun r => r = kd x) (av := ([.ref (an x)] : List Value).toArray) (by
          have hk3 : kd x = 2 ∨ kd x = 1 ∨ kd x = 0 := (by omega)
          rcases hk3 with e | e | e
          · exact (by rw [e]; exact (z_rO S hK (c_X1_kind_1 l E (an x)) gX9_as_X1_kind_u201X1 q_X9_as_17 rfl hu_0___I ⟨Nat.le_of_ble_eq_true rfl, Nat.le_of_ble_eq_true rfl⟩ (va_recv hK (zNm_k (zNm_keep hG hS hNA) (x := x) (ci := 1) (by omega) e rfl) (ci := 1) (q0 := 0) rfl rfl) trivial hl.1 rfl (Nat.le_of_ble_eq_true rfl) ⟨by decide, by decide⟩ rfl dX9_as_33))
          · exact (by rw [e]; exact (z_rO S hK (c_X2_kind_2 l E (an x)) gX9_as_X2_kind_u201X2 q_X9_as_17 rfl hu_0___I ⟨Nat.le_of_ble_eq_true rfl, Nat.le_of_ble_eq_true rfl⟩ (va_recv hK (zNm_k (zNm_keep hG hS hNA) (x := x) (ci := 2) (by omega) e rfl) (ci := 2) (q0 := 0) rfl rfl) trivial hl.1 rfl (Nat.le_of_ble_eq_true rfl) ⟨by decide, by decide⟩ rfl dX9_as_33))
          · exact (by rw [e]; exact (z_rV S hK (c_X3_kind_3 l E (an x)) gX9_as_X3_kind rfl hv_X3_kind ⟨Nat.le_of_ble_eq_true rfl, Nat.le_of_ble_eq_true rfl⟩ (va_recv hK (zNm_k (zNm_keep hG hS hNA) (x := x) (ci := 3) (by omega) e rfl) (ci := 3) (q0 := 0) rfl rfl) trivial hl.1 rfl (Nat.le_of_ble_eq_true rfl) ⟨by decide, by decide⟩ rfl dX9_as_33))) (fun r_33 h_33 => ?_)
        rw [h_33]
        refine lv_iload_n S.1 S.2.1 dX9_as_36 rfl (lv_at hl 3 rfl) ?_
        refine z_icmp_ge (tgt := 48) S dX9_as_37 (by decide) (by omega) (fun c_37 => ?_) (fun c_37 => ?_)
        · skip
          refine z_iconst S dX9_as_48 ?_
          exact hQ (1) (0) _ _ (by unfold zA_as; omega) hP hD hS _ _ dX9_as_49
        · skip
          refine lv_aload_n S.1 S.2.1 dX9_as_40 rfl (lv_at hl 1 rfl) ?_
          refine z_iconst S dX9_as_41 ?_
          refine z_miw (z_mV S hK (c_X9_faulted l E ac 0 ce la si ln co n on tr fw cw ch nm 2 _) gX9_as_X9_faulted rfl hv_X9_faulted ⟨Nat.le_of_ble_eq_true rfl, Nat.le_of_ble_eq_true rfl⟩ (va_recv hK hP (ci := 9) (q0 := 0) rfl rfl) hP hD trivial hl.1 rfl (Nat.le_of_ble_eq_true rfl) ⟨by decide, by decide⟩ rfl dX9_as_42) hD hS hA (fun r_42 u H locs h_42 hP hD hS => ?_)
          rw [h_42]
          have hP : zP E (cW E ac 2 ce la si ln co n on tr fw cw ch nm) H := hP
          have hD : va_D A (cW E ac 2 ce la si ln co n on tr fw cw ch nm) := hD
          refine z_goto (tgt := 49) S dX9_as_45 (by decide) ?_
          exact hQ (-10 - 2) (2) _ _ (by unfold zA_as; omega) hP hD hS _ _ dX9_as_49
      · skip
        refine z_bipush S (by decide +kernel) dX9_as_29 ?_
        exact hQ (-2) (0) _ _ (by unfold zA_as; omega) hP hD hS _ _ dX9_as_31
  · subst e_10
    refine W.eq (g2 := F0 m 13 ls [.null]) rfl ?_
    refine lv_astore_nN (lv' := [(3, .null), (0, .ref (ac 0)), (1, .int (jI (x))), (2, .int (jI (kind)))]) S.1 S.2.1 dX9_as_13 rfl hl (by decide) rfl (fun ls hl => ?_)
    refine lv_aload_nN S.1 S.2.1 dX9_as_14 rfl (lv_at hl 0 rfl) ?_
    refine lv_ifnonnullN S.1 S.2.1 dX9_as_15 ?_
    refine z_iconst S dX9_as_18 ?_
    exact hQ (-1) (0) _ _ (by unfold zA_as; omega) hP hD hS _ _ dX9_as_19

set_option maxHeartbeats 1000000 in
set_option maxRecDepth 20000 in
theorem c_X9_trace (l : Launch) (E : zE) (ac : Nat → Nat) (flt : Int) (ce la si : Int → Int) (ln : Int) (co : Int → Int) (n : Int) (on : Nat → Option Nat) (tr : Int) (fw cw ch nm : Int → Int) : zRi l E yX9_trace wsX9_trace (zr 2 0 0) [.ref (ac 0)] (fun H => zP E (cW E ac flt ce la si ln co n on tr fw cw ch nm) H) (fun r => r = tr) := by
  refine zRi_of (own := RX9) (cc := cX9_trace) (maxL := 1) (by decide) rfl (Nat.le_of_ble_eq_true rfl) rfl ?_
  intro p e s m args below meth c Q S hK hP hQ ls hl
  have hl : lv_has ls 1 [(0, .ref (ac 0))] := hl
  refine lv_aload_n S.1 S.2.1 dX9_trace_0 rfl (lv_at hl 0 rfl) ?_
  refine z_get S hK hP 0 rfl rfl 3 (by decide) i_X9_trace_9 q_X9_trace_1 rfl dX9_trace_1 ?_
  refine z_ri (z_rV S hK (c_X8_left l E (ac 9) tr) gX9_trace_X8_left rfl hv_X8_left ⟨Nat.le_of_ble_eq_true rfl, Nat.le_of_ble_eq_true rfl⟩ (va_recv hK hP (ci := 8) (q0 := 9) rfl rfl) (hP.sub [9] rfl) hl.1 rfl (Nat.le_of_ble_eq_true rfl) ⟨by decide, by decide⟩ rfl dX9_trace_4) (fun r_4 h_4 => ?_)
  rw [h_4]
  exact hQ (tr) (rfl) _ _ dX9_trace_7

set_option maxHeartbeats 1000000 in
set_option maxRecDepth 20000 in
theorem c_X9_fault (l : Launch) (E : zE) (ac : Nat → Nat) (flt : Int) (ce la si : Int → Int) (ln : Int) (co : Int → Int) (n : Int) (on : Nat → Option Nat) (tr : Int) (fw cw ch nm : Int → Int) : zRi l E yX9_fault wsX9_fault (zr 1 0 0) [.ref (ac 0)] (fun H => zP E (cW E ac flt ce la si ln co n on tr fw cw ch nm) H) (fun r => r = flt) := by
  refine zRi_of (own := RX9) (cc := cX9_fault) (maxL := 1) (by decide) rfl (Nat.le_of_ble_eq_true rfl) rfl ?_
  intro p e s m args below meth c Q S hK hP hQ ls hl
  have hl : lv_has ls 1 [(0, .ref (ac 0))] := hl
  refine lv_aload_n S.1 S.2.1 dX9_fault_0 rfl (lv_at hl 0 rfl) ?_
  refine z_get S hK hP 0 rfl rfl 7 (by decide) i_X9_fault_9 q_X9_fault_1 rfl dX9_fault_1 ?_
  exact hQ (flt) (rfl) _ _ dX9_fault_4

set_option maxHeartbeats 1000000 in
set_option maxRecDepth 20000 in
theorem c_X9_many (l : Launch) (E : zE) (ac : Nat → Nat) (flt : Int) (ce la si : Int → Int) (ln : Int) (co : Int → Int) (n : Int) (on : Nat → Option Nat) (tr : Int) (fw cw ch nm : Int → Int) : zRi l E yX9_many wsX9_many (zr 2 0 0) [.ref (ac 0)] (fun H => zP E (cW E ac flt ce la si ln co n on tr fw cw ch nm) H) (fun r => r = n) := by
  refine zRi_of (own := RX9) (cc := cX9_many) (maxL := 1) (by decide) rfl (Nat.le_of_ble_eq_true rfl) rfl ?_
  intro p e s m args below meth c Q S hK hP hQ ls hl
  have hl : lv_has ls 1 [(0, .ref (ac 0))] := hl
  refine lv_aload_n S.1 S.2.1 dX9_many_0 rfl (lv_at hl 0 rfl) ?_
  refine z_get S hK hP 0 rfl rfl 2 (by decide) i_X9_many_9 q_X9_many_1 rfl dX9_many_1 ?_
  refine z_ri (z_rV S hK (c_X4_size l E (ac 7) (ac 8) n on) gX9_many_X4_size rfl hv_X4_size ⟨Nat.le_of_ble_eq_true rfl, Nat.le_of_ble_eq_true rfl⟩ (va_recv hK hP (ci := 4) (q0 := 7) rfl rfl) (hP.sub [7, 8] rfl) hl.1 rfl (Nat.le_of_ble_eq_true rfl) ⟨by decide, by decide⟩ rfl dX9_many_4) (fun r_4 h_4 => ?_)
  rw [h_4]
  exact hQ (n) (rfl) _ _ dX9_many_7
