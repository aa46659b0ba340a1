theorem i_X7_laneOf_7 : ∀ w ∈ u_ws RX7 TX7 3, w ∈ wsX7_laneOf := fun w h => List.mem_cons_of_mem _ (List.mem_append_right _ h)
theorem q_X7_laneOf_1 : Cond.fieldLink RX7 15 "LivingNumbers$Sheets" "lanes" "[I" ∈ wsX7_laneOf := List.mem_of_getElem? (i := 1) rfl
theorem hv_X7_laneOf : yX7_laneOf.cls = RX7 ∧ yX7_laneOf.cls ≠ "java/lang/invoke/MethodHandle" ∧ yX7_laneOf.cls ≠ "java/lang/invoke/VarHandle" ∧ (parseMethodDescriptor yX7_laneOf.desc).map (fun d => d.parameters.length) = some 1 := by decide +kernel
theorem i_X7_sizeOf_7 : ∀ w ∈ u_ws RX7 TX7 3, w ∈ wsX7_sizeOf := fun w h => List.mem_cons_of_mem _ (List.mem_append_right _ h)
theorem q_X7_sizeOf_1 : Cond.fieldLink RX7 18 "LivingNumbers$Sheets" "sizes" "[I" ∈ wsX7_sizeOf := List.mem_of_getElem? (i := 1) rfl
theorem hv_X7_sizeOf : yX7_sizeOf.cls = RX7 ∧ yX7_sizeOf.cls ≠ "java/lang/invoke/MethodHandle" ∧ yX7_sizeOf.cls ≠ "java/lang/invoke/VarHandle" ∧ (parseMethodDescriptor yX7_sizeOf.desc).map (fun d => d.parameters.length) = some 1 := by decide +kernel
theorem i_X7_standOf_7 : ∀ w ∈ u_ws RX7 TX7 3, w ∈ wsX7_standOf := fun w h => List.mem_cons_of_mem _ (List.mem_append_right _ h)
theorem q_X7_standOf_1 : Cond.fieldLink RX7 9 "LivingNumbers$Sheets" "cells" "[I" ∈ wsX7_standOf := List.mem_of_getElem? (i := 1) rfl
theorem hv_X7_standOf : yX7_standOf.cls = RX7 ∧ yX7_standOf.cls ≠ "java/lang/invoke/MethodHandle" ∧ yX7_standOf.cls ≠ "java/lang/invoke/VarHandle" ∧ (parseMethodDescriptor yX7_standOf.desc).map (fun d => d.parameters.length) = some 2 := by decide +kernel
theorem i_X7_at_7 : ∀ w ∈ u_ws RX7 TX7 3, w ∈ wsX7_at := fun w h => List.mem_cons_of_mem _ (List.mem_append_right _ h)
theorem q_X7_at_1 : Cond.fieldLink RX7 9 "LivingNumbers$Sheets" "cells" "[I" ∈ wsX7_at := List.mem_of_getElem? (i := 1) rfl
theorem i_X7_set_7 : ∀ w ∈ u_ws RX7 TX7 3, w ∈ wsX7_set := fun w h => List.mem_cons_of_mem _ (List.mem_append_right _ h)
theorem q_X7_set_1 : Cond.fieldLink RX7 9 "LivingNumbers$Sheets" "cells" "[I" ∈ wsX7_set := List.mem_of_getElem? (i := 1) rfl
theorem hs_X7_cut : yX7_cut.cls ≠ "java/lang/invoke/MethodHandle" ∧ yX7_cut.cls ≠ "java/lang/invoke/VarHandle" ∧ (parseMethodDescriptor yX7_cut.desc).map (fun d => d.parameters.length) = some 2 := by decide +kernel
theorem i_X7_renew_7 : ∀ w ∈ u_ws RX7 TX7 3, w ∈ wsX7_renew := fun w h => List.mem_cons_of_mem _ (List.mem_append_right _ h)
theorem q_X7_renew_1 : Cond.fieldLink RX7 15 "LivingNumbers$Sheets" "lanes" "[I" ∈ wsX7_renew := List.mem_of_getElem? (i := 1) rfl
theorem q_X7_renew_2 : Cond.fieldLink RX7 18 "LivingNumbers$Sheets" "sizes" "[I" ∈ wsX7_renew := List.mem_of_getElem? (i := 2) rfl
theorem hv_X7_set : yX7_set.cls = RX7 ∧ yX7_set.cls ≠ "java/lang/invoke/MethodHandle" ∧ yX7_set.cls ≠ "java/lang/invoke/VarHandle" ∧ (parseMethodDescriptor yX7_set.desc).map (fun d => d.parameters.length) = some 3 := by decide +kernel
theorem hv_X7_renew : yX7_renew.cls = RX7 ∧ yX7_renew.cls ≠ "java/lang/invoke/MethodHandle" ∧ yX7_renew.cls ≠ "java/lang/invoke/VarHandle" ∧ (parseMethodDescriptor yX7_renew.desc).map (fun d => d.parameters.length) = some 3 := by decide +kernel
theorem hv_X7_hasCells : yX7_hasCells.cls = RX7 ∧ yX7_hasCells.cls ≠ "java/lang/invoke/MethodHandle" ∧ yX7_hasCells.cls ≠ "java/lang/invoke/VarHandle" ∧ (parseMethodDescriptor yX7_hasCells.desc).map (fun d => d.parameters.length) = some 3 := by decide +kernel
theorem i_X7_move_7 : ∀ w ∈ u_ws RX7 TX7 3, w ∈ wsX7_move := fun w h => List.mem_cons_of_mem _ (List.mem_append_right _ h)
theorem q_X7_move_1 : Cond.fieldLink RX7 9 "LivingNumbers$Sheets" "cells" "[I" ∈ wsX7_move := List.mem_of_getElem? (i := 1) rfl
theorem q_X7_move_2 : Cond.methodLink RX7 46 arraycopyName ∈ wsX7_move := List.mem_of_getElem? (i := 2) rfl
theorem q_X7_move_3 : Cond.native arraycopyName ∈ wsX7_move := List.mem_of_getElem? (i := 3) rfl
theorem q_X7_move_4 : Cond.static arraycopyName ∈ wsX7_move := List.mem_of_getElem? (i := 4) rfl
theorem q_X7_move_5 : Cond.initialized "java/lang/System" ∈ wsX7_move := List.mem_of_getElem? (i := 5) rfl
set_option maxHeartbeats 1000000 in
set_option maxRecDepth 20000 in
theorem c_X7_laneOf (l : Launch) (E : zE) (h : Nat) (a0 : Nat) (a1 : Nat) (a2 : Nat) (ce : Int → Int) (la : Int → Int) (si : Int → Int) (k : Int) (hk : 0 ≤ k ∧ k ≤ 3) : zRi l E yX7_laneOf wsX7_laneOf (zr 1 0 0) [.ref h, .int (jI (k))] (fun H => zP E ([(h, .inr (7, [.ref a0, .ref a1, .ref a2])), (a0, eI E 400 ce), (a1, eI E 4 la), (a2, eI E 4 si)]) H) (fun r => r = la k) := by
  refine zRi_of (own := RX7) (cc := cX7_laneOf) (maxL := 2) (by decide) rfl (Nat.le_of_ble_eq_true rfl) rfl ?_
  intro p e s m args below meth c Q S hK hP hQ ls hl
  have hl : lv_has ls 2 [(0, .ref h), (1, .int (jI (k)))] := hl
  refine lv_iload_n S.1 S.2.1 dX7_laneOf_0 rfl (lv_at hl 1 rfl) ?_
  refine z_if_lt (tgt := 22) S dX7_laneOf_1 (by decide) (by omega) (fun c_1 => ?_) (fun c_1 => ?_)
  · omega
  · skip
    refine lv_iload_n S.1 S.2.1 dX7_laneOf_4 rfl (lv_at hl 1 rfl) ?_
    refine lv_aload_n S.1 S.2.1 dX7_laneOf_5 rfl (lv_at hl 0 rfl) ?_
    refine z_get S hK hP 0 rfl rfl 1 (by decide) i_X7_laneOf_7 q_X7_laneOf_1 rfl dX7_laneOf_6 ?_
    refine z_alen S hK hP 2 rfl dX7_laneOf_9 ?_
    refine z_icmp_ge (tgt := 22) S dX7_laneOf_10 (by decide) (by omega) (fun c_10 => ?_) (fun c_10 => ?_)
    · omega
    · skip
      refine lv_aload_n S.1 S.2.1 dX7_laneOf_13 rfl (lv_at hl 0 rfl) ?_
      refine z_get S hK hP 0 rfl rfl 1 (by decide) i_X7_laneOf_7 q_X7_laneOf_1 rfl dX7_laneOf_14 ?_
      refine lv_iload_n S.1 S.2.1 dX7_laneOf_17 rfl (lv_at hl 1 rfl) ?_
      refine z_iald S hK hP 2 rfl (by omega) dX7_laneOf_18 ?_
      refine z_goto (tgt := 23) S dX7_laneOf_19 (by decide) ?_
      exact hQ (la (k)) (rfl) _ _ dX7_laneOf_23

set_option maxHeartbeats 1000000 in
set_option maxRecDepth 20000 in
theorem c_X7_hasRow (l : Launch) (E : zE) (h : Nat) (a0 : Nat) (a1 : Nat) (a2 : Nat) (ce : Int → Int) (la : Int → Int) (si : Int → Int) (k : Int) (hk : 0 ≤ k ∧ k ≤ 3) (hls : zLs la si) : zRi l E yX7_hasRow wsX7_hasRow (zr 2 0 0) [.ref h, .int (jI (k))] (fun H => zP E ([(h, .inr (7, [.ref a0, .ref a1, .ref a2])), (a0, eI E 400 ce), (a1, eI E 4 la), (a2, eI E 4 si)]) H) (fun r => (r = 1 ∧ (la k ≠ -1)) ∨ (r = 0 ∧ ¬ (la k ≠ -1))) := by
  refine zRz_of (own := RX7) (cc := cX7_hasRow) (maxL := 2) (by decide) rfl (Nat.le_of_ble_eq_true rfl) rfl ?_
  intro p e s m args below meth c Q S hK hP hQ ls hl
  have hl : lv_has ls 2 [(0, .ref h), (1, .int (jI (k)))] := hl
  refine lv_aload_n S.1 S.2.1 dX7_hasRow_0 rfl (lv_at hl 0 rfl) ?_
  refine lv_iload_n S.1 S.2.1 dX7_hasRow_1 rfl (lv_at hl 1 rfl) ?_
  refine z_ri (z_rV S hK (c_X7_laneOf l E h a0 a1 a2 ce la si k (by omega)) gX7_hasRow_X7_laneOf rfl hv_X7_laneOf ⟨Nat.le_of_ble_eq_true rfl, Nat.le_of_ble_eq_true rfl⟩ (va_recv hK hP (ci := 7) (q0 := 0) rfl rfl) hP hl.1 rfl (Nat.le_of_ble_eq_true rfl) ⟨by decide, by decide⟩ rfl dX7_hasRow_2) (fun r_2 h_2 => ?_)
  rw [h_2]
  have hl2 := hls k (by omega) (by omega)
  refine z_iconst S dX7_hasRow_5 ?_
  refine z_icmp_eq (tgt := 13) S dX7_hasRow_6 (by decide) (by omega) (fun c_6 => ?_) (fun c_6 => ?_)
  · skip
    refine z_iconst S dX7_hasRow_13 ?_
    exact hQ (0) (by omega) (by omega) _ _ dX7_hasRow_14
  · skip
    refine z_iconst S dX7_hasRow_9 ?_
    refine z_goto (tgt := 14) S dX7_hasRow_10 (by decide) ?_
    exact hQ (1) (by omega) (by omega) _ _ dX7_hasRow_14

set_option maxHeartbeats 1000000 in
set_option maxRecDepth 20000 in
theorem c_X7_sizeOf (l : Launch) (E : zE) (h : Nat) (a0 : Nat) (a1 : Nat) (a2 : Nat) (ce : Int → Int) (la : Int → Int) (si : Int → Int) (k : Int) (hk : 0 ≤ k ∧ k ≤ 3) : zRi l E yX7_sizeOf wsX7_sizeOf (zr 1 0 0) [.ref h, .int (jI (k))] (fun H => zP E ([(h, .inr (7, [.ref a0, .ref a1, .ref a2])), (a0, eI E 400 ce), (a1, eI E 4 la), (a2, eI E 4 si)]) H) (fun r => r = si k) := by
  refine zRi_of (own := RX7) (cc := cX7_sizeOf) (maxL := 2) (by decide) rfl (Nat.le_of_ble_eq_true rfl) rfl ?_
  intro p e s m args below meth c Q S hK hP hQ ls hl
  have hl : lv_has ls 2 [(0, .ref h), (1, .int (jI (k)))] := hl
  refine lv_iload_n S.1 S.2.1 dX7_sizeOf_0 rfl (lv_at hl 1 rfl) ?_
  refine z_if_lt (tgt := 22) S dX7_sizeOf_1 (by decide) (by omega) (fun c_1 => ?_) (fun c_1 => ?_)
  · omega
  · skip
    refine lv_iload_n S.1 S.2.1 dX7_sizeOf_4 rfl (lv_at hl 1 rfl) ?_
    refine lv_aload_n S.1 S.2.1 dX7_sizeOf_5 rfl (lv_at hl 0 rfl) ?_
    refine z_get S hK hP 0 rfl rfl 2 (by decide) i_X7_sizeOf_7 q_X7_sizeOf_1 rfl dX7_sizeOf_6 ?_
    refine z_alen S hK hP 3 rfl dX7_sizeOf_9 ?_
    refine z_icmp_ge (tgt := 22) S dX7_sizeOf_10 (by decide) (by omega) (fun c_10 => ?_) (fun c_10 => ?_)
    · omega
    · skip
      refine lv_aload_n S.1 S.2.1 dX7_sizeOf_13 rfl (lv_at hl 0 rfl) ?_
      refine z_get S hK hP 0 rfl rfl 2 (by decide) i_X7_sizeOf_7 q_X7_sizeOf_1 rfl dX7_sizeOf_14 ?_
      refine lv_iload_n S.1 S.2.1 dX7_sizeOf_17 rfl (lv_at hl 1 rfl) ?_
      refine z_iald S hK hP 3 rfl (by omega) dX7_sizeOf_18 ?_
      refine z_goto (tgt := 23) S dX7_sizeOf_19 (by decide) ?_
      exact hQ (si (k)) (rfl) _ _ dX7_sizeOf_23

set_option maxHeartbeats 1000000 in
set_option maxRecDepth 20000 in
theorem c_X7_hasCells (l : Launch) (E : zE) (h : Nat) (a0 : Nat) (a1 : Nat) (a2 : Nat) (ce : Int → Int) (la : Int → Int) (si : Int → Int) (k : Int) (i : Int) (n : Int) (hk : 0 ≤ k ∧ k ≤ 3) (h_i : -2147483648 ≤ i ∧ i ≤ 2147483647) (h_n : -2147483648 ≤ n ∧ n ≤ 2147483647) (hls : zLs la si) : zRi l E yX7_hasCells wsX7_hasCells (zr 2 0 0) [.ref h, .int (jI (k)), .int (jI (i)), .int (jI (n))] (fun H => zP E ([(h, .inr (7, [.ref a0, .ref a1, .ref a2])), (a0, eI E 400 ce), (a1, eI E 4 la), (a2, eI E 4 si)]) H) (fun r => (r = 1 ∧ (0 ≤ n ∧ 0 ≤ i ∧ i + n ≤ si k)) ∨ (r = 0 ∧ ¬ (0 ≤ n ∧ 0 ≤ i ∧ i + n ≤ si k))) := by
  refine zRz_of (own := RX7) (cc := cX7_hasCells) (maxL := 5) (by decide) rfl (Nat.le_of_ble_eq_true rfl) rfl ?_
  intro p e s m args below meth c Q S hK hP hQ ls hl
  have hl : lv_has ls 5 [(0, .ref h), (1, .int (jI (k))), (2, .int (jI (i))), (3, .int (jI (n)))] := hl
  refine lv_aload_n S.1 S.2.1 dX7_hasCells_0 rfl (lv_at hl 0 rfl) ?_
  refine lv_iload_n S.1 S.2.1 dX7_hasCells_1 rfl (lv_at hl 1 rfl) ?_
  refine z_ri (z_rV S hK (c_X7_sizeOf l E h a0 a1 a2 ce la si k (by omega)) gX7_hasCells_X7_sizeOf rfl hv_X7_sizeOf ⟨Nat.le_of_ble_eq_true rfl, Nat.le_of_ble_eq_true rfl⟩ (va_recv hK hP (ci := 7) (q0 := 0) rfl rfl) hP hl.1 rfl (Nat.le_of_ble_eq_true rfl) ⟨by decide, by decide⟩ rfl dX7_hasCells_2) (fun r_2 h_2 => ?_)
  rw [h_2]
  refine lv_istore (lv' := [(4, .int (jI (si k))), (0, .ref h), (1, .int (jI (k))), (2, .int (jI (i))), (3, .int (jI (n)))]) S.1 S.2.1 dX7_hasCells_5 hl (by decide) rfl (fun ls hl => ?_)
  have hl2 := hls k (by omega) (by omega)
  refine lv_iload_n S.1 S.2.1 dX7_hasCells_7 rfl (lv_at hl 4 rfl) ?_
  refine z_if_lt (tgt := 33) S dX7_hasCells_8 (by decide) (by omega) (fun c_8 => ?_) (fun c_8 => ?_)
  · skip
    refine z_iconst S dX7_hasCells_33 ?_
    exact hQ (0) (by omega) (by omega) _ _ dX7_hasCells_34
  · skip
    refine lv_iload_n S.1 S.2.1 dX7_hasCells_11 rfl (lv_at hl 3 rfl) ?_
    refine z_if_lt (tgt := 33) S dX7_hasCells_12 (by decide) (by omega) (fun c_12 => ?_) (fun c_12 => ?_)
    · skip
      refine z_iconst S dX7_hasCells_33 ?_
      exact hQ (0) (by omega) (by omega) _ _ dX7_hasCells_34
    · skip
      refine lv_iload_n S.1 S.2.1 dX7_hasCells_15 rfl (lv_at hl 3 rfl) ?_
      refine lv_iload S.1 S.2.1 dX7_hasCells_16 (lv_at hl 0 rfl) ?_
      refine z_icmp_gt (tgt := 33) S dX7_hasCells_18 (by decide) (by omega) (fun c_18 => ?_) (fun c_18 => ?_)
      · skip
        refine z_iconst S dX7_hasCells_33 ?_
        exact hQ (0) (by omega) (by omega) _ _ dX7_hasCells_34
      · skip
        refine lv_iload_n S.1 S.2.1 dX7_hasCells_21 rfl (lv_at hl 4 rfl) ?_
        refine lv_iload S.1 S.2.1 dX7_hasCells_22 (lv_at hl 0 rfl) ?_
        refine lv_iload_n S.1 S.2.1 dX7_hasCells_24 rfl (lv_at hl 3 rfl) ?_
        refine z_isub S dX7_hasCells_25 ?_
        refine z_icmp_gt (tgt := 33) S dX7_hasCells_26 (by decide) (by omega) (fun c_26 => ?_) (fun c_26 => ?_)
        · skip
          refine z_iconst S dX7_hasCells_33 ?_
          exact hQ (0) (by omega) (by omega) _ _ dX7_hasCells_34
        · skip
          refine z_iconst S dX7_hasCells_29 ?_
          refine z_goto (tgt := 34) S dX7_hasCells_30 (by decide) ?_
          exact hQ (1) (by omega) (by omega) _ _ dX7_hasCells_34

set_option maxHeartbeats 1000000 in
set_option maxRecDepth 20000 in
theorem c_X7_standOf (l : Launch) (E : zE) (h : Nat) (a0 : Nat) (a1 : Nat) (a2 : Nat) (ce : Int → Int) (la : Int → Int) (si : Int → Int) (k : Int) (i : Int) (hk : 0 ≤ k ∧ k ≤ 3) (h_i : -2147483648 ≤ i ∧ i ≤ 2147483647) (hls : zLs la si) : zRi l E yX7_standOf wsX7_standOf (zr 2 0 0) [.ref h, .int (jI (k)), .int (jI (i))] (fun H => zP E ([(h, .inr (7, [.ref a0, .ref a1, .ref a2])), (a0, eI E 400 ce), (a1, eI E 4 la), (a2, eI E 4 si)]) H) (fun r => ((0 ≤ i ∧ i < si k) ∧ r = 100 * k + i) ∨ ((i < 0 ∨ si k ≤ i) ∧ r = -1)) := by
  refine zRi_of (own := RX7) (cc := cX7_standOf) (maxL := 4) (by decide) rfl (Nat.le_of_ble_eq_true rfl) rfl ?_
  intro p e s m args below meth c Q S hK hP hQ ls hl
  have hl : lv_has ls 4 [(0, .ref h), (1, .int (jI (k))), (2, .int (jI (i)))] := hl
  refine lv_iload_n S.1 S.2.1 dX7_standOf_0 rfl (lv_at hl 1 rfl) ?_
  refine z_bipush S (by decide +kernel) dX7_standOf_1 ?_
  refine z_imul S dX7_standOf_3 ?_
  refine lv_iload_n S.1 S.2.1 dX7_standOf_4 rfl (lv_at hl 2 rfl) ?_
  refine z_iadd S dX7_standOf_5 ?_
  refine lv_istore_n (lv' := [(3, .int (jI ((k * 100) + i))), (0, .ref h), (1, .int (jI (k))), (2, .int (jI (i)))]) S.1 S.2.1 dX7_standOf_6 rfl hl (by decide) rfl (fun ls hl => ?_)
  refine lv_iload_n S.1 S.2.1 dX7_standOf_7 rfl (lv_at hl 3 rfl) ?_
  refine z_if_lt (tgt := 37) S dX7_standOf_8 (by decide) (by omega) (fun c_8 => ?_) (fun c_8 => ?_)
  · skip
    refine z_iconst S dX7_standOf_37 ?_
    exact hQ (-1) (by omega) _ _ dX7_standOf_38
  · skip
    refine lv_iload_n S.1 S.2.1 dX7_standOf_11 rfl (lv_at hl 3 rfl) ?_
    refine lv_aload_n S.1 S.2.1 dX7_standOf_12 rfl (lv_at hl 1 rfl) ?_
    refine lv_iload_n S.1 S.2.1 dX7_standOf_13 rfl (lv_at hl 2 rfl) ?_
    refine z_ri (z_rV S hK (c_X7_sizeOf l E h a0 a1 a2 ce la si k (by omega)) gX7_standOf_X7_sizeOf rfl hv_X7_sizeOf ⟨Nat.le_of_ble_eq_true rfl, Nat.le_of_ble_eq_true rfl⟩ (va_recv hK hP (ci := 7) (q0 := 0) rfl rfl) hP hl.1 rfl (Nat.le_of_ble_eq_true rfl) ⟨by decide, by decide⟩ rfl dX7_standOf_14) (fun r_14 h_14 => ?_)
    rw [h_14]
    have hl2 := hls k (by omega) (by omega)
    refine z_icmp_ge (tgt := 37) S dX7_standOf_17 (by decide) (by omega) (fun c_17 => ?_) (fun c_17 => ?_)
    · skip
      refine z_iconst S dX7_standOf_37 ?_
      exact hQ (-1) (by omega) _ _ dX7_standOf_38
    · skip
      refine lv_iload_n S.1 S.2.1 dX7_standOf_20 rfl (lv_at hl 0 rfl) ?_
      refine z_if_lt (tgt := 37) S dX7_standOf_21 (by decide) (by omega) (fun c_21 => ?_) (fun c_21 => ?_)
      · omega
      · skip
        refine lv_iload_n S.1 S.2.1 dX7_standOf_24 rfl (lv_at hl 0 rfl) ?_
        refine lv_aload_n S.1 S.2.1 dX7_standOf_25 rfl (lv_at hl 1 rfl) ?_
        refine z_get S hK hP 0 rfl rfl 0 (by decide) i_X7_standOf_7 q_X7_standOf_1 rfl dX7_standOf_26 ?_
        refine z_alen S hK hP 1 rfl dX7_standOf_29 ?_
        refine z_icmp_ge (tgt := 37) S dX7_standOf_30 (by decide) (by omega) (fun c_30 => ?_) (fun c_30 => ?_)
        · omega
        · skip
          refine lv_iload_n S.1 S.2.1 dX7_standOf_33 rfl (lv_at hl 0 rfl) ?_
          refine z_goto (tgt := 38) S dX7_standOf_34 (by decide) ?_
          exact hQ ((k * 100) + i) (by omega) _ _ dX7_standOf_38

set_option maxHeartbeats 1000000 in
set_option maxRecDepth 20000 in
theorem c_X7_hasCell (l : Launch) (E : zE) (h : Nat) (a0 : Nat) (a1 : Nat) (a2 : Nat) (ce : Int → Int) (la : Int → Int) (si : Int → Int) (k : Int) (i : Int) (hk : 0 ≤ k ∧ k ≤ 3) (h_i : -2147483648 ≤ i ∧ i ≤ 2147483647) (hls : zLs la si) : zRi l E yX7_hasCell wsX7_hasCell (zr 3 0 0) [.ref h, .int (jI (k)), .int (jI (i))] (fun H => zP E ([(h, .inr (7, [.ref a0, .ref a1, .ref a2])), (a0, eI E 400 ce), (a1, eI E 4 la), (a2, eI E 4 si)]) H) (fun r => (r = 1 ∧ (0 ≤ i ∧ i < si k)) ∨ (r = 0 ∧ ¬ (0 ≤ i ∧ i < si k))) := by
  refine zRz_of (own := RX7) (cc := cX7_hasCell) (maxL := 3) (by decide) rfl (Nat.le_of_ble_eq_true rfl) rfl ?_
  intro p e s m args below meth c Q S hK hP hQ ls hl
  have hl : lv_has ls 3 [(0, .ref h), (1, .int (jI (k))), (2, .int (jI (i)))] := hl
  refine lv_aload_n S.1 S.2.1 dX7_hasCell_0 rfl (lv_at hl 0 rfl) ?_
  refine lv_iload_n S.1 S.2.1 dX7_hasCell_1 rfl (lv_at hl 1 rfl) ?_
  refine lv_iload_n S.1 S.2.1 dX7_hasCell_2 rfl (lv_at hl 2 rfl) ?_
  refine z_ri (z_rV S hK (c_X7_standOf l E h a0 a1 a2 ce la si k i (by omega) (by omega) (hls)) gX7_hasCell_X7_standOf rfl hv_X7_standOf ⟨Nat.le_of_ble_eq_true rfl, Nat.le_of_ble_eq_true rfl⟩ (va_recv hK hP (ci := 7) (q0 := 0) rfl rfl) hP hl.1 rfl (Nat.le_of_ble_eq_true rfl) ⟨by decide, by decide⟩ rfl dX7_hasCell_3) (fun r_3 h_3 => ?_)
  have hl2 := hls k (by omega) (by omega)
  refine z_if_lt (tgt := 13) S dX7_hasCell_6 (by decide) (by omega) (fun c_6 => ?_) (fun c_6 => ?_)
  · skip
    refine z_iconst S dX7_hasCell_13 ?_
    exact hQ (0) (by omega) (by omega) _ _ dX7_hasCell_14
  · skip
    refine z_iconst S dX7_hasCell_9 ?_
    refine z_goto (tgt := 14) S dX7_hasCell_10 (by decide) ?_
    exact hQ (1) (by omega) (by omega) _ _ dX7_hasCell_14

set_option maxHeartbeats 1000000 in
set_option maxRecDepth 20000 in
theorem c_X7_at (l : Launch) (E : zE) (h : Nat) (a0 : Nat) (a1 : Nat) (a2 : Nat) (ce : Int → Int) (la : Int → Int) (si : Int → Int) (k : Int) (i : Int) (hk : 0 ≤ k ∧ k ≤ 3) (h_i : -2147483648 ≤ i ∧ i ≤ 2147483647) (hls : zLs la si) : zRi l E yX7_at wsX7_at (zr 3 0 0) [.ref h, .int (jI (k)), .int (jI (i))] (fun H => zP E ([(h, .inr (7, [.ref a0, .ref a1, .ref a2])), (a0, eI E 400 ce), (a1, eI E 4 la), (a2, eI E 4 si)]) H) (fun r => ((0 ≤ i ∧ i < si k) ∧ r = ce (100 * k + i)) ∨ ((i < 0 ∨ si k ≤ i) ∧ r = 0)) := by
  refine zRi_of (own := RX7) (cc := cX7_at) (maxL := 4) (by decide) rfl (Nat.le_of_ble_eq_true rfl) rfl ?_
  intro p e s m args below meth c Q S hK hP hQ ls hl
  have hl : lv_has ls 4 [(0, .ref h), (1, .int (jI (k))), (2, .int (jI (i)))] := hl
  refine lv_aload_n S.1 S.2.1 dX7_at_0 rfl (lv_at hl 0 rfl) ?_
  refine lv_iload_n S.1 S.2.1 dX7_at_1 rfl (lv_at hl 1 rfl) ?_
  refine lv_iload_n S.1 S.2.1 dX7_at_2 rfl (lv_at hl 2 rfl) ?_
  refine z_ri (z_rV S hK (c_X7_standOf l E h a0 a1 a2 ce la si k i (by omega) (by omega) (hls)) gX7_at_X7_standOf rfl hv_X7_standOf ⟨Nat.le_of_ble_eq_true rfl, Nat.le_of_ble_eq_true rfl⟩ (va_recv hK hP (ci := 7) (q0 := 0) rfl rfl) hP hl.1 rfl (Nat.le_of_ble_eq_true rfl) ⟨by decide, by decide⟩ rfl dX7_at_3) (fun r_3 h_3 => ?_)
  have hl2 := hls k (by omega) (by omega)
  refine lv_istore_n (lv' := [(3, .int (jI (r_3))), (0, .ref h), (1, .int (jI (k))), (2, .int (jI (i)))]) S.1 S.2.1 dX7_at_6 rfl hl (by decide) rfl (fun ls hl => ?_)
  refine lv_iload_n S.1 S.2.1 dX7_at_7 rfl (lv_at hl 0 rfl) ?_
  refine z_if_ge (tgt := 15) S dX7_at_8 (by decide) (by omega) (fun c_8 => ?_) (fun c_8 => ?_)
  · skip
    refine lv_aload_n S.1 S.2.1 dX7_at_15 rfl (lv_at hl 1 rfl) ?_
    refine z_get S hK hP 0 rfl rfl 0 (by decide) i_X7_at_7 q_X7_at_1 rfl dX7_at_16 ?_
    refine lv_iload_n S.1 S.2.1 dX7_at_19 rfl (lv_at hl 0 rfl) ?_
    refine z_iald S hK hP 1 rfl (by omega) dX7_at_20 ?_
    exact hQ (ce (r_3)) (by first | exact Or.inr ⟨by omega, rfl⟩ | exact Or.inl ⟨by omega, by rw [show r_3 = 100 * k + i by omega]⟩) _ _ dX7_at_21
  · skip
    refine z_iconst S dX7_at_11 ?_
    refine z_goto (tgt := 21) S dX7_at_12 (by decide) ?_
    exact hQ (0) (by first | exact Or.inr ⟨by omega, rfl⟩ | exact Or.inl ⟨by omega, by rw [show r_3 = 100 * k + i by omega]⟩) _ _ dX7_at_21

set_option maxHeartbeats 1000000 in
set_option maxRecDepth 20000 in
theorem c_X7_cut (l : Launch) (E : zE) (v : Int) (lane : Int) (hlane : -1 ≤ lane ∧ lane ≤ 2) : zRi l E yX7_cut wsX7_cut (zr 1 0 0) [.int (jI (v)), .int (jI (lane))] (fun _ => True) (fun r => r = zcut lane v) := by
  refine zRi_of (own := RX7) (cc := cX7_cut) (maxL := 2) (by decide) rfl (Nat.le_of_ble_eq_true rfl) rfl ?_
  intro p e s m args below meth c Q S hK hP hQ ls hl
  have hl : lv_has ls 2 [(0, .int (jI (v))), (1, .int (jI (lane)))] := hl
  refine lv_iload_n S.1 S.2.1 dX7_cut_0 rfl (lv_at hl 1 rfl) ?_
  refine z_if_ne (tgt := 7) S dX7_cut_1 (by decide) (by omega) (fun c_1 => ?_) (fun c_1 => ?_)
  · skip
    refine lv_iload_n S.1 S.2.1 dX7_cut_7 rfl (lv_at hl 1 rfl) ?_
    refine z_iconst S dX7_cut_8 ?_
    refine z_icmp_ne (tgt := 17) S dX7_cut_9 (by decide) (by omega) (fun c_9 => ?_) (fun c_9 => ?_)
    · skip
      refine lv_iload_n S.1 S.2.1 dX7_cut_17 rfl (lv_at hl 0 rfl) ?_
      exact hQ (v) (by unfold zcut; first | rw [if_pos (by omega)] | rw [if_neg (by omega), if_pos (by omega)] | rw [if_neg (by omega), if_neg (by omega)]) _ _ dX7_cut_18
    · skip
      refine lv_iload_n S.1 S.2.1 dX7_cut_12 rfl (lv_at hl 0 rfl) ?_
      refine z_i2s S dX7_cut_13 ?_
      refine z_goto (tgt := 18) S dX7_cut_14 (by decide) ?_
      exact hQ ((v).bmod 65536) (by unfold zcut; first | rw [if_pos (by omega)] | rw [if_neg (by omega), if_pos (by omega)] | rw [if_neg (by omega), if_neg (by omega)]) _ _ dX7_cut_18
  · skip
    refine lv_iload_n S.1 S.2.1 dX7_cut_4 rfl (lv_at hl 0 rfl) ?_
    refine z_i2b S dX7_cut_5 ?_
    exact hQ ((v).bmod 256) (by unfold zcut; first | rw [if_pos (by omega)] | rw [if_neg (by omega), if_pos (by omega)] | rw [if_neg (by omega), if_neg (by omega)]) _ _ dX7_cut_6

set_option maxHeartbeats 1000000 in
set_option maxRecDepth 20000 in
theorem c_X7_set (l : Launch) (E : zE) (h : Nat) (a0 : Nat) (a1 : Nat) (a2 : Nat) (ce : Int → Int) (la : Int → Int) (si : Int → Int) (k : Int) (i : Int) (v : Int) (hk : 0 ≤ k ∧ k ≤ 3) (h_i : -2147483648 ≤ i ∧ i ≤ 2147483647) (hls : zLs la si) : zMv l E yX7_set wsX7_set (zr 4 0 0) [.ref h, .int (jI (k)), .int (jI (i)), .int (jI (v))] ([(h, .inr (7, [.ref a0, .ref a1, .ref a2])), (a0, eI E 400 ce), (a1, eI E 4 la), (a2, eI E 4 si)]) (fun _ => True) (fun (u : Int → Int) => ((0 ≤ i ∧ i < si k) ∧ u = zu ce (100 * k + i) (zcut (la k) v)) ∨ ((i < 0 ∨ si k ≤ i) ∧ u = ce)) (fun (u : Int → Int) => [(h, .inr (7, [.ref a0, .ref a1, .ref a2])), (a0, eI E 400 u), (a1, eI E 4 la), (a2, eI E 4 si)]) 0 0 := by
  refine zMv_of (own := RX7) (cc := cX7_set) (maxL := 5) (by decide) rfl (Nat.le_of_ble_eq_true rfl) rfl ?_
  intro p e s m args below meth c Q A S hK hini hA hS hP hD hAe hG hQ ls hl
  have hl : lv_has ls 5 [(0, .ref h), (1, .int (jI (k))), (2, .int (jI (i))), (3, .int (jI (v)))] := hl
  refine lv_aload_n S.1 S.2.1 dX7_set_0 rfl (lv_at hl 0 rfl) ?_
  refine lv_iload_n S.1 S.2.1 dX7_set_1 rfl (lv_at hl 1 rfl) ?_
  refine lv_iload_n S.1 S.2.1 dX7_set_2 rfl (lv_at hl 2 rfl) ?_
  refine z_ri (z_rV S hK (c_X7_standOf l E h a0 a1 a2 ce la si k i (by omega) (by omega) (hls)) gX7_set_X7_standOf rfl hv_X7_standOf ⟨Nat.le_of_ble_eq_true rfl, Nat.le_of_ble_eq_true rfl⟩ (va_recv hK hP (ci := 7) (q0 := 0) rfl rfl) hP hl.1 rfl (Nat.le_of_ble_eq_true rfl) ⟨by decide, by decide⟩ rfl dX7_set_3) (fun r_3 h_3 => ?_)
  refine lv_istore (lv' := [(4, .int (jI (r_3))), (0, .ref h), (1, .int (jI (k))), (2, .int (jI (i))), (3, .int (jI (v)))]) S.1 S.2.1 dX7_set_6 hl (by decide) rfl (fun ls hl => ?_)
  have hl2 := hls k (by omega) (by omega)
  refine lv_iload S.1 S.2.1 dX7_set_8 (lv_at hl 0 rfl) ?_
  refine z_if_lt (tgt := 29) S dX7_set_10 (by decide) (by omega) (fun c_10 => ?_) (fun c_10 => ?_)
  · skip
    exact hQ (ce) _ _ (by first | exact Or.inr ⟨by omega, rfl⟩ | exact Or.inl ⟨by omega, by rw [show r_3 = 100 * k + i by omega]⟩) hP hD hS _ _ dX7_set_29
  · skip
    refine lv_aload_n S.1 S.2.1 dX7_set_13 rfl (lv_at hl 1 rfl) ?_
    refine z_get S hK hP 0 rfl rfl 0 (by decide) i_X7_set_7 q_X7_set_1 rfl dX7_set_14 ?_
    refine lv_iload S.1 S.2.1 dX7_set_17 (lv_at hl 0 rfl) ?_
    refine lv_iload_n S.1 S.2.1 dX7_set_19 rfl (lv_at hl 4 rfl) ?_
    refine lv_aload_n S.1 S.2.1 dX7_set_20 rfl (lv_at hl 1 rfl) ?_
    refine lv_iload_n S.1 S.2.1 dX7_set_21 rfl (lv_at hl 2 rfl) ?_
    refine z_ri (z_rV S hK (c_X7_laneOf l E h a0 a1 a2 ce la si k (by omega)) gX7_set_X7_laneOf rfl hv_X7_laneOf ⟨Nat.le_of_ble_eq_true rfl, Nat.le_of_ble_eq_true rfl⟩ (va_recv hK hP (ci := 7) (q0 := 0) rfl rfl) hP hl.1 rfl (Nat.le_of_ble_eq_true rfl) ⟨by decide, by decide⟩ rfl dX7_set_22) (fun r_22 h_22 => ?_)
    rw [h_22]
    refine z_ri (z_rS S hK (c_X7_cut l E v (la k) (by omega)) gX7_set_X7_cut rfl hs_X7_cut ⟨Nat.le_of_ble_eq_true rfl, Nat.le_of_ble_eq_true rfl⟩ trivial hl.1 rfl (Nat.le_of_ble_eq_true rfl) ⟨by decide, by decide⟩ rfl dX7_set_25) (fun r_25 h_25 => ?_)
    rw [h_25]
    refine z_iast S hK hP hD hS 1 rfl (by omega) dX7_set_28 (fun H locs hP hD hS => ?_)
    have hP : zP E ([(h, .inr (7, [.ref a0, .ref a1, .ref a2])), (a0, eI E 400 (zu ce r_3 (zcut ((la k)) v))), (a1, eI E 4 la), (a2, eI E 4 si)]) H := hP
    have hD : va_D A ([(h, .inr (7, [.ref a0, .ref a1, .ref a2])), (a0, eI E 400 (zu ce r_3 (zcut ((la k)) v))), (a1, eI E 4 la), (a2, eI E 4 si)]) := hD
    exact hQ (zu ce r_3 (zcut ((la k)) v)) _ _ (by first | exact Or.inr ⟨by omega, rfl⟩ | exact Or.inl ⟨by omega, by rw [show r_3 = 100 * k + i by omega]⟩) hP hD hS _ _ dX7_set_29

set_option maxHeartbeats 1000000 in
set_option maxRecDepth 20000 in
theorem c_X7_renew (l : Launch) (E : zE) (h : Nat) (a0 : Nat) (a1 : Nat) (a2 : Nat) (ce : Int → Int) (la : Int → Int) (si : Int → Int) (k : Int) (lane : Int) (n : Int) (hk : 0 ≤ k ∧ k ≤ 3) (hlane : -1 ≤ lane ∧ lane ≤ 2) (hn : 0 ≤ n ∧ n ≤ 100) (hls : zLs la si) : zMv l E yX7_renew wsX7_renew (zr 5 0 0) [.ref h, .int (jI (k)), .int (jI (lane)), .int (jI (n))] ([(h, .inr (7, [.ref a0, .ref a1, .ref a2])), (a0, eI E 400 ce), (a1, eI E 4 la), (a2, eI E 4 si)]) (fun _ => True) (fun (u : Unit) => True) (fun (u : Unit) => [(h, .inr (7, [.ref a0, .ref a1, .ref a2])), (a0, eI E 400 (zfill ce (100 * k) n 0)), (a1, eI E 4 (zu la k lane)), (a2, eI E 4 (zu si k n))]) 0 0 := by
  refine zMv_of (own := RX7) (cc := cX7_renew) (maxL := 5) (by decide) rfl (Nat.le_of_ble_eq_true rfl) rfl ?_
  intro p e s m args below meth c Q A S hK hini hA hS hP hD hAe hG hQ ls hl
  have hl : lv_has ls 5 [(0, .ref h), (1, .int (jI (k))), (2, .int (jI (lane))), (3, .int (jI (n)))] := hl
  refine lv_iload_n S.1 S.2.1 dX7_renew_0 rfl (lv_at hl 1 rfl) ?_
  refine z_if_lt (tgt := 22) S dX7_renew_1 (by decide) (by omega) (fun c_1 => ?_) (fun c_1 => ?_)
  · omega
  · skip
    refine lv_iload_n S.1 S.2.1 dX7_renew_4 rfl (lv_at hl 1 rfl) ?_
    refine lv_aload_n S.1 S.2.1 dX7_renew_5 rfl (lv_at hl 0 rfl) ?_
    refine z_get S hK hP 0 rfl rfl 1 (by decide) i_X7_renew_7 q_X7_renew_1 rfl dX7_renew_6 ?_
    refine z_alen S hK hP 2 rfl dX7_renew_9 ?_
    refine z_icmp_ge (tgt := 22) S dX7_renew_10 (by decide) (by omega) (fun c_10 => ?_) (fun c_10 => ?_)
    · omega
    · skip
      refine lv_iload_n S.1 S.2.1 dX7_renew_13 rfl (lv_at hl 1 rfl) ?_
      refine lv_aload_n S.1 S.2.1 dX7_renew_14 rfl (lv_at hl 0 rfl) ?_
      refine z_get S hK hP 0 rfl rfl 2 (by decide) i_X7_renew_7 q_X7_renew_2 rfl dX7_renew_15 ?_
      refine z_alen S hK hP 3 rfl dX7_renew_18 ?_
      refine z_icmp_lt (tgt := 23) S dX7_renew_19 (by decide) (by omega) (fun c_19 => ?_) (fun c_19 => ?_)
      · skip
        refine lv_aload_n S.1 S.2.1 dX7_renew_23 rfl (lv_at hl 0 rfl) ?_
        refine z_get S hK hP 0 rfl rfl 1 (by decide) i_X7_renew_7 q_X7_renew_1 rfl dX7_renew_24 ?_
        refine lv_iload_n S.1 S.2.1 dX7_renew_27 rfl (lv_at hl 1 rfl) ?_
        refine lv_iload_n S.1 S.2.1 dX7_renew_28 rfl (lv_at hl 2 rfl) ?_
        refine z_iast S hK hP hD hS 2 rfl (by omega) dX7_renew_29 (fun H locs hP hD hS => ?_)
        have hP : zP E ([(h, .inr (7, [.ref a0, .ref a1, .ref a2])), (a0, eI E 400 ce), (a1, eI E 4 (zu la k lane)), (a2, eI E 4 si)]) H := hP
        have hD : va_D A ([(h, .inr (7, [.ref a0, .ref a1, .ref a2])), (a0, eI E 400 ce), (a1, eI E 4 (zu la k lane)), (a2, eI E 4 si)]) := hD
        refine lv_aload_n S.1 S.2.1 dX7_renew_30 rfl (lv_at hl 0 rfl) ?_
        refine z_get S hK hP 0 rfl rfl 2 (by decide) i_X7_renew_7 q_X7_renew_2 rfl dX7_renew_31 ?_
        refine lv_iload_n S.1 S.2.1 dX7_renew_34 rfl (lv_at hl 1 rfl) ?_
        refine lv_iload_n S.1 S.2.1 dX7_renew_35 rfl (lv_at hl 3 rfl) ?_
        refine z_iast S hK hP hD hS 3 rfl (by omega) dX7_renew_36 (fun H locs hP hD hS => ?_)
        have hP : zP E ([(h, .inr (7, [.ref a0, .ref a1, .ref a2])), (a0, eI E 400 ce), (a1, eI E 4 (zu la k lane)), (a2, eI E 4 (zu si k n))]) H := hP
        have hD : va_D A ([(h, .inr (7, [.ref a0, .ref a1, .ref a2])), (a0, eI E 400 ce), (a1, eI E 4 (zu la k lane)), (a2, eI E 4 (zu si k n))]) := hD
        refine z_iconst S dX7_renew_37 ?_
        refine lv_istore (lv' := [(4, .int (jI (0))), (0, .ref h), (1, .int (jI (k))), (2, .int (jI (lane))), (3, .int (jI (n)))]) S.1 S.2.1 dX7_renew_38 hl (by decide) rfl (fun ls hl => ?_)
        suffices HL_1 : ∀ (n_2 : Nat) (i : Int) (g : Int → Int), (n - i).toNat < n_2 → (0 ≤ i ∧ i ≤ n) → (g = zfill ce (100 * k) i 0) → ∀ (H : Heap) (locs : List Loc), zP E ([(h, .inr (7, [.ref a0, .ref a1, .ref a2])), (a0, eI E 400 g), (a1, eI E 4 (zu la k lane)), (a2, eI E 4 (zu si k n))]) H → va_D A ([(h, .inr (7, [.ref a0, .ref a1, .ref a2])), (a0, eI E 400 g), (a1, eI E 4 (zu la k lane)), (a2, eI E 4 (zu si k n))]) → va_S A s.heap H locs → ∀ (ls : Array Slot), lv_has ls 5 [(4, .int (jI (i))), (0, .ref h), (1, .int (jI (k))), (2, .int (jI (lane))), (3, .int (jI (n)))] → W p l e (zr 5 0 0) s m args below meth c H locs 0 0 Q (F0 m 40 ls []) from
          HL_1 _ 0 ce (Nat.lt_succ_self _) (by omega) ((zfill_0 _ _ _).symm) _ _ hP hD hS ls (lv_sub hl [0, 1, 2, 3, 4] rfl)
        intro n_2
        induction n_2 with
        | zero => intro i g hm hi hg; exact absurd hm (Nat.not_lt_zero _)
        | succ n_2 ih_3 =>
          intro i g hm hi hg H locs hP hD hS ls hl
          refine lv_iload S.1 S.2.1 dX7_renew_40 (lv_at hl 0 rfl) ?_
          refine lv_iload_n S.1 S.2.1 dX7_renew_42 rfl (lv_at hl 4 rfl) ?_
          refine z_icmp_ge (tgt := 60) S dX7_renew_43 (by decide) (by omega) (fun c_43 => ?_) (fun c_43 => ?_)
          · skip
            have hge : g = zfill ce (100 * k) n 0 := by rw [hg, show i = n by omega]
            subst hge
            exact hQ (()) _ _ (trivial) hP hD hS _ _ dX7_renew_60
          · skip
            refine lv_aload_n S.1 S.2.1 dX7_renew_46 rfl (lv_at hl 1 rfl) ?_
            refine lv_iload_n S.1 S.2.1 dX7_renew_47 rfl (lv_at hl 2 rfl) ?_
            refine lv_iload S.1 S.2.1 dX7_renew_48 (lv_at hl 0 rfl) ?_
            refine z_iconst S dX7_renew_50 ?_
            refine z_mvw (z_mV S hK (c_X7_set l E h a0 a1 a2 g (zu la k lane) (zu si k n) k i 0 (by omega) (by omega) (zLs_renew hls hlane hn) _) gX7_renew_X7_set rfl hv_X7_set ⟨Nat.le_of_ble_eq_true rfl, Nat.le_of_ble_eq_true rfl⟩ (va_recv hK hP (ci := 7) (q0 := 0) rfl rfl) hP hD trivial hl.1 rfl (Nat.le_of_ble_eq_true rfl) ⟨by decide, by decide⟩ rfl dX7_renew_51) hD hS hA (fun u H locs h_51 hP hD hS => ?_)
            obtain ⟨u51_ce, u51_ce_e⟩ : ∃ z, z = u := ⟨_, rfl⟩
            subst u51_ce_e
            try dsimp only at h_51
            have hP : zP E ([(h, .inr (7, [.ref a0, .ref a1, .ref a2])), (a0, eI E 400 u51_ce), (a1, eI E 4 (zu la k lane)), (a2, eI E 4 (zu si k n))]) H := hP
            have hD : va_D A ([(h, .inr (7, [.ref a0, .ref a1, .ref a2])), (a0, eI E 400 u51_ce), (a1, eI E 4 (zu la k lane)), (a2, eI E 4 (zu si k n))]) := hD
            have hg2 : u51_ce = zfill ce (100 * k) (i + 1) 0 := by
              rcases h_51 with ⟨q1, q2⟩ | ⟨q1, q2⟩
              · rw [q2, zcut_0, hg]; exact zfill_next ce (by omega)
              · rw [zu_s] at q1; omega
            refine z_iinc (lv' := [(4, .int (jI (i + 1))), (0, .ref h), (1, .int (jI (k))), (2, .int (jI (lane))), (3, .int (jI (n)))]) S hl (k := 0) rfl (by decide) rfl dX7_renew_54 (fun ls hl => ?_)
            refine z_goto (tgt := 40) S dX7_renew_57 (by decide) ?_
            exact ih_3 (i + 1) u51_ce (by omega) (by omega) (hg2) _ _ hP hD hS ls (lv_sub hl [0, 1, 2, 3, 4] rfl)
      · omega

set_option maxHeartbeats 1000000 in
set_option maxRecDepth 20000 in
theorem c_X7_clear (l : Launch) (E : zE) (h : Nat) (a0 : Nat) (a1 : Nat) (a2 : Nat) (ce : Int → Int) (la : Int → Int) (si : Int → Int) (k : Int) (hk : 0 ≤ k ∧ k ≤ 3) (hls : zLs la si) : zMv l E yX7_clear wsX7_clear (zr 6 0 0) [.ref h, .int (jI (k))] ([(h, .inr (7, [.ref a0, .ref a1, .ref a2])), (a0, eI E 400 ce), (a1, eI E 4 la), (a2, eI E 4 si)]) (fun _ => True) (fun (u : Unit) => True) (fun (u : Unit) => [(h, .inr (7, [.ref a0, .ref a1, .ref a2])), (a0, eI E 400 (zfill ce (100 * k) 0 0)), (a1, eI E 4 (zu la k (-1))), (a2, eI E 4 (zu si k 0))]) 0 0 := by
  refine zMv_of (own := RX7) (cc := cX7_clear) (maxL := 2) (by decide) rfl (Nat.le_of_ble_eq_true rfl) rfl ?_
  intro p e s m args below meth c Q A S hK hini hA hS hP hD hAe hG hQ ls hl
  have hl : lv_has ls 2 [(0, .ref h), (1, .int (jI (k)))] := hl
  refine lv_aload_n S.1 S.2.1 dX7_clear_0 rfl (lv_at hl 0 rfl) ?_
  refine lv_iload_n S.1 S.2.1 dX7_clear_1 rfl (lv_at hl 1 rfl) ?_
  refine z_iconst S dX7_clear_2 ?_
  refine z_iconst S dX7_clear_3 ?_
  refine z_mvw (z_mV S hK (c_X7_renew l E h a0 a1 a2 ce la si k (-1) 0 (by omega) (by omega) (by omega) (hls) _) gX7_clear_X7_renew rfl hv_X7_renew ⟨Nat.le_of_ble_eq_true rfl, Nat.le_of_ble_eq_true rfl⟩ (va_recv hK hP (ci := 7) (q0 := 0) rfl rfl) hP hD trivial hl.1 rfl (Nat.le_of_ble_eq_true rfl) ⟨by decide, by decide⟩ rfl dX7_clear_4) hD hS hA (fun u H locs h_4 hP hD hS => ?_)
  have hP : zP E ([(h, .inr (7, [.ref a0, .ref a1, .ref a2])), (a0, eI E 400 (zfill ce (100 * k) 0 0)), (a1, eI E 4 (zu la k ((-1)))), (a2, eI E 4 (zu si k 0))]) H := hP
  have hD : va_D A ([(h, .inr (7, [.ref a0, .ref a1, .ref a2])), (a0, eI E 400 (zfill ce (100 * k) 0 0)), (a1, eI E 4 (zu la k ((-1)))), (a2, eI E 4 (zu si k 0))]) := hD
  exact hQ (()) _ _ (trivial) hP hD hS _ _ dX7_clear_7

set_option maxHeartbeats 1000000 in
set_option maxRecDepth 20000 in
theorem c_X7_move (l : Launch) (E : zE) (h : Nat) (a0 : Nat) (a1 : Nat) (a2 : Nat) (ce : Int → Int) (la : Int → Int) (si : Int → Int) (k : Int) (i : Int) (o : Int) (j : Int) (n : Int) (hk : 0 ≤ k ∧ k ≤ 3) (ho : 0 ≤ o ∧ o ≤ 3) (hr : (0 ≤ n ∧ 0 ≤ i ∧ i + n ≤ si k) ∧ 0 ≤ j ∧ j + n ≤ si o) (hls : zLs la si) : zMv l E yX7_move wsX7_move (zr 5 0 0) [.ref h, .int (jI (k)), .int (jI (i)), .int (jI (o)), .int (jI (j)), .int (jI (n))] ([(h, .inr (7, [.ref a0, .ref a1, .ref a2])), (a0, eI E 400 ce), (a1, eI E 4 la), (a2, eI E 4 si)]) (fun _ => True) (fun (u : Int → Int) => u = zcpy ce ce (100 * k + i) (100 * o + j) n) (fun (u : Int → Int) => [(h, .inr (7, [.ref a0, .ref a1, .ref a2])), (a0, eI E 400 u), (a1, eI E 4 la), (a2, eI E 4 si)]) 0 0 := by
  refine zMv_of (own := RX7) (cc := cX7_move) (maxL := 6) (by decide) rfl (Nat.le_of_ble_eq_true rfl) rfl ?_
  intro p e s m args below meth c Q A S hK hini hA hS hP hD hAe hG hQ ls hl
  have hl : lv_has ls 6 [(0, .ref h), (1, .int (jI (k))), (2, .int (jI (i))), (3, .int (jI (o))), (4, .int (jI (j))), (5, .int (jI (n)))] := hl
  have hl2 := hls k (by omega) (by omega)
  have hl3 := hls o (by omega) (by omega)
  refine lv_iload S.1 S.2.1 dX7_move_0 (lv_at hl 5 rfl) ?_
  refine z_if_le (tgt := 54) S dX7_move_2 (by decide) (by omega) (fun c_2 => ?_) (fun c_2 => ?_)
  · skip
    exact hQ (ce) _ _ (by first | (rw [show n = 0 by omega]; exact (zcpy_0 _ _ _ _).symm) | (congr 1 <;> omega)) hP hD hS _ _ dX7_move_54
  · skip
    refine lv_aload_n S.1 S.2.1 dX7_move_5 rfl (lv_at hl 0 rfl) ?_
    refine lv_iload_n S.1 S.2.1 dX7_move_6 rfl (lv_at hl 1 rfl) ?_
    refine lv_iload_n S.1 S.2.1 dX7_move_7 rfl (lv_at hl 2 rfl) ?_
    refine lv_iload S.1 S.2.1 dX7_move_8 (lv_at hl 5 rfl) ?_
    refine z_ri (z_rV S hK (c_X7_hasCells l E h a0 a1 a2 ce la si k i n (by omega) (by omega) (by omega) (hls)) gX7_move_X7_hasCells rfl hv_X7_hasCells ⟨Nat.le_of_ble_eq_true rfl, Nat.le_of_ble_eq_true rfl⟩ (va_recv hK hP (ci := 7) (q0 := 0) rfl rfl) hP hl.1 rfl (Nat.le_of_ble_eq_true rfl) ⟨by decide, by decide⟩ rfl dX7_move_10) (fun r_10 h_10 => ?_)
    refine z_if_eq (tgt := 54) S dX7_move_13 (by decide) (by omega) (fun c_13 => ?_) (fun c_13 => ?_)
    · omega
    · skip
      refine lv_aload_n S.1 S.2.1 dX7_move_16 rfl (lv_at hl 0 rfl) ?_
      refine lv_iload_n S.1 S.2.1 dX7_move_17 rfl (lv_at hl 3 rfl) ?_
      refine lv_iload S.1 S.2.1 dX7_move_18 (lv_at hl 4 rfl) ?_
      refine lv_iload S.1 S.2.1 dX7_move_20 (lv_at hl 5 rfl) ?_
      refine z_ri (z_rV S hK (c_X7_hasCells l E h a0 a1 a2 ce la si o j n (by omega) (by omega) (by omega) (hls)) gX7_move_X7_hasCells rfl hv_X7_hasCells ⟨Nat.le_of_ble_eq_true rfl, Nat.le_of_ble_eq_true rfl⟩ (va_recv hK hP (ci := 7) (q0 := 0) rfl rfl) hP hl.1 rfl (Nat.le_of_ble_eq_true rfl) ⟨by decide, by decide⟩ rfl dX7_move_22) (fun r_22 h_22 => ?_)
      refine z_if_eq (tgt := 54) S dX7_move_25 (by decide) (by omega) (fun c_25 => ?_) (fun c_25 => ?_)
      · omega
      · skip
        refine lv_aload_n S.1 S.2.1 dX7_move_28 rfl (lv_at hl 0 rfl) ?_
        refine z_get S hK hP 0 rfl rfl 0 (by decide) i_X7_move_7 q_X7_move_1 rfl dX7_move_29 ?_
        refine lv_iload_n S.1 S.2.1 dX7_move_32 rfl (lv_at hl 1 rfl) ?_
        refine z_bipush S (by decide +kernel) dX7_move_33 ?_
        refine z_imul S dX7_move_35 ?_
        refine lv_iload_n S.1 S.2.1 dX7_move_36 rfl (lv_at hl 2 rfl) ?_
        refine z_iadd S dX7_move_37 ?_
        refine lv_aload_n S.1 S.2.1 dX7_move_38 rfl (lv_at hl 0 rfl) ?_
        refine z_get S hK hP 0 rfl rfl 0 (by decide) i_X7_move_7 q_X7_move_1 rfl dX7_move_39 ?_
        refine lv_iload_n S.1 S.2.1 dX7_move_42 rfl (lv_at hl 3 rfl) ?_
        refine z_bipush S (by decide +kernel) dX7_move_43 ?_
        refine z_imul S dX7_move_45 ?_
        refine lv_iload S.1 S.2.1 dX7_move_46 (lv_at hl 4 rfl) ?_
        refine z_iadd S dX7_move_48 ?_
        refine lv_iload S.1 S.2.1 dX7_move_49 (lv_at hl 5 rfl) ?_
        refine z_acopy S hK hP hD hS 1 rfl (by omega) q_X7_move_2 q_X7_move_3 q_X7_move_4 q_X7_move_5 hl.1 (by decide) (by decide +kernel) dX7_move_51 (fun H locs hP hD hS => ?_)
        have hP : zP E ([(h, .inr (7, [.ref a0, .ref a1, .ref a2])), (a0, eI E 400 (zcpy ce ce ((k * 100) + i) ((o * 100) + j) n)), (a1, eI E 4 la), (a2, eI E 4 si)]) H := hP
        have hD : va_D A ([(h, .inr (7, [.ref a0, .ref a1, .ref a2])), (a0, eI E 400 (zcpy ce ce ((k * 100) + i) ((o * 100) + j) n)), (a1, eI E 4 la), (a2, eI E 4 si)]) := hD
        exact hQ (zcpy ce ce ((k * 100) + i) ((o * 100) + j) n) _ _ (by first | (rw [show n = 0 by omega]; exact (zcpy_0 _ _ _ _).symm) | (congr 1 <;> omega)) hP hD hS _ _ dX7_move_54
