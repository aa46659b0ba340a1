theorem hv_X8_leave : yX8_leave.cls = RX8 ∧ yX8_leave.cls ≠ "java/lang/invoke/MethodHandle" ∧ yX8_leave.cls ≠ "java/lang/invoke/VarHandle" ∧ (parseMethodDescriptor yX8_leave.desc).map (fun d => d.parameters.length) = some 1 := by decide +kernel
theorem i_X3_namedTelling_1 : ∀ w ∈ u_ws RX1 TX1 4, w ∈ wsX3_namedTelling := fun w h => List.mem_cons_of_mem _ (List.mem_append_left _ (List.mem_append_left _ (List.mem_append_left _ (List.mem_append_right _ h))))
theorem q_X3_namedTelling_1 : Cond.fieldLink RX3 13 "LivingNumbers$Named" "number" "I" ∈ wsX3_namedTelling := List.mem_of_getElem? (i := 1) rfl
theorem i_X3_namedTelling_2 : ∀ w ∈ u_ws RX2 TX2 4, w ∈ wsX3_namedTelling := fun w h => List.mem_cons_of_mem _ (List.mem_append_left _ (List.mem_append_left _ (List.mem_append_right _ h)))
theorem i_X3_namedTelling_3 : ∀ w ∈ u_ws RX3 TX3 4, w ∈ wsX3_namedTelling := fun w h => List.mem_cons_of_mem _ (List.mem_append_left _ (List.mem_append_right _ h))
theorem hv_X3_namedTelling : yX3_namedTelling.cls = RX3 ∧ yX3_namedTelling.cls ≠ "java/lang/invoke/MethodHandle" ∧ yX3_namedTelling.cls ≠ "java/lang/invoke/VarHandle" ∧ (parseMethodDescriptor yX3_namedTelling.desc).map (fun d => d.parameters.length) = some 1 := by decide +kernel
theorem hu_1__LLivingNumbers_Trace__I : "LivingNumbers$Named" ≠ "java/lang/invoke/MethodHandle" ∧ "LivingNumbers$Named" ≠ "java/lang/invoke/VarHandle" ∧ (parseMethodDescriptor "(LLivingNumbers$Trace;)I").map (fun d => d.parameters.length) = some 1 := by decide +kernel
theorem hp_X2_telling : yX2_telling.name ≠ "<init>" ∧ (parseMethodDescriptor yX2_telling.desc).map (fun d => d.parameters.length) = some 1 := by decide +kernel
set_option maxHeartbeats 1000000 in
set_option maxRecDepth 20000 in
theorem c_X3_namedTelling_1 (l : Launch) (E : zE) (h : Nat) (vl nb fr tl : Int) (t0 : Nat) (tr : Int) (ha : h ≠ t0) : zMi l E yX3_namedTelling wsX3_namedTelling (zr 2 0 0) [.ref h, .ref t0] ([(t0, .inr (8, [.int (jI tr)]))]) (fun H => zP E [(h, .inr (1, [.int (jI vl), .int (jI nb), .int (jI fr), .int (jI tl)]))] H) (fun r (u : Int) => r = nb ∧ u = 31 * tr + 1) (fun (u : Int) => [(t0, .inr (8, [.int (jI u)]))]) 0 0 := by
  refine zMi_of (own := RX3) (cc := cX3_namedTelling) (maxL := 2) (by decide) rfl (Nat.le_of_ble_eq_true rfl) rfl ?_
  intro p e s m args below meth c Q A S hK hA hS hP hD hAe hG hQ ls hl
  have hl : lv_has ls 2 [(0, .ref h), (1, .ref t0)] := hl
  have hNA := zRO_1 hG hAe (zNe_1 ha)
  refine lv_aload_n S.1 S.2.1 dX3_namedTelling_0 rfl (lv_at hl 1 rfl) ?_
  refine z_iconst S dX3_namedTelling_1 ?_
  refine z_mvw (z_mV S hK (c_X8_leave l E t0 tr 1 _) gX3_namedTelling_X8_leave rfl hv_X8_leave ⟨Nat.le_of_ble_eq_true rfl, Nat.le_of_ble_eq_true rfl⟩ (va_recv hK hP (ci := 8) (q0 := 0) rfl rfl) hP hD trivial hl.1 rfl (Nat.le_of_ble_eq_true rfl) ⟨by decide, by decide⟩ rfl dX3_namedTelling_2) hD hS hA (fun u H locs h_2 hP hD hS => ?_)
  have hP : zP E ([(t0, .inr (8, [.int (jI (31 * tr + 1))]))]) H := hP
  have hD : va_D A ([(t0, .inr (8, [.int (jI (31 * tr + 1))]))]) := hD
  refine lv_aload_n S.1 S.2.1 dX3_namedTelling_5 rfl (lv_at hl 0 rfl) ?_
  refine z_get S hK (zRO hG hS hNA) 0 rfl rfl 1 (by decide) i_X3_namedTelling_1 q_X3_namedTelling_1 rfl dX3_namedTelling_6 ?_
  exact hQ (nb) (31 * tr + 1) _ _ (⟨rfl, rfl⟩) hP hD hS _ _ dX3_namedTelling_9

set_option maxHeartbeats 1000000 in
set_option maxRecDepth 20000 in
theorem c_X3_namedTelling_2 (l : Launch) (E : zE) (h : Nat) (vl nb fr tl : Int) (t0 : Nat) (tr : Int) (ha : h ≠ t0) : zMi l E yX3_namedTelling wsX3_namedTelling (zr 2 0 0) [.ref h, .ref t0] ([(t0, .inr (8, [.int (jI tr)]))]) (fun H => zP E [(h, .inr (2, [.int (jI vl), .int (jI nb), .int (jI fr), .int (jI tl)]))] H) (fun r (u : Int) => r = nb ∧ u = 31 * tr + 1) (fun (u : Int) => [(t0, .inr (8, [.int (jI u)]))]) 0 0 := by
  refine zMi_of (own := RX3) (cc := cX3_namedTelling) (maxL := 2) (by decide) rfl (Nat.le_of_ble_eq_true rfl) rfl ?_
  intro p e s m args below meth c Q A S hK hA hS hP hD hAe hG hQ ls hl
  have hl : lv_has ls 2 [(0, .ref h), (1, .ref t0)] := hl
  have hNA := zRO_1 hG hAe (zNe_1 ha)
  refine lv_aload_n S.1 S.2.1 dX3_namedTelling_0 rfl (lv_at hl 1 rfl) ?_
  refine z_iconst S dX3_namedTelling_1 ?_
  refine z_mvw (z_mV S hK (c_X8_leave l E t0 tr 1 _) gX3_namedTelling_X8_leave rfl hv_X8_leave ⟨Nat.le_of_ble_eq_true rfl, Nat.le_of_ble_eq_true rfl⟩ (va_recv hK hP (ci := 8) (q0 := 0) rfl rfl) hP hD trivial hl.1 rfl (Nat.le_of_ble_eq_true rfl) ⟨by decide, by decide⟩ rfl dX3_namedTelling_2) hD hS hA (fun u H locs h_2 hP hD hS => ?_)
  have hP : zP E ([(t0, .inr (8, [.int (jI (31 * tr + 1))]))]) H := hP
  have hD : va_D A ([(t0, .inr (8, [.int (jI (31 * tr + 1))]))]) := hD
  refine lv_aload_n S.1 S.2.1 dX3_namedTelling_5 rfl (lv_at hl 0 rfl) ?_
  refine z_get S hK (zRO hG hS hNA) 0 rfl rfl 1 (by decide) i_X3_namedTelling_2 q_X3_namedTelling_1 rfl dX3_namedTelling_6 ?_
  exact hQ (nb) (31 * tr + 1) _ _ (⟨rfl, rfl⟩) hP hD hS _ _ dX3_namedTelling_9

set_option maxHeartbeats 1000000 in
set_option maxRecDepth 20000 in
theorem c_X3_namedTelling_3 (l : Launch) (E : zE) (h : Nat) (vl nb fr tl : Int) (t0 : Nat) (tr : Int) (ha : h ≠ t0) : zMi l E yX3_namedTelling wsX3_namedTelling (zr 2 0 0) [.ref h, .ref t0] ([(t0, .inr (8, [.int (jI tr)]))]) (fun H => zP E [(h, .inr (3, [.int (jI vl), .int (jI nb), .int (jI fr), .int (jI tl)]))] H) (fun r (u : Int) => r = nb ∧ u = 31 * tr + 1) (fun (u : Int) => [(t0, .inr (8, [.int (jI u)]))]) 0 0 := by
  refine zMi_of (own := RX3) (cc := cX3_namedTelling) (maxL := 2) (by decide) rfl (Nat.le_of_ble_eq_true rfl) rfl ?_
  intro p e s m args below meth c Q A S hK hA hS hP hD hAe hG hQ ls hl
  have hl : lv_has ls 2 [(0, .ref h), (1, .ref t0)] := hl
  have hNA := zRO_1 hG hAe (zNe_1 ha)
  refine lv_aload_n S.1 S.2.1 dX3_namedTelling_0 rfl (lv_at hl 1 rfl) ?_
  refine z_iconst S dX3_namedTelling_1 ?_
  refine z_mvw (z_mV S hK (c_X8_leave l E t0 tr 1 _) gX3_namedTelling_X8_leave rfl hv_X8_leave ⟨Nat.le_of_ble_eq_true rfl, Nat.le_of_ble_eq_true rfl⟩ (va_recv hK hP (ci := 8) (q0 := 0) rfl rfl) hP hD trivial hl.1 rfl (Nat.le_of_ble_eq_true rfl) ⟨by decide, by decide⟩ rfl dX3_namedTelling_2) hD hS hA (fun u H locs h_2 hP hD hS => ?_)
  have hP : zP E ([(t0, .inr (8, [.int (jI (31 * tr + 1))]))]) H := hP
  have hD : va_D A ([(t0, .inr (8, [.int (jI (31 * tr + 1))]))]) := hD
  refine lv_aload_n S.1 S.2.1 dX3_namedTelling_5 rfl (lv_at hl 0 rfl) ?_
  refine z_get S hK (zRO hG hS hNA) 0 rfl rfl 1 (by decide) i_X3_namedTelling_3 q_X3_namedTelling_1 rfl dX3_namedTelling_6 ?_
  exact hQ (nb) (31 * tr + 1) _ _ (⟨rfl, rfl⟩) hP hD hS _ _ dX3_namedTelling_9

set_option maxHeartbeats 1000000 in
set_option maxRecDepth 20000 in
theorem c_X3_telling_3 (l : Launch) (E : zE) (h : Nat) (vl nb fr tl : Int) (t0 : Nat) (tr : Int) (ha : h ≠ t0) : zMi l E yX3_telling wsX3_telling (zr 3 0 0) [.ref h, .ref t0] ([(t0, .inr (8, [.int (jI tr)]))]) (fun H => zP E [(h, .inr (3, [.int (jI vl), .int (jI nb), .int (jI fr), .int (jI tl)]))] H) (fun r (u : Int) => r = nb ∧ u = 31 * tr + 1) (fun (u : Int) => [(t0, .inr (8, [.int (jI u)]))]) 0 0 := by
  refine zMi_of (own := RX3) (cc := cX3_telling) (maxL := 2) (by decide) rfl (Nat.le_of_ble_eq_true rfl) rfl ?_
  intro p e s m args below meth c Q A S hK hA hS hP hD hAe hG hQ ls hl
  have hl : lv_has ls 2 [(0, .ref h), (1, .ref t0)] := hl
  have hNA := zRO_1 hG hAe (zNe_1 ha)
  refine lv_aload_n S.1 S.2.1 dX3_telling_0 rfl (lv_at hl 0 rfl) ?_
  refine lv_aload_n S.1 S.2.1 dX3_telling_1 rfl (lv_at hl 1 rfl) ?_
  refine z_miw (z_mV S hK (c_X3_namedTelling_3 l E h vl nb fr tl t0 tr ha _) gX3_telling_X3_namedTelling rfl hv_X3_namedTelling ⟨Nat.le_of_ble_eq_true rfl, Nat.le_of_ble_eq_true rfl⟩ (va_recv hK (zRO hG hS hNA) (ci := 3) (q0 := 0) rfl rfl) hP hD (zRO hG hS hNA) hl.1 rfl (Nat.le_of_ble_eq_true rfl) ⟨by decide, by decide⟩ rfl dX3_telling_2) hD hS hA (fun r_2 u H locs h_2 hP hD hS => ?_)
  obtain ⟨h_2a, h_2b⟩ := h_2
  rw [h_2a]
  subst h_2b
  have hP : zP E ([(t0, .inr (8, [.int (jI (31 * tr + 1))]))]) H := hP
  have hD : va_D A ([(t0, .inr (8, [.int (jI (31 * tr + 1))]))]) := hD
  exact hQ (nb) (31 * tr + 1) _ _ (⟨rfl, rfl⟩) hP hD hS _ _ dX3_telling_5

set_option maxHeartbeats 1000000 in
set_option maxRecDepth 20000 in
theorem c_X2_telling_1 (l : Launch) (E : zE) (h : Nat) (vl nb fr tl : Int) (t0 : Nat) (tr : Int) (ha : h ≠ t0) : zMi l E yX2_telling wsX2_telling (zr 3 0 0) [.ref h, .ref t0] ([(t0, .inr (8, [.int (jI tr)]))]) (fun H => zP E [(h, .inr (1, [.int (jI vl), .int (jI nb), .int (jI fr), .int (jI tl)]))] H) (fun r (u : Int) => r = nb + 100 ∧ u = 31 * (31 * tr + 2) + 1) (fun (u : Int) => [(t0, .inr (8, [.int (jI u)]))]) 0 0 := by
  refine zMi_of (own := RX2) (cc := cX2_telling) (maxL := 2) (by decide) rfl (Nat.le_of_ble_eq_true rfl) rfl ?_
  intro p e s m args below meth c Q A S hK hA hS hP hD hAe hG hQ ls hl
  have hl : lv_has ls 2 [(0, .ref h), (1, .ref t0)] := hl
  have hNA := zRO_1 hG hAe (zNe_1 ha)
  refine lv_aload_n S.1 S.2.1 dX2_telling_0 rfl (lv_at hl 1 rfl) ?_
  refine z_iconst S dX2_telling_1 ?_
  refine z_mvw (z_mV S hK (c_X8_leave l E t0 tr 2 _) gX2_telling_X8_leave rfl hv_X8_leave ⟨Nat.le_of_ble_eq_true rfl, Nat.le_of_ble_eq_true rfl⟩ (va_recv hK hP (ci := 8) (q0 := 0) rfl rfl) hP hD trivial hl.1 rfl (Nat.le_of_ble_eq_true rfl) ⟨by decide, by decide⟩ rfl dX2_telling_2) hD hS hA (fun u H locs h_2 hP hD hS => ?_)
  have hP : zP E ([(t0, .inr (8, [.int (jI (31 * tr + 2))]))]) H := hP
  have hD : va_D A ([(t0, .inr (8, [.int (jI (31 * tr + 2))]))]) := hD
  refine lv_aload_n S.1 S.2.1 dX2_telling_5 rfl (lv_at hl 0 rfl) ?_
  refine lv_aload_n S.1 S.2.1 dX2_telling_6 rfl (lv_at hl 1 rfl) ?_
  refine z_miw (z_mU S hK (c_X3_namedTelling_1 l E h vl nb fr tl t0 (31 * tr + 2) ha _) gX2_telling_X3_namedTelling_u13X1 rfl rfl hu_1__LLivingNumbers_Trace__I ⟨Nat.le_of_ble_eq_true rfl, Nat.le_of_ble_eq_true rfl⟩ (va_recv hK (zRO hG hS hNA) (ci := 1) (q0 := 0) rfl rfl) hP hD (zRO hG hS hNA) hl.1 rfl (Nat.le_of_ble_eq_true rfl) ⟨by decide, by decide⟩ rfl dX2_telling_7) hD hS hA (fun r_7 u H locs h_7 hP hD hS => ?_)
  obtain ⟨h_7a, h_7b⟩ := h_7
  rw [h_7a]
  subst h_7b
  have hP : zP E ([(t0, .inr (8, [.int (jI (31 * (31 * tr + 2) + 1))]))]) H := hP
  have hD : va_D A ([(t0, .inr (8, [.int (jI (31 * (31 * tr + 2) + 1))]))]) := hD
  refine z_bipush S (by decide +kernel) dX2_telling_10 ?_
  refine z_iadd S dX2_telling_12 ?_
  exact hQ (nb + 100) (31 * (31 * tr + 2) + 1) _ _ (⟨rfl, rfl⟩) hP hD hS _ _ dX2_telling_13

set_option maxHeartbeats 1000000 in
set_option maxRecDepth 20000 in
theorem c_X2_telling_2 (l : Launch) (E : zE) (h : Nat) (vl nb fr tl : Int) (t0 : Nat) (tr : Int) (ha : h ≠ t0) : zMi l E yX2_telling wsX2_telling (zr 3 0 0) [.ref h, .ref t0] ([(t0, .inr (8, [.int (jI tr)]))]) (fun H => zP E [(h, .inr (2, [.int (jI vl), .int (jI nb), .int (jI fr), .int (jI tl)]))] H) (fun r (u : Int) => r = nb + 100 ∧ u = 31 * (31 * tr + 2) + 1) (fun (u : Int) => [(t0, .inr (8, [.int (jI u)]))]) 0 0 := by
  refine zMi_of (own := RX2) (cc := cX2_telling) (maxL := 2) (by decide) rfl (Nat.le_of_ble_eq_true rfl) rfl ?_
  intro p e s m args below meth c Q A S hK hA hS hP hD hAe hG hQ ls hl
  have hl : lv_has ls 2 [(0, .ref h), (1, .ref t0)] := hl
  have hNA := zRO_1 hG hAe (zNe_1 ha)
  refine lv_aload_n S.1 S.2.1 dX2_telling_0 rfl (lv_at hl 1 rfl) ?_
  refine z_iconst S dX2_telling_1 ?_
  refine z_mvw (z_mV S hK (c_X8_leave l E t0 tr 2 _) gX2_telling_X8_leave rfl hv_X8_leave ⟨Nat.le_of_ble_eq_true rfl, Nat.le_of_ble_eq_true rfl⟩ (va_recv hK hP (ci := 8) (q0 := 0) rfl rfl) hP hD trivial hl.1 rfl (Nat.le_of_ble_eq_true rfl) ⟨by decide, by decide⟩ rfl dX2_telling_2) hD hS hA (fun u H locs h_2 hP hD hS => ?_)
  have hP : zP E ([(t0, .inr (8, [.int (jI (31 * tr + 2))]))]) H := hP
  have hD : va_D A ([(t0, .inr (8, [.int (jI (31 * tr + 2))]))]) := hD
  refine lv_aload_n S.1 S.2.1 dX2_telling_5 rfl (lv_at hl 0 rfl) ?_
  refine lv_aload_n S.1 S.2.1 dX2_telling_6 rfl (lv_at hl 1 rfl) ?_
  refine z_miw (z_mU S hK (c_X3_namedTelling_2 l E h vl nb fr tl t0 (31 * tr + 2) ha _) gX2_telling_X3_namedTelling_u13X2 rfl rfl hu_1__LLivingNumbers_Trace__I ⟨Nat.le_of_ble_eq_true rfl, Nat.le_of_ble_eq_true rfl⟩ (va_recv hK (zRO hG hS hNA) (ci := 2) (q0 := 0) rfl rfl) hP hD (zRO hG hS hNA) hl.1 rfl (Nat.le_of_ble_eq_true rfl) ⟨by decide, by decide⟩ rfl dX2_telling_7) hD hS hA (fun r_7 u H locs h_7 hP hD hS => ?_)
  obtain ⟨h_7a, h_7b⟩ := h_7
  rw [h_7a]
  subst h_7b
  have hP : zP E ([(t0, .inr (8, [.int (jI (31 * (31 * tr + 2) + 1))]))]) H := hP
  have hD : va_D A ([(t0, .inr (8, [.int (jI (31 * (31 * tr + 2) + 1))]))]) := hD
  refine z_bipush S (by decide +kernel) dX2_telling_10 ?_
  refine z_iadd S dX2_telling_12 ?_
  exact hQ (nb + 100) (31 * (31 * tr + 2) + 1) _ _ (⟨rfl, rfl⟩) hP hD hS _ _ dX2_telling_13

set_option maxHeartbeats 1000000 in
set_option maxRecDepth 20000 in
theorem c_X1_telling_1 (l : Launch) (E : zE) (h : Nat) (vl nb fr tl : Int) (t0 : Nat) (tr : Int) (ha : h ≠ t0) : zMi l E yX1_telling wsX1_telling (zr 4 0 0) [.ref h, .ref t0] ([(t0, .inr (8, [.int (jI tr)]))]) (fun H => zP E [(h, .inr (1, [.int (jI vl), .int (jI nb), .int (jI fr), .int (jI tl)]))] H) (fun r (u : Int) => r = nb + 100 + nb ∧ u = 31 * (31 * (31 * (31 * tr + 3) + 2) + 1) + 1) (fun (u : Int) => [(t0, .inr (8, [.int (jI u)]))]) 0 0 := by
  refine zMi_of (own := RX1) (cc := cX1_telling) (maxL := 3) (by decide) rfl (Nat.le_of_ble_eq_true rfl) rfl ?_
  intro p e s m args below meth c Q A S hK hA hS hP hD hAe hG hQ ls hl
  have hl : lv_has ls 3 [(0, .ref h), (1, .ref t0)] := hl
  have hNA := zRO_1 hG hAe (zNe_1 ha)
  refine lv_aload_n S.1 S.2.1 dX1_telling_0 rfl (lv_at hl 1 rfl) ?_
  refine z_iconst S dX1_telling_1 ?_
  refine z_mvw (z_mV S hK (c_X8_leave l E t0 tr 3 _) gX1_telling_X8_leave rfl hv_X8_leave ⟨Nat.le_of_ble_eq_true rfl, Nat.le_of_ble_eq_true rfl⟩ (va_recv hK hP (ci := 8) (q0 := 0) rfl rfl) hP hD trivial hl.1 rfl (Nat.le_of_ble_eq_true rfl) ⟨by decide, by decide⟩ rfl dX1_telling_2) hD hS hA (fun u H locs h_2 hP hD hS => ?_)
  have hP : zP E ([(t0, .inr (8, [.int (jI (31 * tr + 3))]))]) H := hP
  have hD : va_D A ([(t0, .inr (8, [.int (jI (31 * tr + 3))]))]) := hD
  refine lv_aload_n S.1 S.2.1 dX1_telling_5 rfl (lv_at hl 0 rfl) ?_
  refine lv_aload_n S.1 S.2.1 dX1_telling_6 rfl (lv_at hl 1 rfl) ?_
  refine z_miw (z_mP S hK (c_X2_telling_1 l E h vl nb fr tl t0 (31 * tr + 3) ha _) (hK.1 1 _ rfl).2 gX1_telling_X2_telling_s13 rfl hp_X2_telling ⟨Nat.le_of_ble_eq_true rfl, Nat.le_of_ble_eq_true rfl⟩ (va_recv hK (zRO hG hS hNA) (ci := 1) (q0 := 0) rfl rfl) hP hD (zRO hG hS hNA) hl.1 rfl (Nat.le_of_ble_eq_true rfl) ⟨by decide, by decide⟩ rfl dX1_telling_7) hD hS hA (fun r_7 u H locs h_7 hP hD hS => ?_)
  obtain ⟨h_7a, h_7b⟩ := h_7
  rw [h_7a]
  subst h_7b
  have hP : zP E ([(t0, .inr (8, [.int (jI (31 * (31 * (31 * tr + 3) + 2) + 1))]))]) H := hP
  have hD : va_D A ([(t0, .inr (8, [.int (jI (31 * (31 * (31 * tr + 3) + 2) + 1))]))]) := hD
  refine lv_istore_n (lv' := [(2, .int (jI (nb + 100))), (0, .ref h), (1, .ref t0)]) S.1 S.2.1 dX1_telling_10 rfl hl (by decide) rfl (fun ls hl => ?_)
  refine lv_iload_n S.1 S.2.1 dX1_telling_11 rfl (lv_at hl 0 rfl) ?_
  refine lv_aload_n S.1 S.2.1 dX1_telling_12 rfl (lv_at hl 1 rfl) ?_
  refine lv_aload_n S.1 S.2.1 dX1_telling_13 rfl (lv_at hl 2 rfl) ?_
  refine z_miw (z_mU S hK (c_X3_namedTelling_1 l E h vl nb fr tl t0 (31 * (31 * (31 * tr + 3) + 2) + 1) ha _) gX1_telling_X3_namedTelling_u17X1 rfl rfl hu_1__LLivingNumbers_Trace__I ⟨Nat.le_of_ble_eq_true rfl, Nat.le_of_ble_eq_true rfl⟩ (va_recv hK (zRO hG hS hNA) (ci := 1) (q0 := 0) rfl rfl) hP hD (zRO hG hS hNA) hl.1 rfl (Nat.le_of_ble_eq_true rfl) ⟨by decide, by decide⟩ rfl dX1_telling_14) hD hS hA (fun r_14 u H locs h_14 hP hD hS => ?_)
  obtain ⟨h_14a, h_14b⟩ := h_14
  rw [h_14a]
  subst h_14b
  have hP : zP E ([(t0, .inr (8, [.int (jI (31 * (31 * (31 * (31 * tr + 3) + 2) + 1) + 1))]))]) H := hP
  have hD : va_D A ([(t0, .inr (8, [.int (jI (31 * (31 * (31 * (31 * tr + 3) + 2) + 1) + 1))]))]) := hD
  refine z_iadd S dX1_telling_17 ?_
  exact hQ ((nb + 100) + nb) (31 * (31 * (31 * (31 * tr + 3) + 2) + 1) + 1) _ _ (⟨rfl, rfl⟩) hP hD hS _ _ dX1_telling_18

set_option maxHeartbeats 1000000 in
set_option maxRecDepth 20000 in
theorem c_X3_mourning_2 (l : Launch) (E : zE) (h : Nat) (t0 : Nat) (tr : Int) (x : Int) : zMi l E yX3_mourning wsX3_mourning (zr 2 0 0) [.ref h, .ref t0, .int (jI (x))] ([(t0, .inr (8, [.int (jI tr)]))]) (fun _ => True) (fun r (u : Int) => r = x ∧ u = 31 * tr + 4) (fun (u : Int) => [(t0, .inr (8, [.int (jI u)]))]) 0 0 := by
  refine zMi_of (own := RX3) (cc := cX3_mourning) (maxL := 3) (by decide) rfl (Nat.le_of_ble_eq_true rfl) rfl ?_
  intro p e s m args below meth c Q A S hK hA hS hP hD hAe hG hQ ls hl
  have hl : lv_has ls 3 [(0, .ref h), (1, .ref t0), (2, .int (jI (x)))] := hl
  refine lv_aload_n S.1 S.2.1 dX3_mourning_0 rfl (lv_at hl 1 rfl) ?_
  refine z_iconst S dX3_mourning_1 ?_
  refine z_mvw (z_mV S hK (c_X8_leave l E t0 tr 4 _) gX3_mourning_X8_leave rfl hv_X8_leave ⟨Nat.le_of_ble_eq_true rfl, Nat.le_of_ble_eq_true rfl⟩ (va_recv hK hP (ci := 8) (q0 := 0) rfl rfl) hP hD trivial hl.1 rfl (Nat.le_of_ble_eq_true rfl) ⟨by decide, by decide⟩ rfl dX3_mourning_2) hD hS hA (fun u H locs h_2 hP hD hS => ?_)
  have hP : zP E ([(t0, .inr (8, [.int (jI (31 * tr + 4))]))]) H := hP
  have hD : va_D A ([(t0, .inr (8, [.int (jI (31 * tr + 4))]))]) := hD
  refine lv_iload_n S.1 S.2.1 dX3_mourning_5 rfl (lv_at hl 2 rfl) ?_
  exact hQ (x) (31 * tr + 4) _ _ (⟨rfl, rfl⟩) hP hD hS _ _ dX3_mourning_6

set_option maxHeartbeats 1000000 in
set_option maxRecDepth 20000 in
theorem c_X3_mourning_3 (l : Launch) (E : zE) (h : Nat) (t0 : Nat) (tr : Int) (x : Int) : zMi l E yX3_mourning wsX3_mourning (zr 2 0 0) [.ref h, .ref t0, .int (jI (x))] ([(t0, .inr (8, [.int (jI tr)]))]) (fun _ => True) (fun r (u : Int) => r = x ∧ u = 31 * tr + 4) (fun (u : Int) => [(t0, .inr (8, [.int (jI u)]))]) 0 0 := by
  refine zMi_of (own := RX3) (cc := cX3_mourning) (maxL := 3) (by decide) rfl (Nat.le_of_ble_eq_true rfl) rfl ?_
  intro p e s m args below meth c Q A S hK hA hS hP hD hAe hG hQ ls hl
  have hl : lv_has ls 3 [(0, .ref h), (1, .ref t0), (2, .int (jI (x)))] := hl
  refine lv_aload_n S.1 S.2.1 dX3_mourning_0 rfl (lv_at hl 1 rfl) ?_
  refine z_iconst S dX3_mourning_1 ?_
  refine z_mvw (z_mV S hK (c_X8_leave l E t0 tr 4 _) gX3_mourning_X8_leave rfl hv_X8_leave ⟨Nat.le_of_ble_eq_true rfl, Nat.le_of_ble_eq_true rfl⟩ (va_recv hK hP (ci := 8) (q0 := 0) rfl rfl) hP hD trivial hl.1 rfl (Nat.le_of_ble_eq_true rfl) ⟨by decide, by decide⟩ rfl dX3_mourning_2) hD hS hA (fun u H locs h_2 hP hD hS => ?_)
  have hP : zP E ([(t0, .inr (8, [.int (jI (31 * tr + 4))]))]) H := hP
  have hD : va_D A ([(t0, .inr (8, [.int (jI (31 * tr + 4))]))]) := hD
  refine lv_iload_n S.1 S.2.1 dX3_mourning_5 rfl (lv_at hl 2 rfl) ?_
  exact hQ (x) (31 * tr + 4) _ _ (⟨rfl, rfl⟩) hP hD hS _ _ dX3_mourning_6

set_option maxHeartbeats 1000000 in
set_option maxRecDepth 20000 in
theorem c_X1_mourning_1 (l : Launch) (E : zE) (h : Nat) (t0 : Nat) (tr : Int) (x : Int) : zMi l E yX1_mourning wsX1_mourning (zr 2 0 0) [.ref h, .ref t0, .int (jI (x))] ([(t0, .inr (8, [.int (jI tr)]))]) (fun _ => True) (fun r (u : Int) => r = 80 ∧ u = 31 * tr + 5) (fun (u : Int) => [(t0, .inr (8, [.int (jI u)]))]) 0 0 := by
  refine zMi_of (own := RX1) (cc := cX1_mourning) (maxL := 3) (by decide) rfl (Nat.le_of_ble_eq_true rfl) rfl ?_
  intro p e s m args below meth c Q A S hK hA hS hP hD hAe hG hQ ls hl
  have hl : lv_has ls 3 [(0, .ref h), (1, .ref t0), (2, .int (jI (x)))] := hl
  refine lv_aload_n S.1 S.2.1 dX1_mourning_0 rfl (lv_at hl 1 rfl) ?_
  refine z_iconst S dX1_mourning_1 ?_
  refine z_mvw (z_mV S hK (c_X8_leave l E t0 tr 5 _) gX1_mourning_X8_leave rfl hv_X8_leave ⟨Nat.le_of_ble_eq_true rfl, Nat.le_of_ble_eq_true rfl⟩ (va_recv hK hP (ci := 8) (q0 := 0) rfl rfl) hP hD trivial hl.1 rfl (Nat.le_of_ble_eq_true rfl) ⟨by decide, by decide⟩ rfl dX1_mourning_2) hD hS hA (fun u H locs h_2 hP hD hS => ?_)
  have hP : zP E ([(t0, .inr (8, [.int (jI (31 * tr + 5))]))]) H := hP
  have hD : va_D A ([(t0, .inr (8, [.int (jI (31 * tr + 5))]))]) := hD
  refine z_bipush S (by decide +kernel) dX1_mourning_5 ?_
  exact hQ (80) (31 * tr + 5) _ _ (⟨rfl, rfl⟩) hP hD hS _ _ dX1_mourning_7
