theorem i_X6_people_6 : ∀ w ∈ u_ws RX6 TX6 2, w ∈ wsX6_people := fun w h => List.mem_cons_of_mem _ (List.mem_append_right _ h)
theorem q_X6_people_1 : Cond.fieldLink RX6 15 "LivingNumbers$RollText" "length" "I" ∈ wsX6_people := List.mem_of_getElem? (i := 1) rfl
theorem i_X6_code_6 : ∀ w ∈ u_ws RX6 TX6 2, w ∈ wsX6_code := fun w h => List.mem_cons_of_mem _ (List.mem_append_right _ h)
theorem q_X6_code_1 : Cond.fieldLink RX6 15 "LivingNumbers$RollText" "length" "I" ∈ wsX6_code := List.mem_of_getElem? (i := 1) rfl
theorem q_X6_code_2 : Cond.fieldLink RX6 9 "LivingNumbers$RollText" "codes" "[I" ∈ wsX6_code := List.mem_of_getElem? (i := 2) rfl
theorem hv_X6_code : yX6_code.cls = RX6 ∧ yX6_code.cls ≠ "java/lang/invoke/MethodHandle" ∧ yX6_code.cls ≠ "java/lang/invoke/VarHandle" ∧ (parseMethodDescriptor yX6_code.desc).map (fun d => d.parameters.length) = some 1 := by decide +kernel
theorem hv_X6_digit : yX6_digit.cls = RX6 ∧ yX6_digit.cls ≠ "java/lang/invoke/MethodHandle" ∧ yX6_digit.cls ≠ "java/lang/invoke/VarHandle" ∧ (parseMethodDescriptor yX6_digit.desc).map (fun d => d.parameters.length) = some 1 := by decide +kernel
theorem hv_X6_pair : yX6_pair.cls = RX6 ∧ yX6_pair.cls ≠ "java/lang/invoke/MethodHandle" ∧ yX6_pair.cls ≠ "java/lang/invoke/VarHandle" ∧ (parseMethodDescriptor yX6_pair.desc).map (fun d => d.parameters.length) = some 1 := by decide +kernel
theorem hv_X6_isPairGoingOn : yX6_isPairGoingOn.cls = RX6 ∧ yX6_isPairGoingOn.cls ≠ "java/lang/invoke/MethodHandle" ∧ yX6_isPairGoingOn.cls ≠ "java/lang/invoke/VarHandle" ∧ (parseMethodDescriptor yX6_isPairGoingOn.desc).map (fun d => d.parameters.length) = some 2 := by decide +kernel
theorem i_X6_firstFault_6 : ∀ w ∈ u_ws RX6 TX6 2, w ∈ wsX6_firstFault := fun w h => List.mem_cons_of_mem _ (List.mem_append_right _ h)
theorem q_X6_firstFault_1 : Cond.fieldLink RX6 15 "LivingNumbers$RollText" "length" "I" ∈ wsX6_firstFault := List.mem_of_getElem? (i := 1) rfl
theorem hv_X6_goesOn : yX6_goesOn.cls = RX6 ∧ yX6_goesOn.cls ≠ "java/lang/invoke/MethodHandle" ∧ yX6_goesOn.cls ≠ "java/lang/invoke/VarHandle" ∧ (parseMethodDescriptor yX6_goesOn.desc).map (fun d => d.parameters.length) = some 1 := by decide +kernel
theorem hv_X6_isSecondDigit : yX6_isSecondDigit.cls = RX6 ∧ yX6_isSecondDigit.cls ≠ "java/lang/invoke/MethodHandle" ∧ yX6_isSecondDigit.cls ≠ "java/lang/invoke/VarHandle" ∧ (parseMethodDescriptor yX6_isSecondDigit.desc).map (fun d => d.parameters.length) = some 1 := by decide +kernel
theorem i_X6_read_6 : ∀ w ∈ u_ws RX6 TX6 2, w ∈ wsX6_read := fun w h => List.mem_cons_of_mem _ (List.mem_append_left _ (List.mem_append_right _ h))
theorem q_X6_read_1 : Cond.fieldLink RX6 9 "LivingNumbers$RollText" "codes" "[I" ∈ wsX6_read := List.mem_of_getElem? (i := 1) rfl
theorem q_X6_read_2 : Cond.methodLink RX6 19 Lib.Math.min.name ∈ wsX6_read := List.mem_of_getElem? (i := 2) rfl
theorem q_X6_read_3 : Cond.static Lib.Math.min.name ∈ wsX6_read := List.mem_of_getElem? (i := 3) rfl
theorem q_X6_read_4 : Cond.initialized "java/lang/Math" ∈ wsX6_read := List.mem_of_getElem? (i := 4) rfl
theorem q_X6_read_5 : Cond.code Lib.Math.min.name Lib.Math.min.code 2 (some .int) ∈ wsX6_read := List.mem_of_getElem? (i := 5) rfl
theorem q_X6_read_6 : Cond.fieldLink RX6 15 "LivingNumbers$RollText" "length" "I" ∈ wsX6_read := List.mem_of_getElem? (i := 6) rfl
theorem hv_X7_at : yX7_at.cls = RX7 ∧ yX7_at.cls ≠ "java/lang/invoke/MethodHandle" ∧ yX7_at.cls ≠ "java/lang/invoke/VarHandle" ∧ (parseMethodDescriptor yX7_at.desc).map (fun d => d.parameters.length) = some 2 := by decide +kernel
set_option maxHeartbeats 1000000 in
set_option maxRecDepth 20000 in
theorem c_X6_people (l : Launch) (E : zE) (h : Nat) (a0 : Nat) (ln : Int) (co : Int → Int) (hln : 0 ≤ ln ∧ ln ≤ 100) : zRi l E yX6_people wsX6_people (zr 1 0 0) [.ref h] (fun H => zP E ([(h, .inr (6, [.ref a0, .int (jI ln)])), (a0, eI E 100 co)]) H) (fun r => r = (ln + 1) / 9) := by
  refine zRi_of (own := RX6) (cc := cX6_people) (maxL := 1) (by decide) rfl (Nat.le_of_ble_eq_true rfl) rfl ?_
  intro p e s m args below meth c Q S hK hP hQ ls hl
  have hl : lv_has ls 1 [(0, .ref h)] := hl
  refine lv_aload_n S.1 S.2.1 dX6_people_0 rfl (lv_at hl 0 rfl) ?_
  refine z_get S hK hP 0 rfl rfl 1 (by decide) i_X6_people_6 q_X6_people_1 rfl dX6_people_1 ?_
  refine z_iconst S dX6_people_4 ?_
  refine z_iadd S dX6_people_5 ?_
  refine z_bipush S (by decide +kernel) dX6_people_6 ?_
  refine z_idiv S (by omega) (by omega) dX6_people_8 ?_
  exact hQ ((ln + 1) / 9) (rfl) _ _ dX6_people_9

set_option maxHeartbeats 1000000 in
set_option maxRecDepth 20000 in
theorem c_X6_code (l : Launch) (E : zE) (h : Nat) (a0 : Nat) (ln : Int) (co : Int → Int) (p1 : Int) (h_p1 : -2147483648 ≤ p1 ∧ p1 ≤ 2147483647) (hln : 0 ≤ ln ∧ ln ≤ 100) (hco : zRg co) : zRi l E yX6_code wsX6_code (zr 1 0 0) [.ref h, .int (jI (p1))] (fun H => zP E ([(h, .inr (6, [.ref a0, .int (jI ln)])), (a0, eI E 100 co)]) H) (fun r => ((0 ≤ p1 ∧ p1 < ln) ∧ r = co p1) ∨ ((p1 < 0 ∨ ln ≤ p1) ∧ r = -1)) := by
  refine zRi_of (own := RX6) (cc := cX6_code) (maxL := 2) (by decide) rfl (Nat.le_of_ble_eq_true rfl) rfl ?_
  intro p e s m args below meth c Q S hK hP hQ ls hl
  have hl : lv_has ls 2 [(0, .ref h), (1, .int (jI (p1)))] := hl
  refine lv_iload_n S.1 S.2.1 dX6_code_0 rfl (lv_at hl 1 rfl) ?_
  refine z_if_lt (tgt := 30) S dX6_code_1 (by decide) (by omega) (fun c_1 => ?_) (fun c_1 => ?_)
  · skip
    refine z_iconst S dX6_code_30 ?_
    exact hQ (-1) (by omega) _ _ dX6_code_31
  · skip
    refine lv_iload_n S.1 S.2.1 dX6_code_4 rfl (lv_at hl 1 rfl) ?_
    refine lv_aload_n S.1 S.2.1 dX6_code_5 rfl (lv_at hl 0 rfl) ?_
    refine z_get S hK hP 0 rfl rfl 1 (by decide) i_X6_code_6 q_X6_code_1 rfl dX6_code_6 ?_
    refine z_icmp_ge (tgt := 30) S dX6_code_9 (by decide) (by omega) (fun c_9 => ?_) (fun c_9 => ?_)
    · skip
      refine z_iconst S dX6_code_30 ?_
      exact hQ (-1) (by omega) _ _ dX6_code_31
    · skip
      refine lv_iload_n S.1 S.2.1 dX6_code_12 rfl (lv_at hl 1 rfl) ?_
      refine lv_aload_n S.1 S.2.1 dX6_code_13 rfl (lv_at hl 0 rfl) ?_
      refine z_get S hK hP 0 rfl rfl 0 (by decide) i_X6_code_6 q_X6_code_2 rfl dX6_code_14 ?_
      refine z_alen S hK hP 1 rfl dX6_code_17 ?_
      refine z_icmp_ge (tgt := 30) S dX6_code_18 (by decide) (by omega) (fun c_18 => ?_) (fun c_18 => ?_)
      · omega
      · skip
        refine lv_aload_n S.1 S.2.1 dX6_code_21 rfl (lv_at hl 0 rfl) ?_
        refine z_get S hK hP 0 rfl rfl 0 (by decide) i_X6_code_6 q_X6_code_2 rfl dX6_code_22 ?_
        refine lv_iload_n S.1 S.2.1 dX6_code_25 rfl (lv_at hl 1 rfl) ?_
        refine z_iald S hK hP 1 rfl (by omega) dX6_code_26 ?_
        have hf_1 := hco (p1)
        refine z_goto (tgt := 31) S dX6_code_27 (by decide) ?_
        exact hQ (co (p1)) (by omega) _ _ dX6_code_31

set_option maxHeartbeats 1000000 in
set_option maxRecDepth 20000 in
theorem c_X6_digit (l : Launch) (E : zE) (h : Nat) (a0 : Nat) (ln : Int) (co : Int → Int) (p1 : Int) (hp : 0 ≤ p1 ∧ p1 ≤ 300) (hln : 0 ≤ ln ∧ ln ≤ 100) (hco : zRg co) : zRi l E yX6_digit wsX6_digit (zr 2 0 0) [.ref h, .int (jI (p1))] (fun H => zP E ([(h, .inr (6, [.ref a0, .int (jI ln)])), (a0, eI E 100 co)]) H) (fun r => zFi co ln p1 r) := by
  refine zRi_of (own := RX6) (cc := cX6_digit) (maxL := 3) (by decide) rfl (Nat.le_of_ble_eq_true rfl) rfl ?_
  intro p e s m args below meth c Q S hK hP hQ ls hl
  have hl : lv_has ls 3 [(0, .ref h), (1, .int (jI (p1)))] := hl
  refine lv_aload_n S.1 S.2.1 dX6_digit_0 rfl (lv_at hl 0 rfl) ?_
  refine lv_iload_n S.1 S.2.1 dX6_digit_1 rfl (lv_at hl 1 rfl) ?_
  refine z_ri (z_rV S hK (c_X6_code l E h a0 ln co p1 (by omega) (by omega) (hco)) gX6_digit_X6_code rfl hv_X6_code ⟨Nat.le_of_ble_eq_true rfl, Nat.le_of_ble_eq_true rfl⟩ (va_recv hK hP (ci := 6) (q0 := 0) rfl rfl) hP hl.1 rfl (Nat.le_of_ble_eq_true rfl) ⟨by decide, by decide⟩ rfl dX6_digit_2) (fun r_2 h_2 => ?_)
  have hcp := hco p1
  refine lv_istore_n (lv' := [(2, .int (jI (r_2))), (0, .ref h), (1, .int (jI (p1)))]) S.1 S.2.1 dX6_digit_5 rfl hl (by decide) rfl (fun ls hl => ?_)
  refine lv_iload_n S.1 S.2.1 dX6_digit_6 rfl (lv_at hl 0 rfl) ?_
  refine z_bipush S (by decide +kernel) dX6_digit_7 ?_
  refine z_icmp_lt (tgt := 25) S dX6_digit_9 (by decide) (by omega) (fun c_9 => ?_) (fun c_9 => ?_)
  · skip
    refine z_iconst S dX6_digit_25 ?_
    exact hQ (-1) (by unfold zFi zDg; omega) _ _ dX6_digit_26
  · skip
    refine lv_iload_n S.1 S.2.1 dX6_digit_12 rfl (lv_at hl 0 rfl) ?_
    refine z_bipush S (by decide +kernel) dX6_digit_13 ?_
    refine z_icmp_gt (tgt := 25) S dX6_digit_15 (by decide) (by omega) (fun c_15 => ?_) (fun c_15 => ?_)
    · skip
      refine z_iconst S dX6_digit_25 ?_
      exact hQ (-1) (by unfold zFi zDg; omega) _ _ dX6_digit_26
    · skip
      refine lv_iload_n S.1 S.2.1 dX6_digit_18 rfl (lv_at hl 0 rfl) ?_
      refine z_bipush S (by decide +kernel) dX6_digit_19 ?_
      refine z_isub S dX6_digit_21 ?_
      refine z_goto (tgt := 26) S dX6_digit_22 (by decide) ?_
      exact hQ (r_2 - 48) (by unfold zFi zDg; omega) _ _ dX6_digit_26

set_option maxHeartbeats 1000000 in
set_option maxRecDepth 20000 in
theorem c_X6_pair (l : Launch) (E : zE) (h : Nat) (a0 : Nat) (ln : Int) (co : Int → Int) (p1 : Int) (hp : 0 ≤ p1 ∧ p1 ≤ 290) (hln : 0 ≤ ln ∧ ln ≤ 100) (hco : zRg co) : zRi l E yX6_pair wsX6_pair (zr 3 0 0) [.ref h, .int (jI (p1))] (fun H => zP E ([(h, .inr (6, [.ref a0, .int (jI ln)])), (a0, eI E 100 co)]) H) (fun r => (-11 ≤ r ∧ r ≤ 99) ∧ (zDg co ln p1 → zDg co ln (p1 + 1) → r = 10 * (co p1 - 48) + (co (p1 + 1) - 48))) := by
  refine zRi_of (own := RX6) (cc := cX6_pair) (maxL := 2) (by decide) rfl (Nat.le_of_ble_eq_true rfl) rfl ?_
  intro p e s m args below meth c Q S hK hP hQ ls hl
  have hl : lv_has ls 2 [(0, .ref h), (1, .int (jI (p1)))] := hl
  refine z_bipush S (by decide +kernel) dX6_pair_0 ?_
  refine lv_aload_n S.1 S.2.1 dX6_pair_2 rfl (lv_at hl 0 rfl) ?_
  refine lv_iload_n S.1 S.2.1 dX6_pair_3 rfl (lv_at hl 1 rfl) ?_
  refine z_ri (z_rV S hK (c_X6_digit l E h a0 ln co p1 (by omega) (by omega) (hco)) gX6_pair_X6_digit rfl hv_X6_digit ⟨Nat.le_of_ble_eq_true rfl, Nat.le_of_ble_eq_true rfl⟩ (va_recv hK hP (ci := 6) (q0 := 0) rfl rfl) hP hl.1 rfl (Nat.le_of_ble_eq_true rfl) ⟨by decide, by decide⟩ rfl dX6_pair_4) (fun r_4 h_4 => ?_)
  have h_4b := zFi_rng h_4
  refine z_imul S dX6_pair_7 ?_
  refine lv_aload_n S.1 S.2.1 dX6_pair_8 rfl (lv_at hl 0 rfl) ?_
  refine lv_iload_n S.1 S.2.1 dX6_pair_9 rfl (lv_at hl 1 rfl) ?_
  refine z_iconst S dX6_pair_10 ?_
  refine z_iadd S dX6_pair_11 ?_
  refine z_ri (z_rV S hK (c_X6_digit l E h a0 ln co (p1 + 1) (by omega) (by omega) (hco)) gX6_pair_X6_digit rfl hv_X6_digit ⟨Nat.le_of_ble_eq_true rfl, Nat.le_of_ble_eq_true rfl⟩ (va_recv hK hP (ci := 6) (q0 := 0) rfl rfl) hP hl.1 rfl (Nat.le_of_ble_eq_true rfl) ⟨by decide, by decide⟩ rfl dX6_pair_12) (fun r_12 h_12 => ?_)
  have h_12b := zFi_rng h_12
  refine z_iadd S dX6_pair_15 ?_
  exact hQ ((10 * r_4) + r_12) (⟨by omega, fun q1 q2 => by rw [zFi_is h_4 q1, zFi_is h_12 q2]⟩) _ _ dX6_pair_16

set_option maxHeartbeats 1000000 in
set_option maxRecDepth 20000 in
theorem c_X6_isPairGoingOn (l : Launch) (E : zE) (h : Nat) (a0 : Nat) (ln : Int) (co : Int → Int) (b : Int) (k : Int) (hb : 0 ≤ b ∧ b ≤ 100) (hk : 2 ≤ k ∧ k ≤ 7) (hbk : b + k < ln) (hln : 0 ≤ ln ∧ ln ≤ 100) (hco : zRg co) (hdv : ∀ y, b + 2 ≤ y → y ≤ b + k → 48 ≤ co y ∧ co y ≤ 57) : zRi l E yX6_isPairGoingOn wsX6_isPairGoingOn (zr 4 0 0) [.ref h, .int (jI (b)), .int (jI (k))] (fun H => zP E ([(h, .inr (6, [.ref a0, .int (jI ln)])), (a0, eI E 100 co)]) H) (fun r => (r = 1 ∧ (zPG co b k)) ∨ (r = 0 ∧ ¬ (zPG co b k))) := by
  refine zRz_of (own := RX6) (cc := cX6_isPairGoingOn) (maxL := 7) (by decide) rfl (Nat.le_of_ble_eq_true rfl) rfl ?_
  intro p e s m args below meth c Q S hK hP hQ ls hl
  have hl : lv_has ls 7 [(0, .ref h), (1, .int (jI (b))), (2, .int (jI (k)))] := hl
  refine lv_iload_n S.1 S.2.1 dX6_isPairGoingOn_0 rfl (lv_at hl 2 rfl) ?_
  refine z_iconst S dX6_isPairGoingOn_1 ?_
  refine z_irem S (by omega) (by omega) dX6_isPairGoingOn_2 ?_
  refine z_if_ne (tgt := 10) S dX6_isPairGoingOn_3 (by decide) (by omega) (fun c_3 => ?_) (fun c_3 => ?_)
  · skip
    refine z_iconst S dX6_isPairGoingOn_10 ?_
    refine lv_istore_n (lv' := [(3, .int (jI (0))), (0, .ref h), (1, .int (jI (b))), (2, .int (jI (k)))]) S.1 S.2.1 dX6_isPairGoingOn_11 rfl hl (by decide) rfl (fun ls hl => ?_)
    refine lv_iload_n S.1 S.2.1 dX6_isPairGoingOn_12 rfl (lv_at hl 0 rfl) ?_
    refine z_if_eq (tgt := 29) S dX6_isPairGoingOn_13 (by decide) (by omega) (fun c_13 => ?_) (fun c_13 => ?_)
    · skip
      refine lv_aload_n S.1 S.2.1 dX6_isPairGoingOn_29 rfl (lv_at hl 1 rfl) ?_
      refine lv_iload_n S.1 S.2.1 dX6_isPairGoingOn_30 rfl (lv_at hl 2 rfl) ?_
      refine lv_iload_n S.1 S.2.1 dX6_isPairGoingOn_31 rfl (lv_at hl 3 rfl) ?_
      refine z_iadd S dX6_isPairGoingOn_32 ?_
      refine z_iconst S dX6_isPairGoingOn_33 ?_
      refine z_isub S dX6_isPairGoingOn_34 ?_
      refine z_ri (z_rV S hK (c_X6_pair l E h a0 ln co ((b + k) - 1) (by omega) (by omega) (hco)) gX6_isPairGoingOn_X6_pair rfl hv_X6_pair ⟨Nat.le_of_ble_eq_true rfl, Nat.le_of_ble_eq_true rfl⟩ (va_recv hK hP (ci := 6) (q0 := 0) rfl rfl) hP hl.1 rfl (Nat.le_of_ble_eq_true rfl) ⟨by decide, by decide⟩ rfl dX6_isPairGoingOn_35) (fun r_35 h_35 => ?_)
      have hd35 := h_35.2 ⟨by omega, hdv _ (by omega) (by omega)⟩ ⟨by omega, hdv _ (by omega) (by omega)⟩
      rw [show b + k - 1 + 1 = b + k by omega] at hd35
      have hdr := hdv (b + k) (by omega) (by omega)
      have hdr2 := hdv (b + k - 1) (by omega) (by omega)
      refine lv_istore (lv' := [(4, .int (jI (r_35))), (3, .int (jI (0))), (0, .ref h), (1, .int (jI (b))), (2, .int (jI (k)))]) S.1 S.2.1 dX6_isPairGoingOn_38 hl (by decide) rfl (fun ls hl => ?_)
      refine lv_iload_n S.1 S.2.1 dX6_isPairGoingOn_40 rfl (lv_at hl 1 rfl) ?_
      refine z_if_eq (tgt := 52) S dX6_isPairGoingOn_41 (by decide) (by omega) (fun c_41 => ?_) (fun c_41 => ?_)
      · skip
        refine lv_iload S.1 S.2.1 dX6_isPairGoingOn_52 (lv_at hl 0 rfl) ?_
        refine lv_istore (lv' := [(5, .int (jI (r_35))), (4, .int (jI (r_35))), (3, .int (jI (0))), (0, .ref h), (1, .int (jI (b))), (2, .int (jI (k)))]) S.1 S.2.1 dX6_isPairGoingOn_54 hl (by decide) rfl (fun ls hl => ?_)
        refine lv_iload_n S.1 S.2.1 dX6_isPairGoingOn_56 rfl (lv_at hl 2 rfl) ?_
        refine z_if_eq (tgt := 64) S dX6_isPairGoingOn_57 (by decide) (by omega) (fun c_57 => ?_) (fun c_57 => ?_)
        · skip
          refine lv_iload_n S.1 S.2.1 dX6_isPairGoingOn_64 rfl (lv_at hl 5 rfl) ?_
          refine z_iconst S dX6_isPairGoingOn_65 ?_
          refine z_isub S dX6_isPairGoingOn_66 ?_
          refine lv_istore (lv' := [(6, .int (jI (k - 1))), (5, .int (jI (r_35))), (4, .int (jI (r_35))), (3, .int (jI (0))), (0, .ref h), (1, .int (jI (b))), (2, .int (jI (k)))]) S.1 S.2.1 dX6_isPairGoingOn_67 hl (by decide) rfl (fun ls hl => ?_)
          refine lv_iload S.1 S.2.1 dX6_isPairGoingOn_69 (lv_at hl 0 rfl) ?_
          refine z_iconst S dX6_isPairGoingOn_71 ?_
          refine z_icmp_ne (tgt := 87) S dX6_isPairGoingOn_72 (by decide) (by omega) (fun c_72 => ?_) (fun c_72 => ?_)
          · skip
            refine lv_iload S.1 S.2.1 dX6_isPairGoingOn_87 (lv_at hl 0 rfl) ?_
            refine z_iconst S dX6_isPairGoingOn_89 ?_
            refine z_icmp_ne (tgt := 106) S dX6_isPairGoingOn_90 (by decide) (by omega) (fun c_90 => ?_) (fun c_90 => ?_)
            · skip
              refine lv_iload S.1 S.2.1 dX6_isPairGoingOn_106 (lv_at hl 1 rfl) ?_
              refine lv_aload_n S.1 S.2.1 dX6_isPairGoingOn_108 rfl (lv_at hl 4 rfl) ?_
              refine lv_iload_n S.1 S.2.1 dX6_isPairGoingOn_109 rfl (lv_at hl 5 rfl) ?_
              refine z_iconst S dX6_isPairGoingOn_110 ?_
              refine z_iadd S dX6_isPairGoingOn_111 ?_
              refine z_ri (z_rV S hK (c_X6_pair l E h a0 ln co (b + 4) (by omega) (by omega) (hco)) gX6_isPairGoingOn_X6_pair rfl hv_X6_pair ⟨Nat.le_of_ble_eq_true rfl, Nat.le_of_ble_eq_true rfl⟩ (va_recv hK hP (ci := 6) (q0 := 0) rfl rfl) hP hl.1 rfl (Nat.le_of_ble_eq_true rfl) ⟨by decide, by decide⟩ rfl dX6_isPairGoingOn_112) (fun r_112 h_112 => ?_)
              have hd112 := h_112.2 ⟨by omega, hdv _ (by omega) (by omega)⟩ ⟨by omega, hdv _ (by omega) (by omega)⟩
              have hdr3 := hdv (b + 4) (by omega) (by omega)
              have hdr4 := hdv (b + 4 + 1) (by omega) (by omega)
              refine z_icmp_le (tgt := 122) S dX6_isPairGoingOn_115 (by decide) (by omega) (fun c_115 => ?_) (fun c_115 => ?_)
              · skip
                refine z_iconst S dX6_isPairGoingOn_122 ?_
                exact hQ (0) (by omega) (by unfold zPG; omega) _ _ dX6_isPairGoingOn_123
              · skip
                refine z_iconst S dX6_isPairGoingOn_118 ?_
                refine z_goto (tgt := 123) S dX6_isPairGoingOn_119 (by decide) ?_
                exact hQ (1) (by omega) (by unfold zPG; omega) _ _ dX6_isPairGoingOn_123
            · skip
              refine lv_iload S.1 S.2.1 dX6_isPairGoingOn_93 (lv_at hl 2 rfl) ?_
              refine z_bipush S (by decide +kernel) dX6_isPairGoingOn_95 ?_
              refine z_icmp_gt (tgt := 104) S dX6_isPairGoingOn_97 (by decide) (by omega) (fun c_97 => ?_) (fun c_97 => ?_)
              · skip
                refine z_iconst S dX6_isPairGoingOn_104 ?_
                exact hQ (0) (by omega) (by unfold zPG; omega) _ _ dX6_isPairGoingOn_105
              · skip
                refine z_iconst S dX6_isPairGoingOn_100 ?_
                refine z_goto (tgt := 105) S dX6_isPairGoingOn_101 (by decide) ?_
                exact hQ (1) (by omega) (by unfold zPG; omega) _ _ dX6_isPairGoingOn_105
          · skip
            refine lv_iload S.1 S.2.1 dX6_isPairGoingOn_75 (lv_at hl 1 rfl) ?_
            refine z_iconst S dX6_isPairGoingOn_77 ?_
            refine z_icmp_lt (tgt := 85) S dX6_isPairGoingOn_78 (by decide) (by omega) (fun c_78 => ?_) (fun c_78 => ?_)
            · skip
              refine z_iconst S dX6_isPairGoingOn_85 ?_
              exact hQ (0) (by omega) (by unfold zPG; omega) _ _ dX6_isPairGoingOn_86
            · skip
              refine z_iconst S dX6_isPairGoingOn_81 ?_
              refine z_goto (tgt := 86) S dX6_isPairGoingOn_82 (by decide) ?_
              exact hQ (1) (by omega) (by unfold zPG; omega) _ _ dX6_isPairGoingOn_86
        · omega
      · omega
    · omega
  · skip
    refine z_iconst S dX6_isPairGoingOn_6 ?_
    refine z_goto (tgt := 11) S dX6_isPairGoingOn_7 (by decide) ?_
    refine lv_istore_n (lv' := [(3, .int (jI (1))), (0, .ref h), (1, .int (jI (b))), (2, .int (jI (k)))]) S.1 S.2.1 dX6_isPairGoingOn_11 rfl hl (by decide) rfl (fun ls hl => ?_)
    refine lv_iload_n S.1 S.2.1 dX6_isPairGoingOn_12 rfl (lv_at hl 0 rfl) ?_
    refine z_if_eq (tgt := 29) S dX6_isPairGoingOn_13 (by decide) (by omega) (fun c_13 => ?_) (fun c_13 => ?_)
    · omega
    · skip
      refine z_bipush S (by decide +kernel) dX6_isPairGoingOn_16 ?_
      refine lv_aload_n S.1 S.2.1 dX6_isPairGoingOn_18 rfl (lv_at hl 1 rfl) ?_
      refine lv_iload_n S.1 S.2.1 dX6_isPairGoingOn_19 rfl (lv_at hl 2 rfl) ?_
      refine lv_iload_n S.1 S.2.1 dX6_isPairGoingOn_20 rfl (lv_at hl 3 rfl) ?_
      refine z_iadd S dX6_isPairGoingOn_21 ?_
      refine z_ri (z_rV S hK (c_X6_digit l E h a0 ln co (b + k) (by omega) (by omega) (hco)) gX6_isPairGoingOn_X6_digit rfl hv_X6_digit ⟨Nat.le_of_ble_eq_true rfl, Nat.le_of_ble_eq_true rfl⟩ (va_recv hK hP (ci := 6) (q0 := 0) rfl rfl) hP hl.1 rfl (Nat.le_of_ble_eq_true rfl) ⟨by decide, by decide⟩ rfl dX6_isPairGoingOn_22) (fun r_22 h_22 => ?_)
      have h_22b := zFi_rng h_22
      have hd22 := zFi_is h_22 ⟨by omega, hdv (b + k) (by omega) (by omega)⟩
      have hdr := hdv (b + k) (by omega) (by omega)
      refine z_imul S dX6_isPairGoingOn_25 ?_
      refine z_goto (tgt := 38) S dX6_isPairGoingOn_26 (by decide) ?_
      refine lv_istore (lv' := [(4, .int (jI (10 * r_22))), (3, .int (jI (1))), (0, .ref h), (1, .int (jI (b))), (2, .int (jI (k)))]) S.1 S.2.1 dX6_isPairGoingOn_38 hl (by decide) rfl (fun ls hl => ?_)
      refine lv_iload_n S.1 S.2.1 dX6_isPairGoingOn_40 rfl (lv_at hl 1 rfl) ?_
      refine z_if_eq (tgt := 52) S dX6_isPairGoingOn_41 (by decide) (by omega) (fun c_41 => ?_) (fun c_41 => ?_)
      · omega
      · skip
        refine lv_iload S.1 S.2.1 dX6_isPairGoingOn_44 (lv_at hl 0 rfl) ?_
        refine z_bipush S (by decide +kernel) dX6_isPairGoingOn_46 ?_
        refine z_iadd S dX6_isPairGoingOn_48 ?_
        refine z_goto (tgt := 54) S dX6_isPairGoingOn_49 (by decide) ?_
        refine lv_istore (lv' := [(5, .int (jI ((10 * r_22) + 9))), (4, .int (jI (10 * r_22))), (3, .int (jI (1))), (0, .ref h), (1, .int (jI (b))), (2, .int (jI (k)))]) S.1 S.2.1 dX6_isPairGoingOn_54 hl (by decide) rfl (fun ls hl => ?_)
        refine lv_iload_n S.1 S.2.1 dX6_isPairGoingOn_56 rfl (lv_at hl 2 rfl) ?_
        refine z_if_eq (tgt := 64) S dX6_isPairGoingOn_57 (by decide) (by omega) (fun c_57 => ?_) (fun c_57 => ?_)
        · omega
        · skip
          refine lv_iload_n S.1 S.2.1 dX6_isPairGoingOn_60 rfl (lv_at hl 5 rfl) ?_
          refine z_goto (tgt := 67) S dX6_isPairGoingOn_61 (by decide) ?_
          refine lv_istore (lv' := [(6, .int (jI (k))), (5, .int (jI ((10 * r_22) + 9))), (4, .int (jI (10 * r_22))), (3, .int (jI (1))), (0, .ref h), (1, .int (jI (b))), (2, .int (jI (k)))]) S.1 S.2.1 dX6_isPairGoingOn_67 hl (by decide) rfl (fun ls hl => ?_)
          refine lv_iload S.1 S.2.1 dX6_isPairGoingOn_69 (lv_at hl 0 rfl) ?_
          refine z_iconst S dX6_isPairGoingOn_71 ?_
          refine z_icmp_ne (tgt := 87) S dX6_isPairGoingOn_72 (by decide) (by omega) (fun c_72 => ?_) (fun c_72 => ?_)
          · skip
            refine lv_iload S.1 S.2.1 dX6_isPairGoingOn_87 (lv_at hl 0 rfl) ?_
            refine z_iconst S dX6_isPairGoingOn_89 ?_
            refine z_icmp_ne (tgt := 106) S dX6_isPairGoingOn_90 (by decide) (by omega) (fun c_90 => ?_) (fun c_90 => ?_)
            · skip
              refine lv_iload S.1 S.2.1 dX6_isPairGoingOn_106 (lv_at hl 1 rfl) ?_
              refine lv_aload_n S.1 S.2.1 dX6_isPairGoingOn_108 rfl (lv_at hl 4 rfl) ?_
              refine lv_iload_n S.1 S.2.1 dX6_isPairGoingOn_109 rfl (lv_at hl 5 rfl) ?_
              refine z_iconst S dX6_isPairGoingOn_110 ?_
              refine z_iadd S dX6_isPairGoingOn_111 ?_
              refine z_ri (z_rV S hK (c_X6_pair l E h a0 ln co (b + 4) (by omega) (by omega) (hco)) gX6_isPairGoingOn_X6_pair rfl hv_X6_pair ⟨Nat.le_of_ble_eq_true rfl, Nat.le_of_ble_eq_true rfl⟩ (va_recv hK hP (ci := 6) (q0 := 0) rfl rfl) hP hl.1 rfl (Nat.le_of_ble_eq_true rfl) ⟨by decide, by decide⟩ rfl dX6_isPairGoingOn_112) (fun r_112 h_112 => ?_)
              have hd112 := h_112.2 ⟨by omega, hdv _ (by omega) (by omega)⟩ ⟨by omega, hdv _ (by omega) (by omega)⟩
              have hdr3 := hdv (b + 4) (by omega) (by omega)
              have hdr4 := hdv (b + 4 + 1) (by omega) (by omega)
              refine z_icmp_le (tgt := 122) S dX6_isPairGoingOn_115 (by decide) (by omega) (fun c_115 => ?_) (fun c_115 => ?_)
              · skip
                refine z_iconst S dX6_isPairGoingOn_122 ?_
                exact hQ (0) (by omega) (by unfold zPG; omega) _ _ dX6_isPairGoingOn_123
              · skip
                refine z_iconst S dX6_isPairGoingOn_118 ?_
                refine z_goto (tgt := 123) S dX6_isPairGoingOn_119 (by decide) ?_
                exact hQ (1) (by omega) (by unfold zPG; omega) _ _ dX6_isPairGoingOn_123
            · skip
              refine lv_iload S.1 S.2.1 dX6_isPairGoingOn_93 (lv_at hl 2 rfl) ?_
              refine z_bipush S (by decide +kernel) dX6_isPairGoingOn_95 ?_
              refine z_icmp_gt (tgt := 104) S dX6_isPairGoingOn_97 (by decide) (by omega) (fun c_97 => ?_) (fun c_97 => ?_)
              · skip
                refine z_iconst S dX6_isPairGoingOn_104 ?_
                exact hQ (0) (by omega) (by unfold zPG; omega) _ _ dX6_isPairGoingOn_105
              · skip
                refine z_iconst S dX6_isPairGoingOn_100 ?_
                refine z_goto (tgt := 105) S dX6_isPairGoingOn_101 (by decide) ?_
                exact hQ (1) (by omega) (by unfold zPG; omega) _ _ dX6_isPairGoingOn_105
          · skip
            refine lv_iload S.1 S.2.1 dX6_isPairGoingOn_75 (lv_at hl 1 rfl) ?_
            refine z_iconst S dX6_isPairGoingOn_77 ?_
            refine z_icmp_lt (tgt := 85) S dX6_isPairGoingOn_78 (by decide) (by omega) (fun c_78 => ?_) (fun c_78 => ?_)
            · skip
              refine z_iconst S dX6_isPairGoingOn_85 ?_
              exact hQ (0) (by omega) (by unfold zPG; omega) _ _ dX6_isPairGoingOn_86
            · skip
              refine z_iconst S dX6_isPairGoingOn_81 ?_
              refine z_goto (tgt := 86) S dX6_isPairGoingOn_82 (by decide) ?_
              exact hQ (1) (by omega) (by unfold zPG; omega) _ _ dX6_isPairGoingOn_86

set_option maxHeartbeats 1000000 in
set_option maxRecDepth 20000 in
theorem c_X6_isSecondDigit (l : Launch) (E : zE) (h : Nat) (a0 : Nat) (ln : Int) (co : Int → Int) (p1 : Int) (hp : 0 ≤ p1 ∧ p1 < ln) (hln : 0 ≤ ln ∧ ln ≤ 100) (hco : zRg co) : zRi l E yX6_isSecondDigit wsX6_isSecondDigit (zr 3 0 0) [.ref h, .int (jI (p1))] (fun H => zP E ([(h, .inr (6, [.ref a0, .int (jI ln)])), (a0, eI E 100 co)]) H) (fun r => (r = 1 ∧ (zSec co p1)) ∨ (r = 0 ∧ ¬ (zSec co p1))) := by
  refine zRz_of (own := RX6) (cc := cX6_isSecondDigit) (maxL := 3) (by decide) rfl (Nat.le_of_ble_eq_true rfl) rfl ?_
  intro p e s m args below meth c Q S hK hP hQ ls hl
  have hl : lv_has ls 3 [(0, .ref h), (1, .int (jI (p1)))] := hl
  refine lv_iload_n S.1 S.2.1 dX6_isSecondDigit_0 rfl (lv_at hl 1 rfl) ?_
  refine z_bipush S (by decide +kernel) dX6_isSecondDigit_1 ?_
  refine z_irem S (by omega) (by omega) dX6_isSecondDigit_3 ?_
  refine lv_istore_n (lv' := [(2, .int (jI (p1 % 9))), (0, .ref h), (1, .int (jI (p1)))]) S.1 S.2.1 dX6_isSecondDigit_4 rfl hl (by decide) rfl (fun ls hl => ?_)
  refine lv_iload_n S.1 S.2.1 dX6_isSecondDigit_5 rfl (lv_at hl 0 rfl) ?_
  refine z_iconst S dX6_isSecondDigit_6 ?_
  refine z_icmp_le (tgt := 35) S dX6_isSecondDigit_7 (by decide) (by omega) (fun c_7 => ?_) (fun c_7 => ?_)
  · skip
    refine z_iconst S dX6_isSecondDigit_35 ?_
    exact hQ (0) (by omega) (by first | (unfold zSec; omega) | exact Or.inl ⟨rfl, by omega, zFi_pos h_25 (by omega)⟩ | exact Or.inr ⟨rfl, fun z => zFi_neg h_25 (by omega) (by omega) z.2⟩) _ _ dX6_isSecondDigit_36
  · skip
    refine lv_iload_n S.1 S.2.1 dX6_isSecondDigit_10 rfl (lv_at hl 0 rfl) ?_
    refine z_bipush S (by decide +kernel) dX6_isSecondDigit_11 ?_
    refine z_icmp_ge (tgt := 35) S dX6_isSecondDigit_13 (by decide) (by omega) (fun c_13 => ?_) (fun c_13 => ?_)
    · skip
      refine z_iconst S dX6_isSecondDigit_35 ?_
      exact hQ (0) (by omega) (by first | (unfold zSec; omega) | exact Or.inl ⟨rfl, by omega, zFi_pos h_25 (by omega)⟩ | exact Or.inr ⟨rfl, fun z => zFi_neg h_25 (by omega) (by omega) z.2⟩) _ _ dX6_isSecondDigit_36
    · skip
      refine lv_iload_n S.1 S.2.1 dX6_isSecondDigit_16 rfl (lv_at hl 0 rfl) ?_
      refine z_iconst S dX6_isSecondDigit_17 ?_
      refine z_irem S (by omega) (by omega) dX6_isSecondDigit_18 ?_
      refine z_iconst S dX6_isSecondDigit_19 ?_
      refine z_icmp_ne (tgt := 35) S dX6_isSecondDigit_20 (by decide) (by omega) (fun c_20 => ?_) (fun c_20 => ?_)
      · skip
        refine z_iconst S dX6_isSecondDigit_35 ?_
        exact hQ (0) (by omega) (by first | (unfold zSec; omega) | exact Or.inl ⟨rfl, by omega, zFi_pos h_25 (by omega)⟩ | exact Or.inr ⟨rfl, fun z => zFi_neg h_25 (by omega) (by omega) z.2⟩) _ _ dX6_isSecondDigit_36
      · skip
        refine lv_aload_n S.1 S.2.1 dX6_isSecondDigit_23 rfl (lv_at hl 1 rfl) ?_
        refine lv_iload_n S.1 S.2.1 dX6_isSecondDigit_24 rfl (lv_at hl 2 rfl) ?_
        refine z_ri (z_rV S hK (c_X6_digit l E h a0 ln co p1 (by omega) (by omega) (hco)) gX6_isSecondDigit_X6_digit rfl hv_X6_digit ⟨Nat.le_of_ble_eq_true rfl, Nat.le_of_ble_eq_true rfl⟩ (va_recv hK hP (ci := 6) (q0 := 0) rfl rfl) hP hl.1 rfl (Nat.le_of_ble_eq_true rfl) ⟨by decide, by decide⟩ rfl dX6_isSecondDigit_25) (fun r_25 h_25 => ?_)
        have h_25b := zFi_rng h_25
        refine z_if_lt (tgt := 35) S dX6_isSecondDigit_28 (by decide) (by omega) (fun c_28 => ?_) (fun c_28 => ?_)
        · skip
          refine z_iconst S dX6_isSecondDigit_35 ?_
          exact hQ (0) (by omega) (by first | (unfold zSec; omega) | exact Or.inl ⟨rfl, by omega, zFi_pos h_25 (by omega)⟩ | exact Or.inr ⟨rfl, fun z => zFi_neg h_25 (by omega) (by omega) z.2⟩) _ _ dX6_isSecondDigit_36
        · skip
          refine z_iconst S dX6_isSecondDigit_31 ?_
          refine z_goto (tgt := 36) S dX6_isSecondDigit_32 (by decide) ?_
          exact hQ (1) (by omega) (by first | (unfold zSec; omega) | exact Or.inl ⟨rfl, by omega, zFi_pos h_25 (by omega)⟩ | exact Or.inr ⟨rfl, fun z => zFi_neg h_25 (by omega) (by omega) z.2⟩) _ _ dX6_isSecondDigit_36

set_option maxHeartbeats 1000000 in
set_option maxRecDepth 20000 in
theorem c_X6_goesOn (l : Launch) (E : zE) (h : Nat) (a0 : Nat) (ln : Int) (co : Int → Int) (p1 : Int) (hp : 0 ≤ p1 ∧ p1 < ln) (hln : 0 ≤ ln ∧ ln ≤ 100) (hco : zRg co) (hgo : zAllGo co p1) : zRi l E yX6_goesOn wsX6_goesOn (zr 5 0 0) [.ref h, .int (jI (p1))] (fun H => zP E ([(h, .inr (6, [.ref a0, .int (jI ln)])), (a0, eI E 100 co)]) H) (fun r => (r = 1 ∧ (zGo co p1)) ∨ (r = 0 ∧ ¬ (zGo co p1))) := by
  refine zRz_of (own := RX6) (cc := cX6_goesOn) (maxL := 4) (by decide) rfl (Nat.le_of_ble_eq_true rfl) rfl ?_
  intro p e s m args below meth c Q S hK hP hQ ls hl
  have hl : lv_has ls 4 [(0, .ref h), (1, .int (jI (p1)))] := hl
  refine lv_aload_n S.1 S.2.1 dX6_goesOn_0 rfl (lv_at hl 0 rfl) ?_
  refine lv_iload_n S.1 S.2.1 dX6_goesOn_1 rfl (lv_at hl 1 rfl) ?_
  refine z_ri (z_rV S hK (c_X6_code l E h a0 ln co p1 (by omega) (by omega) (hco)) gX6_goesOn_X6_code rfl hv_X6_code ⟨Nat.le_of_ble_eq_true rfl, Nat.le_of_ble_eq_true rfl⟩ (va_recv hK hP (ci := 6) (q0 := 0) rfl rfl) hP hl.1 rfl (Nat.le_of_ble_eq_true rfl) ⟨by decide, by decide⟩ rfl dX6_goesOn_2) (fun r_2 h_2 => ?_)
  refine lv_istore_n (lv' := [(2, .int (jI (r_2))), (0, .ref h), (1, .int (jI (p1)))]) S.1 S.2.1 dX6_goesOn_5 rfl hl (by decide) rfl (fun ls hl => ?_)
  have hcp := hco p1
  refine lv_iload_n S.1 S.2.1 dX6_goesOn_6 rfl (lv_at hl 2 rfl) ?_
  refine z_bipush S (by decide +kernel) dX6_goesOn_7 ?_
  refine z_irem S (by omega) (by omega) dX6_goesOn_9 ?_
  refine lv_istore_n (lv' := [(3, .int (jI (p1 % 9))), (2, .int (jI (r_2))), (0, .ref h), (1, .int (jI (p1)))]) S.1 S.2.1 dX6_goesOn_10 rfl hl (by decide) rfl (fun ls hl => ?_)
  refine lv_iload_n S.1 S.2.1 dX6_goesOn_11 rfl (lv_at hl 0 rfl) ?_
  refine z_if_ne (tgt := 39) S dX6_goesOn_12 (by decide) (by omega) (fun c_12 => ?_) (fun c_12 => ?_)
  · skip
    refine lv_iload_n S.1 S.2.1 dX6_goesOn_39 rfl (lv_at hl 0 rfl) ?_
    refine z_iconst S dX6_goesOn_40 ?_
    refine z_icmp_ne (tgt := 62) S dX6_goesOn_41 (by decide) (by omega) (fun c_41 => ?_) (fun c_41 => ?_)
    · skip
      refine lv_iload_n S.1 S.2.1 dX6_goesOn_62 rfl (lv_at hl 0 rfl) ?_
      refine z_bipush S (by decide +kernel) dX6_goesOn_63 ?_
      refine z_icmp_ne (tgt := 86) S dX6_goesOn_65 (by decide) (by omega) (fun c_65 => ?_) (fun c_65 => ?_)
      · skip
        refine lv_aload_n S.1 S.2.1 dX6_goesOn_86 rfl (lv_at hl 2 rfl) ?_
        refine lv_iload_n S.1 S.2.1 dX6_goesOn_87 rfl (lv_at hl 3 rfl) ?_
        refine z_ri (z_rV S hK (c_X6_digit l E h a0 ln co p1 (by omega) (by omega) (hco)) gX6_goesOn_X6_digit rfl hv_X6_digit ⟨Nat.le_of_ble_eq_true rfl, Nat.le_of_ble_eq_true rfl⟩ (va_recv hK hP (ci := 6) (q0 := 0) rfl rfl) hP hl.1 rfl (Nat.le_of_ble_eq_true rfl) ⟨by decide, by decide⟩ rfl dX6_goesOn_88) (fun r_88 h_88 => ?_)
        have h_88b := zFi_rng h_88
        refine z_if_lt (tgt := 109) S dX6_goesOn_91 (by decide) (by omega) (fun c_91 => ?_) (fun c_91 => ?_)
        · skip
          refine z_iconst S dX6_goesOn_109 ?_
          exact hQ (0) (by omega) (by rw [zGo_kd (by omega)]; first | exact Or.inl ⟨rfl, zFi_pos h_88 (by omega), zB_t h_99 (by omega)⟩ | exact Or.inr ⟨rfl, fun z => zB_f h_99 (by omega) z.2⟩ | exact Or.inr ⟨rfl, fun z => zFi_neg h_88 (by omega) (by omega) z.1⟩) _ _ dX6_goesOn_110
        · skip
          refine lv_aload_n S.1 S.2.1 dX6_goesOn_94 rfl (lv_at hl 2 rfl) ?_
          refine lv_iload_n S.1 S.2.1 dX6_goesOn_95 rfl (lv_at hl 3 rfl) ?_
          refine lv_iload_n S.1 S.2.1 dX6_goesOn_96 rfl (lv_at hl 0 rfl) ?_
          refine z_isub S dX6_goesOn_97 ?_
          refine lv_iload_n S.1 S.2.1 dX6_goesOn_98 rfl (lv_at hl 0 rfl) ?_
          refine z_ri (z_rV S hK (c_X6_isPairGoingOn l E h a0 ln co (p1 - (p1 % 9)) (p1 % 9) (by omega) (by omega) (by omega) (by omega) (hco) (zAll_dig hgo (by omega) (by omega) (zFi_pos h_88 (by omega)))) gX6_goesOn_X6_isPairGoingOn rfl hv_X6_isPairGoingOn ⟨Nat.le_of_ble_eq_true rfl, Nat.le_of_ble_eq_true rfl⟩ (va_recv hK hP (ci := 6) (q0 := 0) rfl rfl) hP hl.1 rfl (Nat.le_of_ble_eq_true rfl) ⟨by decide, by decide⟩ rfl dX6_goesOn_99) (fun r_99 h_99 => ?_)
          refine z_if_eq (tgt := 109) S dX6_goesOn_102 (by decide) (by omega) (fun c_102 => ?_) (fun c_102 => ?_)
          · skip
            refine z_iconst S dX6_goesOn_109 ?_
            exact hQ (0) (by omega) (by rw [zGo_kd (by omega)]; first | exact Or.inl ⟨rfl, zFi_pos h_88 (by omega), zB_t h_99 (by omega)⟩ | exact Or.inr ⟨rfl, fun z => zB_f h_99 (by omega) z.2⟩ | exact Or.inr ⟨rfl, fun z => zFi_neg h_88 (by omega) (by omega) z.1⟩) _ _ dX6_goesOn_110
          · skip
            refine z_iconst S dX6_goesOn_105 ?_
            refine z_goto (tgt := 110) S dX6_goesOn_106 (by decide) ?_
            exact hQ (1) (by omega) (by rw [zGo_kd (by omega)]; first | exact Or.inl ⟨rfl, zFi_pos h_88 (by omega), zB_t h_99 (by omega)⟩ | exact Or.inr ⟨rfl, fun z => zB_f h_99 (by omega) z.2⟩ | exact Or.inr ⟨rfl, fun z => zFi_neg h_88 (by omega) (by omega) z.1⟩) _ _ dX6_goesOn_110
      · skip
        refine lv_iload_n S.1 S.2.1 dX6_goesOn_68 rfl (lv_at hl 1 rfl) ?_
        refine z_bipush S (by decide +kernel) dX6_goesOn_69 ?_
        refine z_icmp_ne (tgt := 84) S dX6_goesOn_71 (by decide) (by omega) (fun c_71 => ?_) (fun c_71 => ?_)
        · skip
          refine z_iconst S dX6_goesOn_84 ?_
          exact hQ (0) (by omega) (by rw [zGo_k8 (by omega)]; omega) _ _ dX6_goesOn_85
        · skip
          refine lv_iload_n S.1 S.2.1 dX6_goesOn_74 rfl (lv_at hl 3 rfl) ?_
          refine z_bipush S (by decide +kernel) dX6_goesOn_75 ?_
          refine z_icmp_ge (tgt := 84) S dX6_goesOn_77 (by decide) (by omega) (fun c_77 => ?_) (fun c_77 => ?_)
          · skip
            refine z_iconst S dX6_goesOn_84 ?_
            exact hQ (0) (by omega) (by rw [zGo_k8 (by omega)]; omega) _ _ dX6_goesOn_85
          · skip
            refine z_iconst S dX6_goesOn_80 ?_
            refine z_goto (tgt := 85) S dX6_goesOn_81 (by decide) ?_
            exact hQ (1) (by omega) (by rw [zGo_k8 (by omega)]; omega) _ _ dX6_goesOn_85
    · skip
      refine lv_iload_n S.1 S.2.1 dX6_goesOn_44 rfl (lv_at hl 1 rfl) ?_
      refine z_bipush S (by decide +kernel) dX6_goesOn_45 ?_
      refine z_icmp_eq (tgt := 56) S dX6_goesOn_47 (by decide) (by omega) (fun c_47 => ?_) (fun c_47 => ?_)
      · skip
        refine z_iconst S dX6_goesOn_56 ?_
        refine z_goto (tgt := 61) S dX6_goesOn_57 (by decide) ?_
        exact hQ (1) (by omega) (by rw [zGo_k1 (by omega)]; omega) _ _ dX6_goesOn_61
      · skip
        refine lv_iload_n S.1 S.2.1 dX6_goesOn_50 rfl (lv_at hl 1 rfl) ?_
        refine z_bipush S (by decide +kernel) dX6_goesOn_51 ?_
        refine z_icmp_ne (tgt := 60) S dX6_goesOn_53 (by decide) (by omega) (fun c_53 => ?_) (fun c_53 => ?_)
        · skip
          refine z_iconst S dX6_goesOn_60 ?_
          exact hQ (0) (by omega) (by rw [zGo_k1 (by omega)]; omega) _ _ dX6_goesOn_61
        · skip
          refine z_iconst S dX6_goesOn_56 ?_
          refine z_goto (tgt := 61) S dX6_goesOn_57 (by decide) ?_
          exact hQ (1) (by omega) (by rw [zGo_k1 (by omega)]; omega) _ _ dX6_goesOn_61
  · skip
    refine lv_iload_n S.1 S.2.1 dX6_goesOn_15 rfl (lv_at hl 1 rfl) ?_
    refine z_bipush S (by decide +kernel) dX6_goesOn_16 ?_
    refine z_icmp_eq (tgt := 33) S dX6_goesOn_18 (by decide) (by omega) (fun c_18 => ?_) (fun c_18 => ?_)
    · skip
      refine z_iconst S dX6_goesOn_33 ?_
      refine z_goto (tgt := 38) S dX6_goesOn_34 (by decide) ?_
      exact hQ (1) (by omega) (by rw [zGo_k0 (by omega)]; omega) _ _ dX6_goesOn_38
    · skip
      refine lv_iload_n S.1 S.2.1 dX6_goesOn_21 rfl (lv_at hl 1 rfl) ?_
      refine z_bipush S (by decide +kernel) dX6_goesOn_22 ?_
      refine z_icmp_eq (tgt := 33) S dX6_goesOn_24 (by decide) (by omega) (fun c_24 => ?_) (fun c_24 => ?_)
      · skip
        refine z_iconst S dX6_goesOn_33 ?_
        refine z_goto (tgt := 38) S dX6_goesOn_34 (by decide) ?_
        exact hQ (1) (by omega) (by rw [zGo_k0 (by omega)]; omega) _ _ dX6_goesOn_38
      · skip
        refine lv_iload_n S.1 S.2.1 dX6_goesOn_27 rfl (lv_at hl 1 rfl) ?_
        refine z_bipush S (by decide +kernel) dX6_goesOn_28 ?_
        refine z_icmp_ne (tgt := 37) S dX6_goesOn_30 (by decide) (by omega) (fun c_30 => ?_) (fun c_30 => ?_)
        · skip
          refine z_iconst S dX6_goesOn_37 ?_
          exact hQ (0) (by omega) (by rw [zGo_k0 (by omega)]; omega) _ _ dX6_goesOn_38
        · skip
          refine z_iconst S dX6_goesOn_33 ?_
          refine z_goto (tgt := 38) S dX6_goesOn_34 (by decide) ?_
          exact hQ (1) (by omega) (by rw [zGo_k0 (by omega)]; omega) _ _ dX6_goesOn_38

set_option maxHeartbeats 1000000 in
set_option maxRecDepth 20000 in
theorem c_X6_firstFault (l : Launch) (E : zE) (h : Nat) (a0 : Nat) (ln : Int) (co : Int → Int) (hln : 0 ≤ ln ∧ ln ≤ 100) (hco : zRg co) : zRi l E yX6_firstFault wsX6_firstFault (zr 6 0 0) [.ref h] (fun H => zP E ([(h, .inr (6, [.ref a0, .int (jI ln)])), (a0, eI E 100 co)]) H) (fun r => zParse co ln r) := by
  refine zRi_of (own := RX6) (cc := cX6_firstFault) (maxL := 2) (by decide) rfl (Nat.le_of_ble_eq_true rfl) rfl ?_
  intro p e s m args below meth c Q S hK hP hQ ls hl
  have hl : lv_has ls 2 [(0, .ref h)] := hl
  refine z_iconst S dX6_firstFault_0 ?_
  refine lv_istore_n (lv' := [(1, .int (jI (0))), (0, .ref h)]) S.1 S.2.1 dX6_firstFault_1 rfl hl (by decide) rfl (fun ls hl => ?_)
  suffices HL_1 : ∀ (n_2 : Nat) (p1 : Int), (ln - p1).toNat < n_2 → (0 ≤ p1 ∧ p1 ≤ ln) → (zAllGo co p1) → ∀ (ls : Array Slot), lv_has ls 2 [(1, .int (jI (p1))), (0, .ref h)] → W p l e (zr 6 0 0) s m args below meth c s.heap [] 0 0 Q (F0 m 2 ls []) from
    HL_1 _ 0 (Nat.lt_succ_self _) (by omega) (zall_0) ls (lv_sub hl [0, 1] rfl)
  intro n_2
  induction n_2 with
  | zero => intro p1 hm hp hgo; exact absurd hm (Nat.not_lt_zero _)
  | succ n_2 ih_3 =>
    intro p1 hm hp hgo ls hl
    refine lv_iload_n S.1 S.2.1 dX6_firstFault_2 rfl (lv_at hl 0 rfl) ?_
    refine lv_aload_n S.1 S.2.1 dX6_firstFault_3 rfl (lv_at hl 1 rfl) ?_
    refine z_get S hK hP 0 rfl rfl 1 (by decide) i_X6_firstFault_6 q_X6_firstFault_1 rfl dX6_firstFault_4 ?_
    refine z_icmp_ge (tgt := 40) S dX6_firstFault_7 (by decide) (by omega) (fun c_7 => ?_) (fun c_7 => ?_)
    · skip
      refine lv_aload_n S.1 S.2.1 dX6_firstFault_40 rfl (lv_at hl 1 rfl) ?_
      refine z_get S hK hP 0 rfl rfl 1 (by decide) i_X6_firstFault_6 q_X6_firstFault_1 rfl dX6_firstFault_41 ?_
      refine z_bipush S (by decide +kernel) dX6_firstFault_44 ?_
      refine z_irem S (by omega) (by omega) dX6_firstFault_46 ?_
      refine z_bipush S (by decide +kernel) dX6_firstFault_47 ?_
      refine z_icmp_ne (tgt := 56) S dX6_firstFault_49 (by decide) (by omega) (fun c_49 => ?_) (fun c_49 => ?_)
      · skip
        refine lv_aload_n S.1 S.2.1 dX6_firstFault_56 rfl (lv_at hl 1 rfl) ?_
        refine z_get S hK hP 0 rfl rfl 1 (by decide) i_X6_firstFault_6 q_X6_firstFault_1 rfl dX6_firstFault_57 ?_
        exact hQ (ln) (by have e : p1 = ln := (by omega); rw [e] at hgo; first | exact Or.inl ⟨rfl, by omega, hgo⟩ | exact zParse_end hgo (by omega)) _ _ dX6_firstFault_60
      · skip
        refine z_iconst S dX6_firstFault_52 ?_
        refine z_goto (tgt := 60) S dX6_firstFault_53 (by decide) ?_
        exact hQ (-1) (by have e : p1 = ln := (by omega); rw [e] at hgo; first | exact Or.inl ⟨rfl, by omega, hgo⟩ | exact zParse_end hgo (by omega)) _ _ dX6_firstFault_60
    · skip
      refine lv_aload_n S.1 S.2.1 dX6_firstFault_10 rfl (lv_at hl 1 rfl) ?_
      refine lv_iload_n S.1 S.2.1 dX6_firstFault_11 rfl (lv_at hl 0 rfl) ?_
      refine z_ri (z_rV S hK (c_X6_goesOn l E h a0 ln co p1 (by omega) (by omega) (hco) (hgo)) gX6_firstFault_X6_goesOn rfl hv_X6_goesOn ⟨Nat.le_of_ble_eq_true rfl, Nat.le_of_ble_eq_true rfl⟩ (va_recv hK hP (ci := 6) (q0 := 0) rfl rfl) hP hl.1 rfl (Nat.le_of_ble_eq_true rfl) ⟨by decide, by decide⟩ rfl dX6_firstFault_12) (fun r_12 h_12 => ?_)
      refine z_if_ne (tgt := 34) S dX6_firstFault_15 (by decide) (by omega) (fun c_15 => ?_) (fun c_15 => ?_)
      · skip
        refine z_iinc (lv' := [(1, .int (jI (p1 + 1))), (0, .ref h)]) S hl (k := 0) rfl (by decide) rfl dX6_firstFault_34 (fun ls hl => ?_)
        refine z_goto (tgt := 2) S dX6_firstFault_37 (by decide) ?_
        exact ih_3 (p1 + 1) (by omega) (by omega) (zAllGo_next hgo (zB_t h_12 (by omega))) ls (lv_sub hl [0, 1] rfl)
      · skip
        refine lv_aload_n S.1 S.2.1 dX6_firstFault_18 rfl (lv_at hl 1 rfl) ?_
        refine lv_iload_n S.1 S.2.1 dX6_firstFault_19 rfl (lv_at hl 0 rfl) ?_
        refine z_ri (z_rV S hK (c_X6_isSecondDigit l E h a0 ln co p1 (by omega) (by omega) (hco)) gX6_firstFault_X6_isSecondDigit rfl hv_X6_isSecondDigit ⟨Nat.le_of_ble_eq_true rfl, Nat.le_of_ble_eq_true rfl⟩ (va_recv hK hP (ci := 6) (q0 := 0) rfl rfl) hP hl.1 rfl (Nat.le_of_ble_eq_true rfl) ⟨by decide, by decide⟩ rfl dX6_firstFault_20) (fun r_20 h_20 => ?_)
        refine z_if_eq (tgt := 32) S dX6_firstFault_23 (by decide) (by omega) (fun c_23 => ?_) (fun c_23 => ?_)
        · skip
          refine lv_iload_n S.1 S.2.1 dX6_firstFault_32 rfl (lv_at hl 0 rfl) ?_
          exact hQ (p1) (by first | exact zParse_sec hgo (by omega) (zB_f h_12 (by omega)) (zB_t h_20 (by omega)) rfl | exact zParse_at hgo (by omega) (zB_f h_12 (by omega)) (zB_f h_20 (by omega))) _ _ dX6_firstFault_33
        · skip
          refine lv_iload_n S.1 S.2.1 dX6_firstFault_26 rfl (lv_at hl 0 rfl) ?_
          refine z_iconst S dX6_firstFault_27 ?_
          refine z_isub S dX6_firstFault_28 ?_
          refine z_goto (tgt := 33) S dX6_firstFault_29 (by decide) ?_
          exact hQ (p1 - 1) (by first | exact zParse_sec hgo (by omega) (zB_f h_12 (by omega)) (zB_t h_20 (by omega)) rfl | exact zParse_at hgo (by omega) (zB_f h_12 (by omega)) (zB_f h_20 (by omega))) _ _ dX6_firstFault_33

set_option maxHeartbeats 1000000 in
set_option maxRecDepth 20000 in
theorem c_X6_read (l : Launch) (E : zE) (h : Nat) (a0 : Nat) (sh : Nat) (s0 : Nat) (s1 : Nat) (s2 : Nat) (ln : Int) (co : Int → Int) (ce : Int → Int) (la : Int → Int) (si : Int → Int) (k : Int) (i : Int) (n : Int) (hk : 0 ≤ k ∧ k ≤ 3) (hn : 0 ≤ n ∧ n ≤ 100 ∧ 0 ≤ i ∧ i + n ≤ si k) (hls : zLs la si) (hln : 0 ≤ ln ∧ ln ≤ 100) (hce : zRg ce) (hco : zRg co) : zMv l E yX6_read wsX6_read (zr 4 0 0) [.ref h, .ref sh, .int (jI (k)), .int (jI (i)), .int (jI (n))] ([(h, .inr (6, [.ref a0, .int (jI ln)])), (a0, eI E 100 co), (sh, .inr (7, [.ref s0, .ref s1, .ref s2])), (s0, eI E 400 ce), (s1, eI E 4 la), (s2, eI E 4 si)]) (fun _ => True) (fun (u : Int → Int) => zRg u ∧ ∀ y, 0 ≤ y → y < n → u y = ce (100 * k + i + y)) (fun (u : Int → Int) => [(h, .inr (6, [.ref a0, .int (jI n)])), (a0, eI E 100 u), (sh, .inr (7, [.ref s0, .ref s1, .ref s2])), (s0, eI E 400 ce), (s1, eI E 4 la), (s2, eI E 4 si)]) 0 0 := by
  refine zMv_of (own := RX6) (cc := cX6_read) (maxL := 6) (by decide) rfl (Nat.le_of_ble_eq_true rfl) rfl ?_
  intro p e s m args below meth c Q A S hK hini hA hS hP hD hAe hG hQ ls hl
  have hl : lv_has ls 6 [(0, .ref h), (1, .ref sh), (2, .int (jI (k))), (3, .int (jI (i))), (4, .int (jI (n)))] := hl
  have hl2 := hls k (by omega) (by omega)
  obtain ⟨zn, hzn⟩ : ∃ z, z = zmin n ((100 : Nat) : Int) := ⟨_, rfl⟩
  have hzn2 : zn = n := by have := zmin_is n ((100 : Nat) : Int); omega
  refine lv_aload_n S.1 S.2.1 dX6_read_0 rfl (lv_at hl 0 rfl) ?_
  refine lv_iload S.1 S.2.1 dX6_read_1 (lv_at hl 4 rfl) ?_
  refine lv_aload_n S.1 S.2.1 dX6_read_3 rfl (lv_at hl 0 rfl) ?_
  refine z_get S hK hP 0 rfl rfl 0 (by decide) i_X6_read_6 q_X6_read_1 rfl dX6_read_4 ?_
  refine z_alen S hK hP 1 rfl dX6_read_7 ?_
  refine z_min S (by omega) q_X6_read_2 q_X6_read_3 q_X6_read_4 q_X6_read_5 hl.1 (by decide) (Nat.le_of_ble_eq_true rfl) (by decide) dX6_read_8 ?_
  have hm_1 := zmin_is n (((100 : Nat) : Int))
  rw [← hzn, hzn2]
  refine z_puti S hK hP hD hS 0 rfl rfl 1 (by decide) i_X6_read_6 q_X6_read_6 tyX6 tyX6_ok nmX6 rfl (by decide +kernel) (Nat.le_of_ble_eq_true rfl) dX6_read_11 (fun H locs hP hD hS => ?_)
  have hP : zP E ([(h, .inr (6, [.ref a0, .int (jI n)])), (a0, eI E 100 co), (sh, .inr (7, [.ref s0, .ref s1, .ref s2])), (s0, eI E 400 ce), (s1, eI E 4 la), (s2, eI E 4 si)]) H := hP
  have hD : va_D A ([(h, .inr (6, [.ref a0, .int (jI n)])), (a0, eI E 100 co), (sh, .inr (7, [.ref s0, .ref s1, .ref s2])), (s0, eI E 400 ce), (s1, eI E 4 la), (s2, eI E 4 si)]) := hD
  refine z_iconst S dX6_read_14 ?_
  refine lv_istore (lv' := [(5, .int (jI (0))), (0, .ref h), (1, .ref sh), (2, .int (jI (k))), (3, .int (jI (i))), (4, .int (jI (n)))]) S.1 S.2.1 dX6_read_15 hl (by decide) rfl (fun ls hl => ?_)
  suffices HL_2 : ∀ (n_3 : Nat) (y : Int) (g : Int → Int), (n - y).toNat < n_3 → (0 ≤ y ∧ y ≤ n) → (zRg g) → (∀ z, 0 ≤ z → z < y → g z = ce (100 * k + i + z)) → ∀ (H : Heap) (locs : List Loc), zP E ([(h, .inr (6, [.ref a0, .int (jI n)])), (a0, eI E 100 g), (sh, .inr (7, [.ref s0, .ref s1, .ref s2])), (s0, eI E 400 ce), (s1, eI E 4 la), (s2, eI E 4 si)]) H → va_D A ([(h, .inr (6, [.ref a0, .int (jI n)])), (a0, eI E 100 g), (sh, .inr (7, [.ref s0, .ref s1, .ref s2])), (s0, eI E 400 ce), (s1, eI E 4 la), (s2, eI E 4 si)]) → va_S A s.heap H locs → ∀ (ls : Array Slot), lv_has ls 6 [(5, .int (jI (y))), (0, .ref h), (1, .ref sh), (2, .int (jI (k))), (3, .int (jI (i))), (4, .int (jI (n)))] → W p l e (zr 4 0 0) s m args below meth c H locs 0 0 Q (F0 m 17 ls []) from
    HL_2 _ 0 co (Nat.lt_succ_self _) (by omega) (hco) (zall_0) _ _ hP hD hS ls (lv_sub hl [0, 1, 2, 3, 4, 5] rfl)
  intro n_3
  induction n_3 with
  | zero => intro y g hm hy hg hg2; exact absurd hm (Nat.not_lt_zero _)
  | succ n_3 ih_4 =>
    intro y g hm hy hg hg2 H locs hP hD hS ls hl
    refine lv_iload S.1 S.2.1 dX6_read_17 (lv_at hl 0 rfl) ?_
    refine lv_aload_n S.1 S.2.1 dX6_read_19 rfl (lv_at hl 1 rfl) ?_
    refine z_get S hK hP 0 rfl rfl 1 (by decide) i_X6_read_6 q_X6_read_6 rfl dX6_read_20 ?_
    refine z_icmp_ge (tgt := 58) S dX6_read_23 (by decide) (by omega) (fun c_23 => ?_) (fun c_23 => ?_)
    · skip
      exact hQ (g) _ _ (⟨hg, fun z q1 q2 => hg2 z q1 (by omega)⟩) hP hD hS _ _ dX6_read_58
    · skip
      refine lv_iload S.1 S.2.1 dX6_read_26 (lv_at hl 0 rfl) ?_
      refine lv_aload_n S.1 S.2.1 dX6_read_28 rfl (lv_at hl 1 rfl) ?_
      refine z_get S hK hP 0 rfl rfl 0 (by decide) i_X6_read_6 q_X6_read_1 rfl dX6_read_29 ?_
      refine z_alen S hK hP 1 rfl dX6_read_32 ?_
      refine z_icmp_ge (tgt := 58) S dX6_read_33 (by decide) (by omega) (fun c_33 => ?_) (fun c_33 => ?_)
      · omega
      · skip
        refine lv_aload_n S.1 S.2.1 dX6_read_36 rfl (lv_at hl 1 rfl) ?_
        refine z_get S hK hP 0 rfl rfl 0 (by decide) i_X6_read_6 q_X6_read_1 rfl dX6_read_37 ?_
        refine lv_iload S.1 S.2.1 dX6_read_40 (lv_at hl 0 rfl) ?_
        refine lv_aload_n S.1 S.2.1 dX6_read_42 rfl (lv_at hl 2 rfl) ?_
        refine lv_iload_n S.1 S.2.1 dX6_read_43 rfl (lv_at hl 3 rfl) ?_
        refine lv_iload_n S.1 S.2.1 dX6_read_44 rfl (lv_at hl 4 rfl) ?_
        refine lv_iload S.1 S.2.1 dX6_read_45 (lv_at hl 0 rfl) ?_
        refine z_iadd S dX6_read_47 ?_
        refine z_ri (z_rV S hK (c_X7_at l E sh s0 s1 s2 ce la si k (i + y) (by omega) (by omega) (hls)) gX6_read_X7_at rfl hv_X7_at ⟨Nat.le_of_ble_eq_true rfl, Nat.le_of_ble_eq_true rfl⟩ (va_recv hK hP (ci := 7) (q0 := 2) rfl rfl) (hP.sub [2, 3, 4, 5] rfl) hl.1 rfl (Nat.le_of_ble_eq_true rfl) ⟨by decide, by decide⟩ rfl dX6_read_48) (fun r_48 h_48 => ?_)
        have hat : r_48 = ce (100 * k + i + y) := by
          rcases h_48 with ⟨q1, q2⟩ | ⟨q1, q2⟩
          · rw [q2, show 100 * k + (i + y) = 100 * k + i + y by omega]
          · omega
        have hg3 : zRg (zu g y r_48) := fun z => by
          by_cases e : z = y
          · rw [zu_e e, hat]; exact hce _
          · rw [zu_n e]; exact hg z
        refine z_iast S hK hP hD hS 1 rfl (by omega) dX6_read_51 (fun H locs hP hD hS => ?_)
        have hP : zP E ([(h, .inr (6, [.ref a0, .int (jI n)])), (a0, eI E 100 (zu g y r_48)), (sh, .inr (7, [.ref s0, .ref s1, .ref s2])), (s0, eI E 400 ce), (s1, eI E 4 la), (s2, eI E 4 si)]) H := hP
        have hD : va_D A ([(h, .inr (6, [.ref a0, .int (jI n)])), (a0, eI E 100 (zu g y r_48)), (sh, .inr (7, [.ref s0, .ref s1, .ref s2])), (s0, eI E 400 ce), (s1, eI E 4 la), (s2, eI E 4 si)]) := hD
        refine z_iinc (lv' := [(5, .int (jI (y + 1))), (0, .ref h), (1, .ref sh), (2, .int (jI (k))), (3, .int (jI (i))), (4, .int (jI (n)))]) S hl (k := 0) rfl (by decide) rfl dX6_read_52 (fun ls hl => ?_)
        refine z_goto (tgt := 17) S dX6_read_55 (by decide) ?_
        exact ih_4 (y + 1) (zu g y r_48) (by omega) (by omega) (hg3) (zall_step (fun z q1 q2 => by rw [zu_n (by omega)]; exact hg2 z q1 q2) (by rw [zu_s]; exact hat)) _ _ hP hD hS ls (lv_sub hl [0, 1, 2, 3, 4, 5] rfl)
