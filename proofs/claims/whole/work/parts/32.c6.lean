theorem i_X4_size_4 : ∀ w ∈ u_ws RX4 TX4 2, w ∈ wsX4_size := fun w h => List.mem_cons_of_mem _ (List.mem_append_right _ h)
theorem q_X4_size_1 : Cond.fieldLink RX4 17 "LivingNumbers$People" "size" "I" ∈ wsX4_size := List.mem_of_getElem? (i := 1) rfl
theorem i_X4_one_4 : ∀ w ∈ u_ws RX4 TX4 2, w ∈ wsX4_one := fun w h => List.mem_cons_of_mem _ (List.mem_append_right _ h)
theorem q_X4_one_1 : Cond.fieldLink RX4 17 "LivingNumbers$People" "size" "I" ∈ wsX4_one := List.mem_of_getElem? (i := 1) rfl
theorem q_X4_one_2 : Cond.fieldLink RX4 11 "LivingNumbers$People" "ones" "[LLivingNumbers$Named;" ∈ wsX4_one := List.mem_of_getElem? (i := 2) rfl
theorem i_X4_bearer_4 : ∀ w ∈ u_ws RX4 TX4 2, w ∈ wsX4_bearer := fun w h => List.mem_cons_of_mem _ (List.mem_append_left _ (List.mem_append_left _ (List.mem_append_left _ (List.mem_append_right _ h))))
theorem q_X4_bearer_1 : Cond.fieldLink RX4 17 "LivingNumbers$People" "size" "I" ∈ wsX4_bearer := List.mem_of_getElem? (i := 1) rfl
theorem hv_X4_one : yX4_one.cls = RX4 ∧ yX4_one.cls ≠ "java/lang/invoke/MethodHandle" ∧ yX4_one.cls ≠ "java/lang/invoke/VarHandle" ∧ (parseMethodDescriptor yX4_one.desc).map (fun d => d.parameters.length) = some 1 := by decide +kernel
theorem hv_X3_number : yX3_number.cls = RX3 ∧ yX3_number.cls ≠ "java/lang/invoke/MethodHandle" ∧ yX3_number.cls ≠ "java/lang/invoke/VarHandle" ∧ (parseMethodDescriptor yX3_number.desc).map (fun d => d.parameters.length) = some 0 := by decide +kernel
theorem hu_2__II_Z : "LivingNumbers$Named" ≠ "java/lang/invoke/MethodHandle" ∧ "LivingNumbers$Named" ≠ "java/lang/invoke/VarHandle" ∧ (parseMethodDescriptor "(II)Z").map (fun d => d.parameters.length) = some 2 := by decide +kernel
theorem hv_X3_isHeard : yX3_isHeard.cls = RX3 ∧ yX3_isHeard.cls ≠ "java/lang/invoke/MethodHandle" ∧ yX3_isHeard.cls ≠ "java/lang/invoke/VarHandle" ∧ (parseMethodDescriptor yX3_isHeard.desc).map (fun d => d.parameters.length) = some 2 := by decide +kernel
theorem hv_X0_clear : yX0_clear.cls = RX0 ∧ yX0_clear.cls ≠ "java/lang/invoke/MethodHandle" ∧ yX0_clear.cls ≠ "java/lang/invoke/VarHandle" ∧ (parseMethodDescriptor yX0_clear.desc).map (fun d => d.parameters.length) = some 0 := by decide +kernel
theorem i_X4_teach_4 : ∀ w ∈ u_ws RX4 TX4 2, w ∈ wsX4_teach := fun w h => List.mem_cons_of_mem _ (List.mem_append_left _ (List.mem_append_left _ (List.mem_append_left _ (List.mem_append_left _ (List.mem_append_right _ h)))))
theorem q_X4_teach_1 : Cond.fieldLink RX4 17 "LivingNumbers$People" "size" "I" ∈ wsX4_teach := List.mem_of_getElem? (i := 1) rfl
theorem hv_X0_add : yX0_add.cls = RX0 ∧ yX0_add.cls ≠ "java/lang/invoke/MethodHandle" ∧ yX0_add.cls ≠ "java/lang/invoke/VarHandle" ∧ (parseMethodDescriptor yX0_add.desc).map (fun d => d.parameters.length) = some 1 := by decide +kernel
theorem i_X4_greatestStep_4 : ∀ w ∈ u_ws RX4 TX4 2, w ∈ wsX4_greatestStep := fun w h => List.mem_cons_of_mem _ (List.mem_append_left _ (List.mem_append_left _ (List.mem_append_left _ (List.mem_append_left _ (List.mem_append_right _ h)))))
theorem q_X4_greatestStep_1 : Cond.fieldLink RX4 17 "LivingNumbers$People" "size" "I" ∈ wsX4_greatestStep := List.mem_of_getElem? (i := 1) rfl
set_option maxHeartbeats 1000000 in
set_option maxRecDepth 20000 in
theorem c_X4_size (l : Launch) (E : zE) (h : Nat) (a0 : Nat) (n : Int) (on : Nat → Option Nat) : zRi l E yX4_size wsX4_size (zr 1 0 0) [.ref h] (fun H => zP E ([(h, .inr (4, [.ref a0, .int (jI n)])), (a0, eN E 10 on)]) H) (fun r => r = n) := by
  refine zRi_of (own := RX4) (cc := cX4_size) (maxL := 1) (by decide) rfl (Nat.le_of_ble_eq_true rfl) rfl ?_
  intro p e s m args below meth c Q S hK hP hQ ls hl
  have hl : lv_has ls 1 [(0, .ref h)] := hl
  refine lv_aload_n S.1 S.2.1 dX4_size_0 rfl (lv_at hl 0 rfl) ?_
  refine z_get S hK hP 0 rfl rfl 1 (by decide) i_X4_size_4 q_X4_size_1 rfl dX4_size_1 ?_
  exact hQ (n) (rfl) _ _ dX4_size_4

set_option maxHeartbeats 1000000 in
set_option maxRecDepth 20000 in
theorem c_X4_one (l : Launch) (E : zE) (h : Nat) (a0 : Nat) (n : Int) (on : Nat → Option Nat) (x : Int) (an : Int → Nat) (h_x : -2147483648 ≤ x ∧ x ≤ 2147483647) (hp : 0 ≤ n ∧ n ≤ 10) (hon : zOns n on an) : zRq l E yX4_one wsX4_one (zr 1 0 0) [.ref h, .int (jI (x))] (fun H => zP E ([(h, .inr (4, [.ref a0, .int (jI n)])), (a0, eN E 10 on)]) H) (fun r => (r = some (an x) ∧ (0 ≤ x ∧ x < n)) ∨ (r = none ∧ (x < 0 ∨ n ≤ x))) := by
  refine zRq_of (own := RX4) (cc := cX4_one) (maxL := 2) (by decide) rfl (Nat.le_of_ble_eq_true rfl) rfl ?_
  intro p e s m args below meth c Q S hK hP hQ ls hl
  have hl : lv_has ls 2 [(0, .ref h), (1, .int (jI (x)))] := hl
  refine lv_iload_n S.1 S.2.1 dX4_one_0 rfl (lv_at hl 1 rfl) ?_
  refine z_if_lt (tgt := 30) S dX4_one_1 (by decide) (by omega) (fun c_1 => ?_) (fun c_1 => ?_)
  · skip
    refine lv_null S.1 S.2.1 dX4_one_30 ?_
    exact hQ none (by first | exact Or.inl ⟨hon x (by omega) (by omega), by omega⟩ | exact Or.inr ⟨rfl, by omega⟩) _ _ dX4_one_31
  · skip
    refine lv_iload_n S.1 S.2.1 dX4_one_4 rfl (lv_at hl 1 rfl) ?_
    refine lv_aload_n S.1 S.2.1 dX4_one_5 rfl (lv_at hl 0 rfl) ?_
    refine z_get S hK hP 0 rfl rfl 1 (by decide) i_X4_one_4 q_X4_one_1 rfl dX4_one_6 ?_
    refine z_icmp_ge (tgt := 30) S dX4_one_9 (by decide) (by omega) (fun c_9 => ?_) (fun c_9 => ?_)
    · skip
      refine lv_null S.1 S.2.1 dX4_one_30 ?_
      exact hQ none (by first | exact Or.inl ⟨hon x (by omega) (by omega), by omega⟩ | exact Or.inr ⟨rfl, by omega⟩) _ _ dX4_one_31
    · skip
      refine lv_iload_n S.1 S.2.1 dX4_one_12 rfl (lv_at hl 1 rfl) ?_
      refine lv_aload_n S.1 S.2.1 dX4_one_13 rfl (lv_at hl 0 rfl) ?_
      refine z_get S hK hP 0 rfl rfl 0 (by decide) i_X4_one_4 q_X4_one_2 rfl dX4_one_14 ?_
      refine z_qlen S hK hP 1 rfl dX4_one_17 ?_
      refine z_icmp_ge (tgt := 30) S dX4_one_18 (by decide) (by omega) (fun c_18 => ?_) (fun c_18 => ?_)
      · omega
      · skip
        refine lv_aload_n S.1 S.2.1 dX4_one_21 rfl (lv_at hl 0 rfl) ?_
        refine z_get S hK hP 0 rfl rfl 0 (by decide) i_X4_one_4 q_X4_one_2 rfl dX4_one_22 ?_
        refine lv_iload_n S.1 S.2.1 dX4_one_25 rfl (lv_at hl 1 rfl) ?_
        refine z_qald S hK hP 1 rfl (by omega) dX4_one_26 ?_
        refine z_goto (tgt := 31) S dX4_one_27 (by decide) ?_
        exact hQ (on (x).toNat) (by first | exact Or.inl ⟨hon x (by omega) (by omega), by omega⟩ | exact Or.inr ⟨rfl, by omega⟩) _ _ dX4_one_31

set_option maxHeartbeats 1000000 in
set_option maxRecDepth 20000 in
theorem c_X4_bearer (l : Launch) (E : zE) (h : Nat) (a0 : Nat) (n : Int) (on : Nat → Option Nat) (an : Int → Nat) (kd vl nb fr tl : Int → Int) (num : Int) (v : Int) (d : Int) (h_num : -2147483648 ≤ num ∧ num ≤ 2147483647) (h_v : -2147483648 ≤ v ∧ v ≤ 2147483647) (h_d : -2147483648 ≤ d ∧ d ≤ 2147483647) (hp : 0 ≤ n ∧ n ≤ 10) (hon : zOns n on an) (hpe : zPeo n kd vl nb fr tl) : zRi l E yX4_bearer wsX4_bearer (zr 3 0 0) [.ref h, .int (jI (num)), .int (jI (v)), .int (jI (d))] (fun H => zP E ([(h, .inr (4, [.ref a0, .int (jI n)])), (a0, eN E 10 on)]) H ∧ zNm E n an kd vl nb fr tl H) (fun r => zBear nb (fun x => zlive kd vl fr tl x v d) n num r) := by
  refine zRi_of (own := RX4) (cc := cX4_bearer) (maxL := 6) (by decide) rfl (Nat.le_of_ble_eq_true rfl) rfl ?_
  intro p e s m args below meth c Q S hK hP hQ ls hl
  have hl : lv_has ls 6 [(0, .ref h), (1, .int (jI (num))), (2, .int (jI (v))), (3, .int (jI (d)))] := hl
  obtain ⟨hP, hN⟩ := hP
  refine z_iconst S dX4_bearer_0 ?_
  refine lv_istore (lv' := [(4, .int (jI (0))), (0, .ref h), (1, .int (jI (num))), (2, .int (jI (v))), (3, .int (jI (d)))]) S.1 S.2.1 dX4_bearer_1 hl (by decide) rfl (fun ls hl => ?_)
  suffices HL_1 : ∀ (n_2 : Nat) (x : Int), (n - x).toNat < n_2 → (0 ≤ x ∧ x ≤ n) → (∀ y, 0 ≤ y → y < x → ¬ (nb y = num ∧ zlive kd vl fr tl y v d)) → ∀ (ls : Array Slot), lv_has ls 6 [(4, .int (jI (x))), (0, .ref h), (1, .int (jI (num))), (2, .int (jI (v))), (3, .int (jI (d)))] → W p l e (zr 3 0 0) s m args below meth c s.heap [] 0 0 Q (F0 m 3 ls []) from
    HL_1 _ 0 (Nat.lt_succ_self _) (by omega) (zall_0) ls (lv_sub hl [0, 1, 2, 3, 4] rfl)
  intro n_2
  induction n_2 with
  | zero => intro x hm hx hno; exact absurd hm (Nat.not_lt_zero _)
  | succ n_2 ih_3 =>
    intro x hm hx hno ls hl
    refine lv_iload S.1 S.2.1 dX4_bearer_3 (lv_at hl 0 rfl) ?_
    refine lv_aload_n S.1 S.2.1 dX4_bearer_5 rfl (lv_at hl 1 rfl) ?_
    refine z_get S hK hP 0 rfl rfl 1 (by decide) i_X4_bearer_4 q_X4_bearer_1 rfl dX4_bearer_6 ?_
    refine z_icmp_ge (tgt := 53) S dX4_bearer_9 (by decide) (by omega) (fun c_9 => ?_) (fun c_9 => ?_)
    · skip
      refine z_bipush S (by decide +kernel) dX4_bearer_53 ?_
      exact hQ (-9) (by first | exact Or.inr ⟨by omega, ⟨by omega, zB_t h_38 (by omega)⟩, hno⟩ | exact Or.inl ⟨rfl, fun y q1 q2 => hno y q1 (by omega)⟩) _ _ dX4_bearer_55
    · skip
      refine lv_aload_n S.1 S.2.1 dX4_bearer_12 rfl (lv_at hl 1 rfl) ?_
      refine lv_iload S.1 S.2.1 dX4_bearer_13 (lv_at hl 0 rfl) ?_
      refine z_rq (z_rV S hK (c_X4_one l E h a0 n on x an (by omega) (by omega) (hon)) gX4_bearer_X4_one rfl hv_X4_one ⟨Nat.le_of_ble_eq_true rfl, Nat.le_of_ble_eq_true rfl⟩ (va_recv hK hP (ci := 4) (q0 := 0) rfl rfl) hP hl.1 rfl (Nat.le_of_ble_eq_true rfl) ⟨by decide, by decide⟩ rfl dX4_bearer_15) (fun r_15 h_15 => ?_)
      rcases h_15 with ⟨e_15, hx_15⟩ | ⟨e_15, hx_15⟩
      · subst e_15
        refine W.eq (g2 := F0 m 18 ls [.ref (an x)]) rfl ?_
        refine lv_astore (lv' := [(5, .ref (an x)), (4, .int (jI (x))), (0, .ref h), (1, .int (jI (num))), (2, .int (jI (v))), (3, .int (jI (d)))]) S.1 S.2.1 dX4_bearer_18 hl (by decide) rfl (fun ls hl => ?_)
        refine lv_aload S.1 S.2.1 dX4_bearer_20 (lv_at hl 0 rfl) ?_
        refine lv_ifnull S.1 S.2.1 dX4_bearer_22 ?_
        refine lv_aload S.1 S.2.1 dX4_bearer_25 (lv_at hl 0 rfl) ?_
        have hv_27 := hpe x (by omega) (by omega)
        refine z_ri (post := fun r => r = nb x) (av := ([.ref (an x)] : List Value).toArray) (by
          have hk3 : kd x = 2 ∨ kd x = 1 ∨ kd x = 0 := (by omega)
          rcases hk3 with e | e | e
          · exact (z_rU S hK (c_X3_number_1 l E (an x) (vl x) (nb x) (fr x) (tl x)) gX4_bearer_X3_number_u38X1 rfl rfl hu_0___I ⟨Nat.le_of_ble_eq_true rfl, Nat.le_of_ble_eq_true rfl⟩ (va_recv hK (zNm_k hN (x := x) (ci := 1) (by omega) e rfl) (ci := 1) (q0 := 0) rfl rfl) (zNm_k hN (x := x) (ci := 1) (by omega) e rfl) hl.1 rfl (Nat.le_of_ble_eq_true rfl) ⟨by decide, by decide⟩ rfl dX4_bearer_27)
          · exact (z_rU S hK (c_X3_number_2 l E (an x) (vl x) (nb x) (fr x) (tl x)) gX4_bearer_X3_number_u38X2 rfl rfl hu_0___I ⟨Nat.le_of_ble_eq_true rfl, Nat.le_of_ble_eq_true rfl⟩ (va_recv hK (zNm_k hN (x := x) (ci := 2) (by omega) e rfl) (ci := 2) (q0 := 0) rfl rfl) (zNm_k hN (x := x) (ci := 2) (by omega) e rfl) hl.1 rfl (Nat.le_of_ble_eq_true rfl) ⟨by decide, by decide⟩ rfl dX4_bearer_27)
          · exact (z_rV S hK (c_X3_number_3 l E (an x) (vl x) (nb x) (fr x) (tl x)) gX4_bearer_X3_number rfl hv_X3_number ⟨Nat.le_of_ble_eq_true rfl, Nat.le_of_ble_eq_true rfl⟩ (va_recv hK (zNm_k hN (x := x) (ci := 3) (by omega) e rfl) (ci := 3) (q0 := 0) rfl rfl) (zNm_k hN (x := x) (ci := 3) (by omega) e rfl) hl.1 rfl (Nat.le_of_ble_eq_true rfl) ⟨by decide, by decide⟩ rfl dX4_bearer_27)) (fun r_27 h_27 => ?_)
        rw [h_27]
        refine lv_iload_n S.1 S.2.1 dX4_bearer_30 rfl (lv_at hl 3 rfl) ?_
        refine z_icmp_ne (tgt := 47) S dX4_bearer_31 (by decide) (by omega) (fun c_31 => ?_) (fun c_31 => ?_)
        · skip
          refine z_iinc (lv' := [(4, .int (jI (x + 1))), (5, .ref (an x)), (0, .ref h), (1, .int (jI (num))), (2, .int (jI (v))), (3, .int (jI (d)))]) S hl (k := 1) rfl (by decide) rfl dX4_bearer_47 (fun ls hl => ?_)
          refine z_goto (tgt := 3) S dX4_bearer_50 (by decide) ?_
          exact ih_3 (x + 1) (by omega) (by omega) (zall_step hno (fun q => by first | exact c_31 q.1 | exact zB_f h_38 (by omega) q.2)) ls (lv_sub hl [0, 2, 3, 4, 5] rfl)
        · skip
          refine lv_aload S.1 S.2.1 dX4_bearer_34 (lv_at hl 0 rfl) ?_
          refine lv_iload_n S.1 S.2.1 dX4_bearer_36 rfl (lv_at hl 4 rfl) ?_
          refine lv_iload_n S.1 S.2.1 dX4_bearer_37 rfl (lv_at hl 5 rfl) ?_
          have hv_38 := hpe x (by omega) (by omega)
          refine z_ri (post := fun r => (r = 1 ∧ (zlv (kd x) (vl x) (fr x) (tl x) v d)) ∨ (r = 0 ∧ ¬ (zlv (kd x) (vl x) (fr x) (tl x) v d))) (av := ([.ref (an x), .int (jI (v)), .int (jI (d))] : List Value).toArray) (by
            have hk3 : kd x = 2 ∨ kd x = 1 ∨ kd x = 0 := (by omega)
            rcases hk3 with e | e | e
            · exact (z_rU S hK (c_X3_isHeard_1 l E (an x) (vl x) (nb x) (fr x) (tl x) v d (kd x) (by omega) (by omega) (by omega) (by omega) (by omega) e) gX4_bearer_X3_isHeard_u41X1 rfl rfl hu_2__II_Z ⟨Nat.le_of_ble_eq_true rfl, Nat.le_of_ble_eq_true rfl⟩ (va_recv hK (zNm_k hN (x := x) (ci := 1) (by omega) e rfl) (ci := 1) (q0 := 0) rfl rfl) (zNm_k hN (x := x) (ci := 1) (by omega) e rfl) hl.1 rfl (Nat.le_of_ble_eq_true rfl) ⟨by decide, by decide⟩ rfl dX4_bearer_38)
            · exact (z_rU S hK (c_X3_isHeard_2 l E (an x) (vl x) (nb x) (fr x) (tl x) v d (kd x) (by omega) (by omega) (by omega) (by omega) (by omega) e) gX4_bearer_X3_isHeard_u41X2 rfl rfl hu_2__II_Z ⟨Nat.le_of_ble_eq_true rfl, Nat.le_of_ble_eq_true rfl⟩ (va_recv hK (zNm_k hN (x := x) (ci := 2) (by omega) e rfl) (ci := 2) (q0 := 0) rfl rfl) (zNm_k hN (x := x) (ci := 2) (by omega) e rfl) hl.1 rfl (Nat.le_of_ble_eq_true rfl) ⟨by decide, by decide⟩ rfl dX4_bearer_38)
            · exact (z_rV S hK (c_X3_isHeard_3 l E (an x) (vl x) (nb x) (fr x) (tl x) v d (kd x) (by omega) (by omega) (by omega) (by omega) (by omega) e) gX4_bearer_X3_isHeard rfl hv_X3_isHeard ⟨Nat.le_of_ble_eq_true rfl, Nat.le_of_ble_eq_true rfl⟩ (va_recv hK (zNm_k hN (x := x) (ci := 3) (by omega) e rfl) (ci := 3) (q0 := 0) rfl rfl) (zNm_k hN (x := x) (ci := 3) (by omega) e rfl) hl.1 rfl (Nat.le_of_ble_eq_true rfl) ⟨by decide, by decide⟩ rfl dX4_bearer_38)) (fun r_38 h_38 => ?_)
          have h_38 : (r_38 = 1 ∧ (zlive kd vl fr tl x v d)) ∨ (r_38 = 0 ∧ ¬ (zlive kd vl fr tl x v d)) := h_38
          refine z_if_eq (tgt := 47) S dX4_bearer_41 (by decide) (by omega) (fun c_41 => ?_) (fun c_41 => ?_)
          · skip
            refine z_iinc (lv' := [(4, .int (jI (x + 1))), (5, .ref (an x)), (0, .ref h), (1, .int (jI (num))), (2, .int (jI (v))), (3, .int (jI (d)))]) S hl (k := 1) rfl (by decide) rfl dX4_bearer_47 (fun ls hl => ?_)
            refine z_goto (tgt := 3) S dX4_bearer_50 (by decide) ?_
            exact ih_3 (x + 1) (by omega) (by omega) (zall_step hno (fun q => by first | exact c_31 q.1 | exact zB_f h_38 (by omega) q.2)) ls (lv_sub hl [0, 2, 3, 4, 5] rfl)
          · skip
            refine lv_iload S.1 S.2.1 dX4_bearer_44 (lv_at hl 1 rfl) ?_
            exact hQ (x) (by first | exact Or.inr ⟨by omega, ⟨by omega, zB_t h_38 (by omega)⟩, hno⟩ | exact Or.inl ⟨rfl, fun y q1 q2 => hno y q1 (by omega)⟩) _ _ dX4_bearer_46
      · subst e_15
        omega

set_option maxHeartbeats 1000000 in
set_option maxRecDepth 20000 in
theorem c_X4_teach (l : Launch) (E : zE) (h : Nat) (a0 : Nat) (b : Nat) (b0 : Nat) (n : Int) (on : Nat → Option Nat) (fw : Int → Int) (an : Int → Nat) (kd vl nb fr tl : Int → Int) (v : Int) (d : Int) (wo : Int) (h_v : -2147483648 ≤ v ∧ v ≤ 2147483647) (h_d : -2147483648 ≤ d ∧ d ≤ 2147483647) (h_wo : -2147483648 ≤ wo ∧ wo ≤ 2147483647) (hp : 0 ≤ n ∧ n ≤ 10) (hon : zOns n on an) (hpe : zPeo n kd vl nb fr tl) (hap : zAp ([(h, .inr (4, [.ref a0, .int (jI n)])), (a0, eN E 10 on), (b, .inr (0, [.ref b0])), (b0, eI E 1000 fw)]) n an) : zMv l E yX4_teach wsX4_teach (zr 4 0 0) [.ref h, .ref b, .int (jI (v)), .int (jI (d)), .int (jI (wo))] ([(h, .inr (4, [.ref a0, .int (jI n)])), (a0, eN E 10 on), (b, .inr (0, [.ref b0])), (b0, eI E 1000 fw)]) (fun H => zNm E n an kd vl nb fr tl H) (fun (u : Int → Int) => zTab (zCanW nb (fun x => zlive kd vl fr tl x v d) wo n) u 999 1000000) (fun (u : Int → Int) => [(h, .inr (4, [.ref a0, .int (jI n)])), (a0, eN E 10 on), (b, .inr (0, [.ref b0])), (b0, eI E 1000 u)]) 0 0 := by
  refine zMv_of (own := RX4) (cc := cX4_teach) (maxL := 7) (by decide) rfl (Nat.le_of_ble_eq_true rfl) rfl ?_
  intro p e s m args below meth c Q A S hK hini hA hS hP hD hAe hG hQ ls hl
  have hl : lv_has ls 7 [(0, .ref h), (1, .ref b), (2, .int (jI (v))), (3, .int (jI (d))), (4, .int (jI (wo)))] := hl
  have hNA := zNm_A hG hAe hap
  refine lv_aload_n S.1 S.2.1 dX4_teach_0 rfl (lv_at hl 1 rfl) ?_
  refine z_mv (wr := [(h, .inr (4, [.ref a0, .int (jI n)])), (a0, eN E 10 on)]) (z_mV S hK (c_X0_clear l E b b0 fw _) gX4_teach_X0_clear rfl hv_X0_clear ⟨Nat.le_of_ble_eq_true rfl, Nat.le_of_ble_eq_true rfl⟩ (va_recv hK hP (ci := 0) (q0 := 2) rfl rfl) (hP.sub [2, 3] rfl) (hD.sub [2, 3] (by decide) rfl) trivial hl.1 rfl (Nat.le_of_ble_eq_true rfl) ⟨by decide, by decide⟩ rfl dX4_teach_1) hP hD hS hA [2, 3] [0, 1] [0, 1, 2, 3] rfl rfl (by decide) (by decide) (fun (u : Int → Int) => [(h, .inr (4, [.ref a0, .int (jI n)])), (a0, eN E 10 on), (b, .inr (0, [.ref b0])), (b0, eI E 1000 u)]) (by decide) (fun _ => rfl) (fun u H locs h_1 hP hD hS => ?_)
  obtain ⟨u1_fw, u1_fw_e⟩ : ∃ z, z = u := ⟨_, rfl⟩
  subst u1_fw_e
  try dsimp only at h_1
  have hP : zP E ([(h, .inr (4, [.ref a0, .int (jI n)])), (a0, eN E 10 on), (b, .inr (0, [.ref b0])), (b0, eI E 1000 u1_fw)]) H := hP
  have hD : va_D A ([(h, .inr (4, [.ref a0, .int (jI n)])), (a0, eN E 10 on), (b, .inr (0, [.ref b0])), (b0, eI E 1000 u1_fw)]) := hD
  refine z_iconst S dX4_teach_4 ?_
  refine lv_istore (lv' := [(5, .int (jI (0))), (0, .ref h), (1, .ref b), (2, .int (jI (v))), (3, .int (jI (d))), (4, .int (jI (wo)))]) S.1 S.2.1 dX4_teach_5 hl (by decide) rfl (fun ls hl => ?_)
  suffices HL_1 : ∀ (n_2 : Nat) (x : Int) (g : Int → Int), (n - x).toNat < n_2 → (0 ≤ x ∧ x ≤ n) → (zTab (zCanW nb (fun x => zlive kd vl fr tl x v d) wo x) g 999 1000000) → ∀ (H : Heap) (locs : List Loc), zP E ([(h, .inr (4, [.ref a0, .int (jI n)])), (a0, eN E 10 on), (b, .inr (0, [.ref b0])), (b0, eI E 1000 g)]) H → va_D A ([(h, .inr (4, [.ref a0, .int (jI n)])), (a0, eN E 10 on), (b, .inr (0, [.ref b0])), (b0, eI E 1000 g)]) → va_S A s.heap H locs → ∀ (ls : Array Slot), lv_has ls 7 [(5, .int (jI (x))), (0, .ref h), (1, .ref b), (2, .int (jI (v))), (3, .int (jI (d))), (4, .int (jI (wo)))] → W p l e (zr 4 0 0) s m args below meth c H locs 0 0 Q (F0 m 7 ls []) from
    HL_1 _ 0 u1_fw (Nat.lt_succ_self _) (by omega) (zTab_cong (fun a _ _ => zCanW_0 a) h_1) _ _ hP hD hS ls (lv_sub hl [0, 1, 2, 3, 4, 5] rfl)
  intro n_2
  induction n_2 with
  | zero => intro x g hm hx hT; exact absurd hm (Nat.not_lt_zero _)
  | succ n_2 ih_3 =>
    intro x g hm hx hT H locs hP hD hS ls hl
    refine lv_iload S.1 S.2.1 dX4_teach_7 (lv_at hl 0 rfl) ?_
    refine lv_aload_n S.1 S.2.1 dX4_teach_9 rfl (lv_at hl 1 rfl) ?_
    refine z_get S hK hP 0 rfl rfl 1 (by decide) i_X4_teach_4 q_X4_teach_1 rfl dX4_teach_10 ?_
    refine z_icmp_ge (tgt := 61) S dX4_teach_13 (by decide) (by omega) (fun c_13 => ?_) (fun c_13 => ?_)
    · skip
      exact hQ (g) _ _ (by have e : x = n := (by omega); rw [e] at hT; exact hT) hP hD hS _ _ dX4_teach_61
    · skip
      refine lv_aload_n S.1 S.2.1 dX4_teach_16 rfl (lv_at hl 1 rfl) ?_
      refine lv_iload S.1 S.2.1 dX4_teach_17 (lv_at hl 0 rfl) ?_
      refine z_rq (z_rV S hK (c_X4_one l E h a0 n on x an (by omega) (by omega) (hon)) gX4_teach_X4_one rfl hv_X4_one ⟨Nat.le_of_ble_eq_true rfl, Nat.le_of_ble_eq_true rfl⟩ (va_recv hK hP (ci := 4) (q0 := 0) rfl rfl) (hP.sub [0, 1] rfl) hl.1 rfl (Nat.le_of_ble_eq_true rfl) ⟨by decide, by decide⟩ rfl dX4_teach_19) (fun r_19 h_19 => ?_)
      rcases h_19 with ⟨e_19, hx_19⟩ | ⟨e_19, hx_19⟩
      · subst e_19
        refine W.eq (g2 := F0 m 22 ls [.ref (an x)]) rfl ?_
        refine lv_astore (lv' := [(6, .ref (an x)), (5, .int (jI (x))), (0, .ref h), (1, .ref b), (2, .int (jI (v))), (3, .int (jI (d))), (4, .int (jI (wo)))]) S.1 S.2.1 dX4_teach_22 hl (by decide) rfl (fun ls hl => ?_)
        refine lv_aload S.1 S.2.1 dX4_teach_24 (lv_at hl 0 rfl) ?_
        refine lv_ifnull S.1 S.2.1 dX4_teach_26 ?_
        refine lv_iload S.1 S.2.1 dX4_teach_29 (lv_at hl 1 rfl) ?_
        refine lv_iload S.1 S.2.1 dX4_teach_31 (lv_at hl 6 rfl) ?_
        refine z_icmp_eq (tgt := 55) S dX4_teach_33 (by decide) (by omega) (fun c_33 => ?_) (fun c_33 => ?_)
        · skip
          refine z_iinc (lv' := [(5, .int (jI (x + 1))), (6, .ref (an x)), (0, .ref h), (1, .ref b), (2, .int (jI (v))), (3, .int (jI (d))), (4, .int (jI (wo)))]) S hl (k := 1) rfl (by decide) rfl dX4_teach_55 (fun ls hl => ?_)
          refine z_goto (tgt := 7) S dX4_teach_58 (by decide) ?_
          exact ih_3 (x + 1) g (by omega) (by omega) (by first | exact zTab_cong (fun a _ _ => zCanW_yes (lv := (fun x => zlive kd vl fr tl x v d)) (x := x) (by omega) (by omega) (zB_t h_40 (by omega)) a) h_52 | exact zTab_cong (fun a _ _ => zCanW_no (lv := (fun x => zlive kd vl fr tl x v d)) (x := x) (Or.inl (by omega)) a) hT | exact zTab_cong (fun a _ _ => zCanW_no (lv := (fun x => zlive kd vl fr tl x v d)) (x := x) (Or.inr (zB_f h_40 (by omega))) a) hT) _ _ hP hD hS ls (lv_sub hl [0, 2, 3, 4, 5, 6] rfl)
        · skip
          refine lv_aload S.1 S.2.1 dX4_teach_36 (lv_at hl 0 rfl) ?_
          refine lv_iload_n S.1 S.2.1 dX4_teach_38 rfl (lv_at hl 4 rfl) ?_
          refine lv_iload_n S.1 S.2.1 dX4_teach_39 rfl (lv_at hl 5 rfl) ?_
          have hv_40 := hpe x (by omega) (by omega)
          refine z_ri (post := fun r => (r = 1 ∧ (zlv (kd x) (vl x) (fr x) (tl x) v d)) ∨ (r = 0 ∧ ¬ (zlv (kd x) (vl x) (fr x) (tl x) v d))) (av := ([.ref (an x), .int (jI (v)), .int (jI (d))] : List Value).toArray) (by
            have hk3 : kd x = 2 ∨ kd x = 1 ∨ kd x = 0 := (by omega)
            rcases hk3 with e | e | e
            · exact (z_rU S hK (c_X3_isHeard_1 l E (an x) (vl x) (nb x) (fr x) (tl x) v d (kd x) (by omega) (by omega) (by omega) (by omega) (by omega) e) gX4_teach_X3_isHeard_u41X1 rfl rfl hu_2__II_Z ⟨Nat.le_of_ble_eq_true rfl, Nat.le_of_ble_eq_true rfl⟩ (va_recv hK (zNm_k (zNm_keep hG hS hNA) (x := x) (ci := 1) (by omega) e rfl) (ci := 1) (q0 := 0) rfl rfl) (zNm_k (zNm_keep hG hS hNA) (x := x) (ci := 1) (by omega) e rfl) hl.1 rfl (Nat.le_of_ble_eq_true rfl) ⟨by decide, by decide⟩ rfl dX4_teach_40)
            · exact (z_rU S hK (c_X3_isHeard_2 l E (an x) (vl x) (nb x) (fr x) (tl x) v d (kd x) (by omega) (by omega) (by omega) (by omega) (by omega) e) gX4_teach_X3_isHeard_u41X2 rfl rfl hu_2__II_Z ⟨Nat.le_of_ble_eq_true rfl, Nat.le_of_ble_eq_true rfl⟩ (va_recv hK (zNm_k (zNm_keep hG hS hNA) (x := x) (ci := 2) (by omega) e rfl) (ci := 2) (q0 := 0) rfl rfl) (zNm_k (zNm_keep hG hS hNA) (x := x) (ci := 2) (by omega) e rfl) hl.1 rfl (Nat.le_of_ble_eq_true rfl) ⟨by decide, by decide⟩ rfl dX4_teach_40)
            · exact (z_rV S hK (c_X3_isHeard_3 l E (an x) (vl x) (nb x) (fr x) (tl x) v d (kd x) (by omega) (by omega) (by omega) (by omega) (by omega) e) gX4_teach_X3_isHeard rfl hv_X3_isHeard ⟨Nat.le_of_ble_eq_true rfl, Nat.le_of_ble_eq_true rfl⟩ (va_recv hK (zNm_k (zNm_keep hG hS hNA) (x := x) (ci := 3) (by omega) e rfl) (ci := 3) (q0 := 0) rfl rfl) (zNm_k (zNm_keep hG hS hNA) (x := x) (ci := 3) (by omega) e rfl) hl.1 rfl (Nat.le_of_ble_eq_true rfl) ⟨by decide, by decide⟩ rfl dX4_teach_40)) (fun r_40 h_40 => ?_)
          have h_40 : (r_40 = 1 ∧ (zlive kd vl fr tl x v d)) ∨ (r_40 = 0 ∧ ¬ (zlive kd vl fr tl x v d)) := h_40
          refine z_if_eq (tgt := 55) S dX4_teach_43 (by decide) (by omega) (fun c_43 => ?_) (fun c_43 => ?_)
          · skip
            refine z_iinc (lv' := [(5, .int (jI (x + 1))), (6, .ref (an x)), (0, .ref h), (1, .ref b), (2, .int (jI (v))), (3, .int (jI (d))), (4, .int (jI (wo)))]) S hl (k := 1) rfl (by decide) rfl dX4_teach_55 (fun ls hl => ?_)
            refine z_goto (tgt := 7) S dX4_teach_58 (by decide) ?_
            exact ih_3 (x + 1) g (by omega) (by omega) (by first | exact zTab_cong (fun a _ _ => zCanW_yes (lv := (fun x => zlive kd vl fr tl x v d)) (x := x) (by omega) (by omega) (zB_t h_40 (by omega)) a) h_52 | exact zTab_cong (fun a _ _ => zCanW_no (lv := (fun x => zlive kd vl fr tl x v d)) (x := x) (Or.inl (by omega)) a) hT | exact zTab_cong (fun a _ _ => zCanW_no (lv := (fun x => zlive kd vl fr tl x v d)) (x := x) (Or.inr (zB_f h_40 (by omega))) a) hT) _ _ hP hD hS ls (lv_sub hl [0, 2, 3, 4, 5, 6] rfl)
          · skip
            refine lv_aload_n S.1 S.2.1 dX4_teach_46 rfl (lv_at hl 3 rfl) ?_
            refine lv_aload S.1 S.2.1 dX4_teach_47 (lv_at hl 0 rfl) ?_
            have hv_49 := hpe x (by omega) (by omega)
            refine z_ri (post := fun r => r = nb x) (av := ([.ref (an x)] : List Value).toArray) (by
              have hk3 : kd x = 2 ∨ kd x = 1 ∨ kd x = 0 := (by omega)
              rcases hk3 with e | e | e
              · exact (z_rU S hK (c_X3_number_1 l E (an x) (vl x) (nb x) (fr x) (tl x)) gX4_teach_X3_number_u38X1 rfl rfl hu_0___I ⟨Nat.le_of_ble_eq_true rfl, Nat.le_of_ble_eq_true rfl⟩ (va_recv hK (zNm_k (zNm_keep hG hS hNA) (x := x) (ci := 1) (by omega) e rfl) (ci := 1) (q0 := 0) rfl rfl) (zNm_k (zNm_keep hG hS hNA) (x := x) (ci := 1) (by omega) e rfl) hl.1 rfl (Nat.le_of_ble_eq_true rfl) ⟨by decide, by decide⟩ rfl dX4_teach_49)
              · exact (z_rU S hK (c_X3_number_2 l E (an x) (vl x) (nb x) (fr x) (tl x)) gX4_teach_X3_number_u38X2 rfl rfl hu_0___I ⟨Nat.le_of_ble_eq_true rfl, Nat.le_of_ble_eq_true rfl⟩ (va_recv hK (zNm_k (zNm_keep hG hS hNA) (x := x) (ci := 2) (by omega) e rfl) (ci := 2) (q0 := 0) rfl rfl) (zNm_k (zNm_keep hG hS hNA) (x := x) (ci := 2) (by omega) e rfl) hl.1 rfl (Nat.le_of_ble_eq_true rfl) ⟨by decide, by decide⟩ rfl dX4_teach_49)
              · exact (z_rV S hK (c_X3_number_3 l E (an x) (vl x) (nb x) (fr x) (tl x)) gX4_teach_X3_number rfl hv_X3_number ⟨Nat.le_of_ble_eq_true rfl, Nat.le_of_ble_eq_true rfl⟩ (va_recv hK (zNm_k (zNm_keep hG hS hNA) (x := x) (ci := 3) (by omega) e rfl) (ci := 3) (q0 := 0) rfl rfl) (zNm_k (zNm_keep hG hS hNA) (x := x) (ci := 3) (by omega) e rfl) hl.1 rfl (Nat.le_of_ble_eq_true rfl) ⟨by decide, by decide⟩ rfl dX4_teach_49)) (fun r_49 h_49 => ?_)
            rw [h_49]
            refine z_mv (wr := [(h, .inr (4, [.ref a0, .int (jI n)])), (a0, eN E 10 on)]) (z_mV S hK (c_X0_add l E b b0 g (nb x) (zCanW nb (fun x => zlive kd vl fr tl x v d) wo x) (by omega) (hT) _) gX4_teach_X0_add rfl hv_X0_add ⟨Nat.le_of_ble_eq_true rfl, Nat.le_of_ble_eq_true rfl⟩ (va_recv hK hP (ci := 0) (q0 := 2) rfl rfl) (hP.sub [2, 3] rfl) (hD.sub [2, 3] (by decide) rfl) trivial hl.1 rfl (Nat.le_of_ble_eq_true rfl) ⟨by decide, by decide⟩ rfl dX4_teach_52) hP hD hS hA [2, 3] [0, 1] [0, 1, 2, 3] rfl rfl (by decide) (by decide) (fun (u : Int → Int) => [(h, .inr (4, [.ref a0, .int (jI n)])), (a0, eN E 10 on), (b, .inr (0, [.ref b0])), (b0, eI E 1000 u)]) (by decide) (fun _ => rfl) (fun u H locs h_52 hP hD hS => ?_)
            obtain ⟨u52_fw, u52_fw_e⟩ : ∃ z, z = u := ⟨_, rfl⟩
            subst u52_fw_e
            try dsimp only at h_52
            have hP : zP E ([(h, .inr (4, [.ref a0, .int (jI n)])), (a0, eN E 10 on), (b, .inr (0, [.ref b0])), (b0, eI E 1000 u52_fw)]) H := hP
            have hD : va_D A ([(h, .inr (4, [.ref a0, .int (jI n)])), (a0, eN E 10 on), (b, .inr (0, [.ref b0])), (b0, eI E 1000 u52_fw)]) := hD
            refine z_iinc (lv' := [(5, .int (jI (x + 1))), (6, .ref (an x)), (0, .ref h), (1, .ref b), (2, .int (jI (v))), (3, .int (jI (d))), (4, .int (jI (wo)))]) S hl (k := 1) rfl (by decide) rfl dX4_teach_55 (fun ls hl => ?_)
            refine z_goto (tgt := 7) S dX4_teach_58 (by decide) ?_
            exact ih_3 (x + 1) u52_fw (by omega) (by omega) (by first | exact zTab_cong (fun a _ _ => zCanW_yes (lv := (fun x => zlive kd vl fr tl x v d)) (x := x) (by omega) (by omega) (zB_t h_40 (by omega)) a) h_52 | exact zTab_cong (fun a _ _ => zCanW_no (lv := (fun x => zlive kd vl fr tl x v d)) (x := x) (Or.inl (by omega)) a) hT | exact zTab_cong (fun a _ _ => zCanW_no (lv := (fun x => zlive kd vl fr tl x v d)) (x := x) (Or.inr (zB_f h_40 (by omega))) a) hT) _ _ hP hD hS ls (lv_sub hl [0, 2, 3, 4, 5, 6] rfl)
      · subst e_19
        omega

set_option maxHeartbeats 1000000 in
set_option maxRecDepth 20000 in
theorem c_X4_greatestStep (l : Launch) (E : zE) (h : Nat) (a0 : Nat) (b : Nat) (b0 : Nat) (n : Int) (on : Nat → Option Nat) (fw : Int → Int) (an : Int → Nat) (kd vl nb fr tl : Int → Int) (rest : Int) (v : Int) (d : Int) (h_v : -2147483648 ≤ v ∧ v ≤ 2147483647) (h_d : -2147483648 ≤ d ∧ d ≤ 2147483647) (hr : 0 ≤ rest ∧ rest ≤ 999) (hp : 0 ≤ n ∧ n ≤ 10) (hon : zOns n on an) (hpe : zPeo n kd vl nb fr tl) (hT : zTab (zCan nb (fun x => zlive kd vl fr tl x v d) n) fw 999 1000000) : zRi l E yX4_greatestStep wsX4_greatestStep (zr 3 0 0) [.ref h, .ref b, .int (jI (rest)), .int (jI (v)), .int (jI (d))] (fun H => zP E ([(h, .inr (4, [.ref a0, .int (jI n)])), (a0, eN E 10 on), (b, .inr (0, [.ref b0])), (b0, eI E 1000 fw)]) H ∧ zNm E n an kd vl nb fr tl H) (fun r => zGS nb (fun x => zlive kd vl fr tl x v d) fw rest n r) := by
  refine zRi_of (own := RX4) (cc := cX4_greatestStep) (maxL := 8) (by decide) rfl (Nat.le_of_ble_eq_true rfl) rfl ?_
  intro p e s m args below meth c Q S hK hP hQ ls hl
  have hl : lv_has ls 8 [(0, .ref h), (1, .ref b), (2, .int (jI (rest))), (3, .int (jI (v))), (4, .int (jI (d)))] := hl
  obtain ⟨hP, hN⟩ := hP
  refine z_iconst S dX4_greatestStep_0 ?_
  refine lv_istore (lv' := [(5, .int (jI (0))), (0, .ref h), (1, .ref b), (2, .int (jI (rest))), (3, .int (jI (v))), (4, .int (jI (d)))]) S.1 S.2.1 dX4_greatestStep_1 hl (by decide) rfl (fun ls hl => ?_)
  refine z_iconst S dX4_greatestStep_3 ?_
  refine lv_istore (lv' := [(6, .int (jI (0))), (5, .int (jI (0))), (0, .ref h), (1, .ref b), (2, .int (jI (rest))), (3, .int (jI (v))), (4, .int (jI (d)))]) S.1 S.2.1 dX4_greatestStep_4 hl (by decide) rfl (fun ls hl => ?_)
  suffices HL_1 : ∀ (n_2 : Nat) (x : Int) (g : Int), (n - x).toNat < n_2 → (0 ≤ x ∧ x ≤ n) → (0 ≤ g ∧ g ≤ 99) → (zGS nb (fun x => zlive kd vl fr tl x v d) fw rest x g) → ∀ (ls : Array Slot), lv_has ls 8 [(6, .int (jI (x))), (5, .int (jI (g))), (0, .ref h), (1, .ref b), (2, .int (jI (rest))), (3, .int (jI (v))), (4, .int (jI (d)))] → W p l e (zr 3 0 0) s m args below meth c s.heap [] 0 0 Q (F0 m 6 ls []) from
    HL_1 _ 0 0 (Nat.lt_succ_self _) (by omega) (by omega) (zGS_0) ls (lv_sub hl [0, 1, 2, 3, 4, 5, 6] rfl)
  intro n_2
  induction n_2 with
  | zero => intro x g hm hx hgr hg; exact absurd hm (Nat.not_lt_zero _)
  | succ n_2 ih_3 =>
    intro x g hm hx hgr hg ls hl
    refine lv_iload S.1 S.2.1 dX4_greatestStep_6 (lv_at hl 0 rfl) ?_
    refine lv_aload_n S.1 S.2.1 dX4_greatestStep_8 rfl (lv_at hl 2 rfl) ?_
    refine z_get S hK hP 0 rfl rfl 1 (by decide) i_X4_greatestStep_4 q_X4_greatestStep_1 rfl dX4_greatestStep_9 ?_
    refine z_icmp_ge (tgt := 83) S dX4_greatestStep_12 (by decide) (by omega) (fun c_12 => ?_) (fun c_12 => ?_)
    · skip
      refine lv_iload S.1 S.2.1 dX4_greatestStep_83 (lv_at hl 1 rfl) ?_
      exact hQ (g) (by have e : x = n := (by omega); rw [e] at hg; exact hg) _ _ dX4_greatestStep_85
    · skip
      refine lv_aload_n S.1 S.2.1 dX4_greatestStep_15 rfl (lv_at hl 2 rfl) ?_
      refine lv_iload S.1 S.2.1 dX4_greatestStep_16 (lv_at hl 0 rfl) ?_
      refine z_rq (z_rV S hK (c_X4_one l E h a0 n on x an (by omega) (by omega) (hon)) gX4_greatestStep_X4_one rfl hv_X4_one ⟨Nat.le_of_ble_eq_true rfl, Nat.le_of_ble_eq_true rfl⟩ (va_recv hK hP (ci := 4) (q0 := 0) rfl rfl) (hP.sub [0, 1] rfl) hl.1 rfl (Nat.le_of_ble_eq_true rfl) ⟨by decide, by decide⟩ rfl dX4_greatestStep_18) (fun r_18 h_18 => ?_)
      rcases h_18 with ⟨e_18, hx_18⟩ | ⟨e_18, hx_18⟩
      · subst e_18
        refine W.eq (g2 := F0 m 21 ls [.ref (an x)]) rfl ?_
        refine lv_astore (lv' := [(7, .ref (an x)), (6, .int (jI (x))), (5, .int (jI (g))), (0, .ref h), (1, .ref b), (2, .int (jI (rest))), (3, .int (jI (v))), (4, .int (jI (d)))]) S.1 S.2.1 dX4_greatestStep_21 hl (by decide) rfl (fun ls hl => ?_)
        refine lv_aload S.1 S.2.1 dX4_greatestStep_23 (lv_at hl 0 rfl) ?_
        refine lv_ifnull S.1 S.2.1 dX4_greatestStep_25 ?_
        refine lv_aload S.1 S.2.1 dX4_greatestStep_28 (lv_at hl 0 rfl) ?_
        have hv_30 := hpe x (by omega) (by omega)
        refine z_ri (post := fun r => r = nb x) (av := ([.ref (an x)] : List Value).toArray) (by
          have hk3 : kd x = 2 ∨ kd x = 1 ∨ kd x = 0 := (by omega)
          rcases hk3 with e | e | e
          · exact (z_rU S hK (c_X3_number_1 l E (an x) (vl x) (nb x) (fr x) (tl x)) gX4_greatestStep_X3_number_u38X1 rfl rfl hu_0___I ⟨Nat.le_of_ble_eq_true rfl, Nat.le_of_ble_eq_true rfl⟩ (va_recv hK (zNm_k hN (x := x) (ci := 1) (by omega) e rfl) (ci := 1) (q0 := 0) rfl rfl) (zNm_k hN (x := x) (ci := 1) (by omega) e rfl) hl.1 rfl (Nat.le_of_ble_eq_true rfl) ⟨by decide, by decide⟩ rfl dX4_greatestStep_30)
          · exact (z_rU S hK (c_X3_number_2 l E (an x) (vl x) (nb x) (fr x) (tl x)) gX4_greatestStep_X3_number_u38X2 rfl rfl hu_0___I ⟨Nat.le_of_ble_eq_true rfl, Nat.le_of_ble_eq_true rfl⟩ (va_recv hK (zNm_k hN (x := x) (ci := 2) (by omega) e rfl) (ci := 2) (q0 := 0) rfl rfl) (zNm_k hN (x := x) (ci := 2) (by omega) e rfl) hl.1 rfl (Nat.le_of_ble_eq_true rfl) ⟨by decide, by decide⟩ rfl dX4_greatestStep_30)
          · exact (z_rV S hK (c_X3_number_3 l E (an x) (vl x) (nb x) (fr x) (tl x)) gX4_greatestStep_X3_number rfl hv_X3_number ⟨Nat.le_of_ble_eq_true rfl, Nat.le_of_ble_eq_true rfl⟩ (va_recv hK (zNm_k hN (x := x) (ci := 3) (by omega) e rfl) (ci := 3) (q0 := 0) rfl rfl) (zNm_k hN (x := x) (ci := 3) (by omega) e rfl) hl.1 rfl (Nat.le_of_ble_eq_true rfl) ⟨by decide, by decide⟩ rfl dX4_greatestStep_30)) (fun r_30 h_30 => ?_)
        rw [h_30]
        refine lv_iload S.1 S.2.1 dX4_greatestStep_33 (lv_at hl 2 rfl) ?_
        refine z_icmp_le (tgt := 77) S dX4_greatestStep_35 (by decide) (by omega) (fun c_35 => ?_) (fun c_35 => ?_)
        · skip
          refine z_iinc (lv' := [(6, .int (jI (x + 1))), (7, .ref (an x)), (5, .int (jI (g))), (0, .ref h), (1, .ref b), (2, .int (jI (rest))), (3, .int (jI (v))), (4, .int (jI (d)))]) S hl (k := 1) rfl (by decide) rfl dX4_greatestStep_77 (fun ls hl => ?_)
          refine z_goto (tgt := 6) S dX4_greatestStep_80 (by decide) ?_
          exact ih_3 (x + 1) g (by omega) (by omega) (by omega) (by first | exact zGS_no hg (Or.inl (by omega)) | exact zGS_no hg (Or.inr (Or.inl (zB_f h_43 (by omega)))) | exact zGS_no hg (Or.inr (Or.inr (fun z => by unfold zMat at z; omega))) | exact zGS_yes hg (by omega) (by omega) (zB_t h_43 (by omega)) (by unfold zMat; omega)) ls (lv_sub hl [0, 2, 3, 4, 5, 6, 7] rfl)
        · skip
          refine lv_aload S.1 S.2.1 dX4_greatestStep_38 (lv_at hl 0 rfl) ?_
          refine lv_iload_n S.1 S.2.1 dX4_greatestStep_40 rfl (lv_at hl 6 rfl) ?_
          refine lv_iload S.1 S.2.1 dX4_greatestStep_41 (lv_at hl 7 rfl) ?_
          have hv_43 := hpe x (by omega) (by omega)
          refine z_ri (post := fun r => (r = 1 ∧ (zlv (kd x) (vl x) (fr x) (tl x) v d)) ∨ (r = 0 ∧ ¬ (zlv (kd x) (vl x) (fr x) (tl x) v d))) (av := ([.ref (an x), .int (jI (v)), .int (jI (d))] : List Value).toArray) (by
            have hk3 : kd x = 2 ∨ kd x = 1 ∨ kd x = 0 := (by omega)
            rcases hk3 with e | e | e
            · exact (z_rU S hK (c_X3_isHeard_1 l E (an x) (vl x) (nb x) (fr x) (tl x) v d (kd x) (by omega) (by omega) (by omega) (by omega) (by omega) e) gX4_greatestStep_X3_isHeard_u41X1 rfl rfl hu_2__II_Z ⟨Nat.le_of_ble_eq_true rfl, Nat.le_of_ble_eq_true rfl⟩ (va_recv hK (zNm_k hN (x := x) (ci := 1) (by omega) e rfl) (ci := 1) (q0 := 0) rfl rfl) (zNm_k hN (x := x) (ci := 1) (by omega) e rfl) hl.1 rfl (Nat.le_of_ble_eq_true rfl) ⟨by decide, by decide⟩ rfl dX4_greatestStep_43)
            · exact (z_rU S hK (c_X3_isHeard_2 l E (an x) (vl x) (nb x) (fr x) (tl x) v d (kd x) (by omega) (by omega) (by omega) (by omega) (by omega) e) gX4_greatestStep_X3_isHeard_u41X2 rfl rfl hu_2__II_Z ⟨Nat.le_of_ble_eq_true rfl, Nat.le_of_ble_eq_true rfl⟩ (va_recv hK (zNm_k hN (x := x) (ci := 2) (by omega) e rfl) (ci := 2) (q0 := 0) rfl rfl) (zNm_k hN (x := x) (ci := 2) (by omega) e rfl) hl.1 rfl (Nat.le_of_ble_eq_true rfl) ⟨by decide, by decide⟩ rfl dX4_greatestStep_43)
            · exact (z_rV S hK (c_X3_isHeard_3 l E (an x) (vl x) (nb x) (fr x) (tl x) v d (kd x) (by omega) (by omega) (by omega) (by omega) (by omega) e) gX4_greatestStep_X3_isHeard rfl hv_X3_isHeard ⟨Nat.le_of_ble_eq_true rfl, Nat.le_of_ble_eq_true rfl⟩ (va_recv hK (zNm_k hN (x := x) (ci := 3) (by omega) e rfl) (ci := 3) (q0 := 0) rfl rfl) (zNm_k hN (x := x) (ci := 3) (by omega) e rfl) hl.1 rfl (Nat.le_of_ble_eq_true rfl) ⟨by decide, by decide⟩ rfl dX4_greatestStep_43)) (fun r_43 h_43 => ?_)
          have h_43 : (r_43 = 1 ∧ (zlive kd vl fr tl x v d)) ∨ (r_43 = 0 ∧ ¬ (zlive kd vl fr tl x v d)) := h_43
          refine z_if_eq (tgt := 77) S dX4_greatestStep_46 (by decide) (by omega) (fun c_46 => ?_) (fun c_46 => ?_)
          · skip
            refine z_iinc (lv' := [(6, .int (jI (x + 1))), (7, .ref (an x)), (5, .int (jI (g))), (0, .ref h), (1, .ref b), (2, .int (jI (rest))), (3, .int (jI (v))), (4, .int (jI (d)))]) S hl (k := 1) rfl (by decide) rfl dX4_greatestStep_77 (fun ls hl => ?_)
            refine z_goto (tgt := 6) S dX4_greatestStep_80 (by decide) ?_
            exact ih_3 (x + 1) g (by omega) (by omega) (by omega) (by first | exact zGS_no hg (Or.inl (by omega)) | exact zGS_no hg (Or.inr (Or.inl (zB_f h_43 (by omega)))) | exact zGS_no hg (Or.inr (Or.inr (fun z => by unfold zMat at z; omega))) | exact zGS_yes hg (by omega) (by omega) (zB_t h_43 (by omega)) (by unfold zMat; omega)) ls (lv_sub hl [0, 2, 3, 4, 5, 6, 7] rfl)
          · skip
            refine lv_aload_n S.1 S.2.1 dX4_greatestStep_49 rfl (lv_at hl 4 rfl) ?_
            refine lv_iload_n S.1 S.2.1 dX4_greatestStep_50 rfl (lv_at hl 5 rfl) ?_
            refine lv_aload S.1 S.2.1 dX4_greatestStep_51 (lv_at hl 0 rfl) ?_
            have hv_53 := hpe x (by omega) (by omega)
            refine z_ri (post := fun r => r = nb x) (av := ([.ref (an x)] : List Value).toArray) (by
              have hk3 : kd x = 2 ∨ kd x = 1 ∨ kd x = 0 := (by omega)
              rcases hk3 with e | e | e
              · exact (z_rU S hK (c_X3_number_1 l E (an x) (vl x) (nb x) (fr x) (tl x)) gX4_greatestStep_X3_number_u38X1 rfl rfl hu_0___I ⟨Nat.le_of_ble_eq_true rfl, Nat.le_of_ble_eq_true rfl⟩ (va_recv hK (zNm_k hN (x := x) (ci := 1) (by omega) e rfl) (ci := 1) (q0 := 0) rfl rfl) (zNm_k hN (x := x) (ci := 1) (by omega) e rfl) hl.1 rfl (Nat.le_of_ble_eq_true rfl) ⟨by decide, by decide⟩ rfl dX4_greatestStep_53)
              · exact (z_rU S hK (c_X3_number_2 l E (an x) (vl x) (nb x) (fr x) (tl x)) gX4_greatestStep_X3_number_u38X2 rfl rfl hu_0___I ⟨Nat.le_of_ble_eq_true rfl, Nat.le_of_ble_eq_true rfl⟩ (va_recv hK (zNm_k hN (x := x) (ci := 2) (by omega) e rfl) (ci := 2) (q0 := 0) rfl rfl) (zNm_k hN (x := x) (ci := 2) (by omega) e rfl) hl.1 rfl (Nat.le_of_ble_eq_true rfl) ⟨by decide, by decide⟩ rfl dX4_greatestStep_53)
              · exact (z_rV S hK (c_X3_number_3 l E (an x) (vl x) (nb x) (fr x) (tl x)) gX4_greatestStep_X3_number rfl hv_X3_number ⟨Nat.le_of_ble_eq_true rfl, Nat.le_of_ble_eq_true rfl⟩ (va_recv hK (zNm_k hN (x := x) (ci := 3) (by omega) e rfl) (ci := 3) (q0 := 0) rfl rfl) (zNm_k hN (x := x) (ci := 3) (by omega) e rfl) hl.1 rfl (Nat.le_of_ble_eq_true rfl) ⟨by decide, by decide⟩ rfl dX4_greatestStep_53)) (fun r_53 h_53 => ?_)
            rw [h_53]
            refine z_isub S dX4_greatestStep_56 ?_
            refine z_ri (z_rV S hK (c_X0_of l E b b0 fw (rest - (nb x)) (by omega)) gX4_greatestStep_X0_of rfl hv_X0_of ⟨Nat.le_of_ble_eq_true rfl, Nat.le_of_ble_eq_true rfl⟩ (va_recv hK hP (ci := 0) (q0 := 2) rfl rfl) (hP.sub [2, 3] rfl) hl.1 rfl (Nat.le_of_ble_eq_true rfl) ⟨by decide, by decide⟩ rfl dX4_greatestStep_57) (fun r_57 h_57 => ?_)
            have he57 := zOf_is h_57
            have hr57 := zOf_rng hT (rest - nb x)
            refine lv_aload_n S.1 S.2.1 dX4_greatestStep_60 rfl (lv_at hl 4 rfl) ?_
            refine lv_iload_n S.1 S.2.1 dX4_greatestStep_61 rfl (lv_at hl 5 rfl) ?_
            refine z_ri (z_rV S hK (c_X0_of l E b b0 fw rest (by omega)) gX4_greatestStep_X0_of rfl hv_X0_of ⟨Nat.le_of_ble_eq_true rfl, Nat.le_of_ble_eq_true rfl⟩ (va_recv hK hP (ci := 0) (q0 := 2) rfl rfl) (hP.sub [2, 3] rfl) hl.1 rfl (Nat.le_of_ble_eq_true rfl) ⟨by decide, by decide⟩ rfl dX4_greatestStep_62) (fun r_62 h_62 => ?_)
            have he62 := zOf_is h_62
            have hr62 := zOf_rng hT rest
            refine z_iconst S dX4_greatestStep_65 ?_
            refine z_isub S dX4_greatestStep_66 ?_
            refine z_icmp_ne (tgt := 77) S dX4_greatestStep_67 (by decide) (by omega) (fun c_67 => ?_) (fun c_67 => ?_)
            · skip
              refine z_iinc (lv' := [(6, .int (jI (x + 1))), (7, .ref (an x)), (5, .int (jI (g))), (0, .ref h), (1, .ref b), (2, .int (jI (rest))), (3, .int (jI (v))), (4, .int (jI (d)))]) S hl (k := 1) rfl (by decide) rfl dX4_greatestStep_77 (fun ls hl => ?_)
              refine z_goto (tgt := 6) S dX4_greatestStep_80 (by decide) ?_
              exact ih_3 (x + 1) g (by omega) (by omega) (by omega) (by first | exact zGS_no hg (Or.inl (by omega)) | exact zGS_no hg (Or.inr (Or.inl (zB_f h_43 (by omega)))) | exact zGS_no hg (Or.inr (Or.inr (fun z => by unfold zMat at z; omega))) | exact zGS_yes hg (by omega) (by omega) (zB_t h_43 (by omega)) (by unfold zMat; omega)) ls (lv_sub hl [0, 2, 3, 4, 5, 6, 7] rfl)
            · skip
              refine lv_aload S.1 S.2.1 dX4_greatestStep_70 (lv_at hl 0 rfl) ?_
              have hv_72 := hpe x (by omega) (by omega)
              refine z_ri (post := fun r => r = nb x) (av := ([.ref (an x)] : List Value).toArray) (by
                have hk3 : kd x = 2 ∨ kd x = 1 ∨ kd x = 0 := (by omega)
                rcases hk3 with e | e | e
                · exact (z_rU S hK (c_X3_number_1 l E (an x) (vl x) (nb x) (fr x) (tl x)) gX4_greatestStep_X3_number_u38X1 rfl rfl hu_0___I ⟨Nat.le_of_ble_eq_true rfl, Nat.le_of_ble_eq_true rfl⟩ (va_recv hK (zNm_k hN (x := x) (ci := 1) (by omega) e rfl) (ci := 1) (q0 := 0) rfl rfl) (zNm_k hN (x := x) (ci := 1) (by omega) e rfl) hl.1 rfl (Nat.le_of_ble_eq_true rfl) ⟨by decide, by decide⟩ rfl dX4_greatestStep_72)
                · exact (z_rU S hK (c_X3_number_2 l E (an x) (vl x) (nb x) (fr x) (tl x)) gX4_greatestStep_X3_number_u38X2 rfl rfl hu_0___I ⟨Nat.le_of_ble_eq_true rfl, Nat.le_of_ble_eq_true rfl⟩ (va_recv hK (zNm_k hN (x := x) (ci := 2) (by omega) e rfl) (ci := 2) (q0 := 0) rfl rfl) (zNm_k hN (x := x) (ci := 2) (by omega) e rfl) hl.1 rfl (Nat.le_of_ble_eq_true rfl) ⟨by decide, by decide⟩ rfl dX4_greatestStep_72)
                · exact (z_rV S hK (c_X3_number_3 l E (an x) (vl x) (nb x) (fr x) (tl x)) gX4_greatestStep_X3_number rfl hv_X3_number ⟨Nat.le_of_ble_eq_true rfl, Nat.le_of_ble_eq_true rfl⟩ (va_recv hK (zNm_k hN (x := x) (ci := 3) (by omega) e rfl) (ci := 3) (q0 := 0) rfl rfl) (zNm_k hN (x := x) (ci := 3) (by omega) e rfl) hl.1 rfl (Nat.le_of_ble_eq_true rfl) ⟨by decide, by decide⟩ rfl dX4_greatestStep_72)) (fun r_72 h_72 => ?_)
              rw [h_72]
              refine lv_istore (lv' := [(5, .int (jI (nb x))), (7, .ref (an x)), (6, .int (jI (x))), (0, .ref h), (1, .ref b), (2, .int (jI (rest))), (3, .int (jI (v))), (4, .int (jI (d)))]) S.1 S.2.1 dX4_greatestStep_75 hl (by decide) rfl (fun ls hl => ?_)
              refine z_iinc (lv' := [(6, .int (jI (x + 1))), (5, .int (jI (nb x))), (7, .ref (an x)), (0, .ref h), (1, .ref b), (2, .int (jI (rest))), (3, .int (jI (v))), (4, .int (jI (d)))]) S hl (k := 2) rfl (by decide) rfl dX4_greatestStep_77 (fun ls hl => ?_)
              refine z_goto (tgt := 6) S dX4_greatestStep_80 (by decide) ?_
              exact ih_3 (x + 1) (nb x) (by omega) (by omega) (by omega) (by first | exact zGS_no hg (Or.inl (by omega)) | exact zGS_no hg (Or.inr (Or.inl (zB_f h_43 (by omega)))) | exact zGS_no hg (Or.inr (Or.inr (fun z => by unfold zMat at z; omega))) | exact zGS_yes hg (by omega) (by omega) (zB_t h_43 (by omega)) (by unfold zMat; omega)) ls (lv_sub hl [0, 1, 3, 4, 5, 6, 7] rfl)
      · subst e_18
        omega
