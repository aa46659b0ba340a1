theorem i_X9_ofOne_9 : ∀ w ∈ u_ws RX9 TX9 8, w ∈ wsX9_ofOne := fun w h => List.mem_cons_of_mem _ (List.mem_append_left _ (List.mem_append_left _ (List.mem_append_left _ (List.mem_append_left _ (List.mem_append_right _ h)))))
theorem q_X9_ofOne_1 : Cond.fieldLink RX9 28 "LivingNumbers" "people" "LLivingNumbers$People;" ∈ wsX9_ofOne := List.mem_of_getElem? (i := 1) rfl
theorem hu_1__I_I : "LivingNumbers$Named" ≠ "java/lang/invoke/MethodHandle" ∧ "LivingNumbers$Named" ≠ "java/lang/invoke/VarHandle" ∧ (parseMethodDescriptor "(I)I").map (fun d => d.parameters.length) = some 1 := by decide +kernel
theorem hv_X3_part : yX3_part.cls = RX3 ∧ yX3_part.cls ≠ "java/lang/invoke/MethodHandle" ∧ yX3_part.cls ≠ "java/lang/invoke/VarHandle" ∧ (parseMethodDescriptor yX3_part.desc).map (fun d => d.parameters.length) = some 1 := by decide +kernel
theorem i_X9_lives_9 : ∀ w ∈ u_ws RX9 TX9 8, w ∈ wsX9_lives := fun w h => List.mem_cons_of_mem _ (List.mem_append_left _ (List.mem_append_left _ (List.mem_append_left _ (List.mem_append_left _ (List.mem_append_right _ h)))))
theorem q_X9_lives_1 : Cond.fieldLink RX9 28 "LivingNumbers" "people" "LLivingNumbers$People;" ∈ wsX9_lives := List.mem_of_getElem? (i := 1) rfl
theorem hs_X9_isDay : yX9_isDay.cls ≠ "java/lang/invoke/MethodHandle" ∧ yX9_isDay.cls ≠ "java/lang/invoke/VarHandle" ∧ (parseMethodDescriptor yX9_isDay.desc).map (fun d => d.parameters.length) = some 1 := by decide +kernel
theorem i_X9_word_9 : ∀ w ∈ u_ws RX9 TX9 8, w ∈ wsX9_word := fun w h => List.mem_cons_of_mem _ (List.mem_append_left _ (List.mem_append_left _ (List.mem_append_left _ (List.mem_append_left _ (List.mem_append_right _ h)))))
theorem q_X9_word_1 : Cond.fieldLink RX9 28 "LivingNumbers" "people" "LLivingNumbers$People;" ∈ wsX9_word := List.mem_of_getElem? (i := 1) rfl
theorem hv_X4_bearer : yX4_bearer.cls = RX4 ∧ yX4_bearer.cls ≠ "java/lang/invoke/MethodHandle" ∧ yX4_bearer.cls ≠ "java/lang/invoke/VarHandle" ∧ (parseMethodDescriptor yX4_bearer.desc).map (fun d => d.parameters.length) = some 3 := by decide +kernel
theorem i_X9_sayable_9 : ∀ w ∈ u_ws RX9 TX9 8, w ∈ wsX9_sayable := fun w h => List.mem_cons_of_mem _ (List.mem_append_left _ (List.mem_append_left _ (List.mem_append_left _ (List.mem_append_left _ (List.mem_append_right _ h)))))
theorem q_X9_sayable_1 : Cond.fieldLink RX9 28 "LivingNumbers" "people" "LLivingNumbers$People;" ∈ wsX9_sayable := List.mem_of_getElem? (i := 1) rfl
theorem hv_X9_refusalOfRow : yX9_refusalOfRow.cls = RX9 ∧ yX9_refusalOfRow.cls ≠ "java/lang/invoke/MethodHandle" ∧ yX9_refusalOfRow.cls ≠ "java/lang/invoke/VarHandle" ∧ (parseMethodDescriptor yX9_refusalOfRow.desc).map (fun d => d.parameters.length) = some 6 := by decide +kernel
theorem hv_X9_meaning : yX9_meaning.cls = RX9 ∧ yX9_meaning.cls ≠ "java/lang/invoke/MethodHandle" ∧ yX9_meaning.cls ≠ "java/lang/invoke/VarHandle" ∧ (parseMethodDescriptor yX9_meaning.desc).map (fun d => d.parameters.length) = some 5 := by decide +kernel
theorem hv_X9_fewestWords : yX9_fewestWords.cls = RX9 ∧ yX9_fewestWords.cls ≠ "java/lang/invoke/MethodHandle" ∧ yX9_fewestWords.cls ≠ "java/lang/invoke/VarHandle" ∧ (parseMethodDescriptor yX9_fewestWords.desc).map (fun d => d.parameters.length) = some 3 := by decide +kernel
theorem hv_X9_numberAt : yX9_numberAt.cls = RX9 ∧ yX9_numberAt.cls ≠ "java/lang/invoke/MethodHandle" ∧ yX9_numberAt.cls ≠ "java/lang/invoke/VarHandle" ∧ (parseMethodDescriptor yX9_numberAt.desc).map (fun d => d.parameters.length) = some 4 := by decide +kernel
set_option maxHeartbeats 1000000 in
set_option maxRecDepth 20000 in
theorem c_X9_ofOne (l : Launch) (E : zE) (ac : Nat → Nat) (flt : Int) (ce la si : Int → Int) (ln : Int) (co : Int → Int) (n : Int) (on : Nat → Option Nat) (tr : Int) (fw cw ch nm : Int → Int) (an : Int → Nat) (kd vl nb fr tl : Int → Int) (x : Int) (what : Int) (h_x : -2147483648 ≤ x ∧ x ≤ 2147483647) (h_what : -2147483648 ≤ what ∧ what ≤ 2147483647) (hp : 0 ≤ n ∧ n ≤ 10) (hon : zOns n on an) (hpe : zPeo n kd vl nb fr tl) : zRi l E yX9_ofOne wsX9_ofOne (zr 4 0 0) [.ref (ac 0), .int (jI (x)), .int (jI (what))] (fun H => zP E (cW E ac flt ce la si ln co n on tr fw cw ch nm) H ∧ zNm E n an kd vl nb fr tl H) (fun r => zA_ofOne n kd vl nb fr tl x what r) := by
  refine zRi_of (own := RX9) (cc := cX9_ofOne) (maxL := 4) (by decide) rfl (Nat.le_of_ble_eq_true rfl) rfl ?_
  intro p e s m args below meth c Q S hK hP hQ ls hl
  have hl : lv_has ls 4 [(0, .ref (ac 0)), (1, .int (jI (x))), (2, .int (jI (what)))] := hl
  obtain ⟨hP, hN⟩ := hP
  refine lv_aload_n S.1 S.2.1 dX9_ofOne_0 rfl (lv_at hl 0 rfl) ?_
  refine z_get S hK hP 0 rfl rfl 2 (by decide) i_X9_ofOne_9 q_X9_ofOne_1 rfl dX9_ofOne_1 ?_
  refine lv_iload_n S.1 S.2.1 dX9_ofOne_4 rfl (lv_at hl 1 rfl) ?_
  refine z_rq (z_rV S hK (c_X4_one l E (ac 7) (ac 8) n on x an (by omega) (by omega) (hon)) gX9_ofOne_X4_one rfl hv_X4_one ⟨Nat.le_of_ble_eq_true rfl, Nat.le_of_ble_eq_true rfl⟩ (va_recv hK hP (ci := 4) (q0 := 7) rfl rfl) (hP.sub [7, 8] rfl) hl.1 rfl (Nat.le_of_ble_eq_true rfl) ⟨by decide, by decide⟩ rfl dX9_ofOne_5) (fun r_5 h_5 => ?_)
  rcases h_5 with ⟨e_5, hx_5⟩ | ⟨e_5, hx_5⟩
  · subst e_5
    refine W.eq (g2 := F0 m 8 ls [.ref (an x)]) rfl ?_
    refine lv_astore_n (lv' := [(3, .ref (an x)), (0, .ref (ac 0)), (1, .int (jI (x))), (2, .int (jI (what)))]) S.1 S.2.1 dX9_ofOne_8 rfl hl (by decide) rfl (fun ls hl => ?_)
    refine lv_aload_n S.1 S.2.1 dX9_ofOne_9 rfl (lv_at hl 0 rfl) ?_
    refine lv_ifnonnull (tgt := 15) S.1 S.2.1 dX9_ofOne_10 (by decide) ?_
    refine lv_iload_n S.1 S.2.1 dX9_ofOne_15 rfl (lv_at hl 3 rfl) ?_
    refine z_if_lt (tgt := 24) S dX9_ofOne_16 (by decide) (by omega) (fun c_16 => ?_) (fun c_16 => ?_)
    · skip
      refine z_bipush S (by decide +kernel) dX9_ofOne_24 ?_
      refine z_goto (tgt := 34) S dX9_ofOne_26 (by decide) ?_
      exact hQ (-2) (by unfold zA_ofOne; omega) _ _ dX9_ofOne_34
    · skip
      refine lv_iload_n S.1 S.2.1 dX9_ofOne_19 rfl (lv_at hl 3 rfl) ?_
      refine z_iconst S dX9_ofOne_20 ?_
      refine z_icmp_lt (tgt := 29) S dX9_ofOne_21 (by decide) (by omega) (fun c_21 => ?_) (fun c_21 => ?_)
      · skip
        refine lv_aload_n S.1 S.2.1 dX9_ofOne_29 rfl (lv_at hl 0 rfl) ?_
        refine lv_iload_n S.1 S.2.1 dX9_ofOne_30 rfl (lv_at hl 3 rfl) ?_
        have hv_31 := hpe x (by omega) (by omega)
        refine z_ri (post := fun r => ((what = 0 ∧ r = kd x) ∨ (what = 1 ∧ r = vl x) ∨ (what = 2 ∧ r = nb x) ∨ (what = 3 ∧ r = fr x) ∨ (what = 4 ∧ r = tl x))) (av := ([.ref (an x), .int (jI (what))] : List Value).toArray) (by
          have hk3 : kd x = 2 ∨ kd x = 1 ∨ kd x = 0 := (by omega)
          rcases hk3 with e | e | e
          · exact (z_rU S hK (c_X3_part_1 l E (an x) (vl x) (nb x) (fr x) (tl x) what (kd x) (by omega) e) gX9_ofOne_X3_part_u83X1 rfl rfl hu_1__I_I ⟨Nat.le_of_ble_eq_true rfl, Nat.le_of_ble_eq_true rfl⟩ (va_recv hK (zNm_k hN (x := x) (ci := 1) (by omega) e rfl) (ci := 1) (q0 := 0) rfl rfl) (zNm_k hN (x := x) (ci := 1) (by omega) e rfl) hl.1 rfl (Nat.le_of_ble_eq_true rfl) ⟨by decide, by decide⟩ rfl dX9_ofOne_31)
          · exact (z_rU S hK (c_X3_part_2 l E (an x) (vl x) (nb x) (fr x) (tl x) what (kd x) (by omega) e) gX9_ofOne_X3_part_u83X2 rfl rfl hu_1__I_I ⟨Nat.le_of_ble_eq_true rfl, Nat.le_of_ble_eq_true rfl⟩ (va_recv hK (zNm_k hN (x := x) (ci := 2) (by omega) e rfl) (ci := 2) (q0 := 0) rfl rfl) (zNm_k hN (x := x) (ci := 2) (by omega) e rfl) hl.1 rfl (Nat.le_of_ble_eq_true rfl) ⟨by decide, by decide⟩ rfl dX9_ofOne_31)
          · exact (z_rV S hK (c_X3_part_3 l E (an x) (vl x) (nb x) (fr x) (tl x) what (kd x) (by omega) e) gX9_ofOne_X3_part rfl hv_X3_part ⟨Nat.le_of_ble_eq_true rfl, Nat.le_of_ble_eq_true rfl⟩ (va_recv hK (zNm_k hN (x := x) (ci := 3) (by omega) e rfl) (ci := 3) (q0 := 0) rfl rfl) (zNm_k hN (x := x) (ci := 3) (by omega) e rfl) hl.1 rfl (Nat.le_of_ble_eq_true rfl) ⟨by decide, by decide⟩ rfl dX9_ofOne_31)) (fun r_31 h_31 => ?_)
        exact hQ (r_31) (by unfold zA_ofOne; omega) _ _ dX9_ofOne_34
      · skip
        refine z_bipush S (by decide +kernel) dX9_ofOne_24 ?_
        refine z_goto (tgt := 34) S dX9_ofOne_26 (by decide) ?_
        exact hQ (-2) (by unfold zA_ofOne; omega) _ _ dX9_ofOne_34
  · subst e_5
    refine W.eq (g2 := F0 m 8 ls [.null]) rfl ?_
    refine lv_astore_nN (lv' := [(3, .null), (0, .ref (ac 0)), (1, .int (jI (x))), (2, .int (jI (what)))]) S.1 S.2.1 dX9_ofOne_8 rfl hl (by decide) rfl (fun ls hl => ?_)
    refine lv_aload_nN S.1 S.2.1 dX9_ofOne_9 rfl (lv_at hl 0 rfl) ?_
    refine lv_ifnonnullN S.1 S.2.1 dX9_ofOne_10 ?_
    refine z_iconst S dX9_ofOne_13 ?_
    exact hQ (-1) (by unfold zA_ofOne; omega) _ _ dX9_ofOne_14

set_option maxHeartbeats 1000000 in
set_option maxRecDepth 20000 in
theorem c_X9_lives (l : Launch) (E : zE) (ac : Nat → Nat) (flt : Int) (ce la si : Int → Int) (ln : Int) (co : Int → Int) (n : Int) (on : Nat → Option Nat) (tr : Int) (fw cw ch nm : Int → Int) (an : Int → Nat) (kd vl nb fr tl : Int → Int) (x : Int) (v : Int) (d : Int) (h_x : -2147483648 ≤ x ∧ x ≤ 2147483647) (h_v : -2147483648 ≤ v ∧ v ≤ 2147483647) (h_d : -2147483648 ≤ d ∧ d ≤ 2147483647) (hp : 0 ≤ n ∧ n ≤ 10) (hon : zOns n on an) (hpe : zPeo n kd vl nb fr tl) : zRi l E yX9_lives wsX9_lives (zr 4 0 0) [.ref (ac 0), .int (jI (x)), .int (jI (v)), .int (jI (d))] (fun H => zP E (cW E ac flt ce la si ln co n on tr fw cw ch nm) H ∧ zNm E n an kd vl nb fr tl H) (fun r => zA_lives n kd vl fr tl x v d r) := by
  refine zRi_of (own := RX9) (cc := cX9_lives) (maxL := 5) (by decide) rfl (Nat.le_of_ble_eq_true rfl) rfl ?_
  intro p e s m args below meth c Q S hK hP hQ ls hl
  have hl : lv_has ls 5 [(0, .ref (ac 0)), (1, .int (jI (x))), (2, .int (jI (v))), (3, .int (jI (d)))] := hl
  obtain ⟨hP, hN⟩ := hP
  refine lv_aload_n S.1 S.2.1 dX9_lives_0 rfl (lv_at hl 0 rfl) ?_
  refine z_get S hK hP 0 rfl rfl 2 (by decide) i_X9_lives_9 q_X9_lives_1 rfl dX9_lives_1 ?_
  refine lv_iload_n S.1 S.2.1 dX9_lives_4 rfl (lv_at hl 1 rfl) ?_
  refine z_rq (z_rV S hK (c_X4_one l E (ac 7) (ac 8) n on x an (by omega) (by omega) (hon)) gX9_lives_X4_one rfl hv_X4_one ⟨Nat.le_of_ble_eq_true rfl, Nat.le_of_ble_eq_true rfl⟩ (va_recv hK hP (ci := 4) (q0 := 7) rfl rfl) (hP.sub [7, 8] rfl) hl.1 rfl (Nat.le_of_ble_eq_true rfl) ⟨by decide, by decide⟩ rfl dX9_lives_5) (fun r_5 h_5 => ?_)
  rcases h_5 with ⟨e_5, hx_5⟩ | ⟨e_5, hx_5⟩
  · subst e_5
    refine W.eq (g2 := F0 m 8 ls [.ref (an x)]) rfl ?_
    refine lv_astore (lv' := [(4, .ref (an x)), (0, .ref (ac 0)), (1, .int (jI (x))), (2, .int (jI (v))), (3, .int (jI (d)))]) S.1 S.2.1 dX9_lives_8 hl (by decide) rfl (fun ls hl => ?_)
    refine lv_aload S.1 S.2.1 dX9_lives_10 (lv_at hl 0 rfl) ?_
    refine lv_ifnull S.1 S.2.1 dX9_lives_12 ?_
    refine lv_iload_n S.1 S.2.1 dX9_lives_15 rfl (lv_at hl 3 rfl) ?_
    refine z_ri (z_rS S hK (c_X9_isVillage l E v (by omega)) gX9_lives_X9_isVillage rfl hs_X9_isVillage ⟨Nat.le_of_ble_eq_true rfl, Nat.le_of_ble_eq_true rfl⟩ trivial hl.1 rfl (Nat.le_of_ble_eq_true rfl) ⟨by decide, by decide⟩ rfl dX9_lives_16) (fun r_16 h_16 => ?_)
    refine z_if_ne (tgt := 24) S dX9_lives_19 (by decide) (by omega) (fun c_19 => ?_) (fun c_19 => ?_)
    · skip
      refine lv_iload_n S.1 S.2.1 dX9_lives_24 rfl (lv_at hl 4 rfl) ?_
      refine z_ri (z_rS S hK (c_X9_isDay l E d (by omega)) gX9_lives_X9_isDay rfl hs_X9_isDay ⟨Nat.le_of_ble_eq_true rfl, Nat.le_of_ble_eq_true rfl⟩ trivial hl.1 rfl (Nat.le_of_ble_eq_true rfl) ⟨by decide, by decide⟩ rfl dX9_lives_25) (fun r_25 h_25 => ?_)
      refine z_if_ne (tgt := 34) S dX9_lives_28 (by decide) (by omega) (fun c_28 => ?_) (fun c_28 => ?_)
      · skip
        refine lv_aload S.1 S.2.1 dX9_lives_34 (lv_at hl 0 rfl) ?_
        refine lv_iload_n S.1 S.2.1 dX9_lives_36 rfl (lv_at hl 3 rfl) ?_
        refine lv_iload_n S.1 S.2.1 dX9_lives_37 rfl (lv_at hl 4 rfl) ?_
        have hv_38 := hpe x (by omega) (by omega)
        refine z_ri (post := fun r => (r = 1 ∧ (zlv (kd x) (vl x) (fr x) (tl x) v d)) ∨ (r = 0 ∧ ¬ (zlv (kd x) (vl x) (fr x) (tl x) v d))) (av := ([.ref (an x), .int (jI (v)), .int (jI (d))] : List Value).toArray) (by
          have hk3 : kd x = 2 ∨ kd x = 1 ∨ kd x = 0 := (by omega)
          rcases hk3 with e | e | e
          · exact (z_rU S hK (c_X3_isHeard_1 l E (an x) (vl x) (nb x) (fr x) (tl x) v d (kd x) (by omega) (by omega) (by omega) (by omega) (by omega) e) gX9_lives_X3_isHeard_u96X1 rfl rfl hu_2__II_Z ⟨Nat.le_of_ble_eq_true rfl, Nat.le_of_ble_eq_true rfl⟩ (va_recv hK (zNm_k hN (x := x) (ci := 1) (by omega) e rfl) (ci := 1) (q0 := 0) rfl rfl) (zNm_k hN (x := x) (ci := 1) (by omega) e rfl) hl.1 rfl (Nat.le_of_ble_eq_true rfl) ⟨by decide, by decide⟩ rfl dX9_lives_38)
          · exact (z_rU S hK (c_X3_isHeard_2 l E (an x) (vl x) (nb x) (fr x) (tl x) v d (kd x) (by omega) (by omega) (by omega) (by omega) (by omega) e) gX9_lives_X3_isHeard_u96X2 rfl rfl hu_2__II_Z ⟨Nat.le_of_ble_eq_true rfl, Nat.le_of_ble_eq_true rfl⟩ (va_recv hK (zNm_k hN (x := x) (ci := 2) (by omega) e rfl) (ci := 2) (q0 := 0) rfl rfl) (zNm_k hN (x := x) (ci := 2) (by omega) e rfl) hl.1 rfl (Nat.le_of_ble_eq_true rfl) ⟨by decide, by decide⟩ rfl dX9_lives_38)
          · exact (z_rV S hK (c_X3_isHeard_3 l E (an x) (vl x) (nb x) (fr x) (tl x) v d (kd x) (by omega) (by omega) (by omega) (by omega) (by omega) e) gX9_lives_X3_isHeard rfl hv_X3_isHeard ⟨Nat.le_of_ble_eq_true rfl, Nat.le_of_ble_eq_true rfl⟩ (va_recv hK (zNm_k hN (x := x) (ci := 3) (by omega) e rfl) (ci := 3) (q0 := 0) rfl rfl) (zNm_k hN (x := x) (ci := 3) (by omega) e rfl) hl.1 rfl (Nat.le_of_ble_eq_true rfl) ⟨by decide, by decide⟩ rfl dX9_lives_38)) (fun r_38 h_38 => ?_)
        have h_38 : (r_38 = 1 ∧ (zlive kd vl fr tl x v d)) ∨ (r_38 = 0 ∧ ¬ (zlive kd vl fr tl x v d)) := h_38
        refine z_if_eq (tgt := 48) S dX9_lives_41 (by decide) (by omega) (fun c_41 => ?_) (fun c_41 => ?_)
        · skip
          refine z_iconst S dX9_lives_48 ?_
          exact hQ (0) (by first | (unfold zA_lives; omega) | exact Or.inr ⟨by omega, Or.inr ⟨by omega, Or.inl ⟨zB_t h_38 (by omega), by omega⟩⟩⟩ | exact Or.inr ⟨by omega, Or.inr ⟨by omega, Or.inr ⟨zB_f h_38 (by omega), by omega⟩⟩⟩) _ _ dX9_lives_49
        · skip
          refine z_iconst S dX9_lives_44 ?_
          refine z_goto (tgt := 49) S dX9_lives_45 (by decide) ?_
          exact hQ (1) (by first | (unfold zA_lives; omega) | exact Or.inr ⟨by omega, Or.inr ⟨by omega, Or.inl ⟨zB_t h_38 (by omega), by omega⟩⟩⟩ | exact Or.inr ⟨by omega, Or.inr ⟨by omega, Or.inr ⟨zB_f h_38 (by omega), by omega⟩⟩⟩) _ _ dX9_lives_49
      · skip
        refine z_bipush S (by decide +kernel) dX9_lives_31 ?_
        exact hQ (-2) (by first | (unfold zA_lives; omega) | exact Or.inr ⟨by omega, Or.inr ⟨by omega, Or.inl ⟨zB_t h_38 (by omega), by omega⟩⟩⟩ | exact Or.inr ⟨by omega, Or.inr ⟨by omega, Or.inr ⟨zB_f h_38 (by omega), by omega⟩⟩⟩) _ _ dX9_lives_33
    · skip
      refine z_iconst S dX9_lives_22 ?_
      exact hQ (-1) (by first | (unfold zA_lives; omega) | exact Or.inr ⟨by omega, Or.inr ⟨by omega, Or.inl ⟨zB_t h_38 (by omega), by omega⟩⟩⟩ | exact Or.inr ⟨by omega, Or.inr ⟨by omega, Or.inr ⟨zB_f h_38 (by omega), by omega⟩⟩⟩) _ _ dX9_lives_23
  · subst e_5
    refine W.eq (g2 := F0 m 8 ls [.null]) rfl ?_
    refine lv_astoreN (lv' := [(4, .null), (0, .ref (ac 0)), (1, .int (jI (x))), (2, .int (jI (v))), (3, .int (jI (d)))]) S.1 S.2.1 dX9_lives_8 hl (by decide) rfl (fun ls hl => ?_)
    refine lv_aloadN S.1 S.2.1 dX9_lives_10 (lv_at hl 0 rfl) ?_
    refine lv_ifnullN (tgt := 22) S.1 S.2.1 dX9_lives_12 (by decide) ?_
    refine z_iconst S dX9_lives_22 ?_
    exact hQ (-1) (by first | (unfold zA_lives; omega) | exact Or.inr ⟨by omega, Or.inr ⟨by omega, Or.inl ⟨zB_t h_38 (by omega), by omega⟩⟩⟩ | exact Or.inr ⟨by omega, Or.inr ⟨by omega, Or.inr ⟨zB_f h_38 (by omega), by omega⟩⟩⟩) _ _ dX9_lives_23

set_option maxHeartbeats 1000000 in
set_option maxRecDepth 20000 in
theorem c_X9_word (l : Launch) (E : zE) (ac : Nat → Nat) (flt : Int) (ce la si : Int → Int) (ln : Int) (co : Int → Int) (n : Int) (on : Nat → Option Nat) (tr : Int) (fw cw ch nm : Int → Int) (an : Int → Nat) (kd vl nb fr tl : Int → Int) (num : Int) (v : Int) (d : Int) (h_num : -2147483648 ≤ num ∧ num ≤ 2147483647) (h_v : -2147483648 ≤ v ∧ v ≤ 2147483647) (h_d : -2147483648 ≤ d ∧ d ≤ 2147483647) (hp : 0 ≤ n ∧ n ≤ 10) (hon : zOns n on an) (hpe : zPeo n kd vl nb fr tl) : zRi l E yX9_word wsX9_word (zr 4 0 0) [.ref (ac 0), .int (jI (num)), .int (jI (v)), .int (jI (d))] (fun H => zP E (cW E ac flt ce la si ln co n on tr fw cw ch nm) H ∧ zNm E n an kd vl nb fr tl H) (fun r => zA_word n kd vl nb fr tl num v d r) := by
  refine zRi_of (own := RX9) (cc := cX9_word) (maxL := 4) (by decide) rfl (Nat.le_of_ble_eq_true rfl) rfl ?_
  intro p e s m args below meth c Q S hK hP hQ ls hl
  have hl : lv_has ls 4 [(0, .ref (ac 0)), (1, .int (jI (num))), (2, .int (jI (v))), (3, .int (jI (d)))] := hl
  obtain ⟨hP, hN⟩ := hP
  refine lv_iload_n S.1 S.2.1 dX9_word_0 rfl (lv_at hl 2 rfl) ?_
  refine z_ri (z_rS S hK (c_X9_isVillage l E v (by omega)) gX9_word_X9_isVillage rfl hs_X9_isVillage ⟨Nat.le_of_ble_eq_true rfl, Nat.le_of_ble_eq_true rfl⟩ trivial hl.1 rfl (Nat.le_of_ble_eq_true rfl) ⟨by decide, by decide⟩ rfl dX9_word_1) (fun r_1 h_1 => ?_)
  refine z_if_ne (tgt := 9) S dX9_word_4 (by decide) (by omega) (fun c_4 => ?_) (fun c_4 => ?_)
  · skip
    refine lv_iload_n S.1 S.2.1 dX9_word_9 rfl (lv_at hl 1 rfl) ?_
    refine z_iconst S dX9_word_10 ?_
    refine z_icmp_lt (tgt := 27) S dX9_word_11 (by decide) (by omega) (fun c_11 => ?_) (fun c_11 => ?_)
    · skip
      refine z_bipush S (by decide +kernel) dX9_word_27 ?_
      exact hQ (-2) (by first | (unfold zA_word; omega) | exact Or.inr ⟨by omega, Or.inr ⟨by omega, h_37⟩⟩) _ _ dX9_word_29
    · skip
      refine lv_iload_n S.1 S.2.1 dX9_word_14 rfl (lv_at hl 1 rfl) ?_
      refine z_bipush S (by decide +kernel) dX9_word_15 ?_
      refine z_icmp_gt (tgt := 27) S dX9_word_17 (by decide) (by omega) (fun c_17 => ?_) (fun c_17 => ?_)
      · skip
        refine z_bipush S (by decide +kernel) dX9_word_27 ?_
        exact hQ (-2) (by first | (unfold zA_word; omega) | exact Or.inr ⟨by omega, Or.inr ⟨by omega, h_37⟩⟩) _ _ dX9_word_29
      · skip
        refine lv_iload_n S.1 S.2.1 dX9_word_20 rfl (lv_at hl 3 rfl) ?_
        refine z_ri (z_rS S hK (c_X9_isDay l E d (by omega)) gX9_word_X9_isDay rfl hs_X9_isDay ⟨Nat.le_of_ble_eq_true rfl, Nat.le_of_ble_eq_true rfl⟩ trivial hl.1 rfl (Nat.le_of_ble_eq_true rfl) ⟨by decide, by decide⟩ rfl dX9_word_21) (fun r_21 h_21 => ?_)
        refine z_if_ne (tgt := 30) S dX9_word_24 (by decide) (by omega) (fun c_24 => ?_) (fun c_24 => ?_)
        · skip
          refine lv_aload_n S.1 S.2.1 dX9_word_30 rfl (lv_at hl 0 rfl) ?_
          refine z_get S hK hP 0 rfl rfl 2 (by decide) i_X9_word_9 q_X9_word_1 rfl dX9_word_31 ?_
          refine lv_iload_n S.1 S.2.1 dX9_word_34 rfl (lv_at hl 1 rfl) ?_
          refine lv_iload_n S.1 S.2.1 dX9_word_35 rfl (lv_at hl 2 rfl) ?_
          refine lv_iload_n S.1 S.2.1 dX9_word_36 rfl (lv_at hl 3 rfl) ?_
          refine z_ri (z_rV S hK (c_X4_bearer l E (ac 7) (ac 8) n on an kd vl nb fr tl num v d (by omega) (by omega) (by omega) (by omega) (hon) (hpe)) gX9_word_X4_bearer rfl hv_X4_bearer ⟨Nat.le_of_ble_eq_true rfl, Nat.le_of_ble_eq_true rfl⟩ (va_recv hK hP (ci := 4) (q0 := 7) rfl rfl) ⟨(hP.sub [7, 8] rfl), hN⟩ hl.1 rfl (Nat.le_of_ble_eq_true rfl) ⟨by decide, by decide⟩ rfl dX9_word_37) (fun r_37 h_37 => ?_)
          have h_37b := zBear_rng h_37
          exact hQ (r_37) (by first | (unfold zA_word; omega) | exact Or.inr ⟨by omega, Or.inr ⟨by omega, h_37⟩⟩) _ _ dX9_word_40
        · skip
          refine z_bipush S (by decide +kernel) dX9_word_27 ?_
          exact hQ (-2) (by first | (unfold zA_word; omega) | exact Or.inr ⟨by omega, Or.inr ⟨by omega, h_37⟩⟩) _ _ dX9_word_29
  · skip
    refine z_iconst S dX9_word_7 ?_
    exact hQ (-1) (by first | (unfold zA_word; omega) | exact Or.inr ⟨by omega, Or.inr ⟨by omega, h_37⟩⟩) _ _ dX9_word_8

set_option maxHeartbeats 1000000 in
set_option maxRecDepth 20000 in
theorem c_X9_sayable (l : Launch) (E : zE) (ac : Nat → Nat) (flt : Int) (ce la si : Int → Int) (ln : Int) (co : Int → Int) (n : Int) (on : Nat → Option Nat) (tr : Int) (fw cw ch nm : Int → Int) (an : Int → Nat) (kd vl nb fr tl : Int → Int) (v : Int) (d : Int) (k : Int) (h_v : -2147483648 ≤ v ∧ v ≤ 2147483647) (h_d : -2147483648 ≤ d ∧ d ≤ 2147483647) (h_k : -2147483648 ≤ k ∧ k ≤ 2147483647) (hp : 0 ≤ n ∧ n ≤ 10) (hon : zOns n on an) (hpe : zPeo n kd vl nb fr tl) : zRi l E yX9_sayable wsX9_sayable (zr 4 0 0) [.ref (ac 0), .int (jI (v)), .int (jI (d)), .int (jI (k))] (fun H => zP E (cW E ac flt ce la si ln co n on tr fw cw ch nm) H ∧ zNm E n an kd vl nb fr tl H) (fun r => zA_sayable n kd vl nb fr tl v d k r) := by
  refine zRi_of (own := RX9) (cc := cX9_sayable) (maxL := 6) (by decide) rfl (Nat.le_of_ble_eq_true rfl) rfl ?_
  intro p e s m args below meth c Q S hK hP hQ ls hl
  have hl : lv_has ls 6 [(0, .ref (ac 0)), (1, .int (jI (v))), (2, .int (jI (d))), (3, .int (jI (k)))] := hl
  obtain ⟨hP, hN⟩ := hP
  refine lv_iload_n S.1 S.2.1 dX9_sayable_0 rfl (lv_at hl 1 rfl) ?_
  refine z_ri (z_rS S hK (c_X9_isVillage l E v (by omega)) gX9_sayable_X9_isVillage rfl hs_X9_isVillage ⟨Nat.le_of_ble_eq_true rfl, Nat.le_of_ble_eq_true rfl⟩ trivial hl.1 rfl (Nat.le_of_ble_eq_true rfl) ⟨by decide, by decide⟩ rfl dX9_sayable_1) (fun r_1 h_1 => ?_)
  refine z_if_eq (tgt := 12) S dX9_sayable_4 (by decide) (by omega) (fun c_4 => ?_) (fun c_4 => ?_)
  · skip
    refine z_iconst S dX9_sayable_12 ?_
    exact hQ (-1) (by first | (unfold zA_sayable; omega) | exact Or.inr ⟨by omega, Or.inr ⟨by omega, zSayable_hit (by omega) (zBear_yes h_45 (by omega)) hfd c_56⟩⟩ | exact Or.inr ⟨by omega, Or.inr ⟨by omega, zSayable_end (by omega) hfd hno (by omega)⟩⟩) _ _ dX9_sayable_13
  · skip
    refine lv_iload_n S.1 S.2.1 dX9_sayable_7 rfl (lv_at hl 3 rfl) ?_
    refine z_iconst S dX9_sayable_8 ?_
    refine z_icmp_ge (tgt := 14) S dX9_sayable_9 (by decide) (by omega) (fun c_9 => ?_) (fun c_9 => ?_)
    · skip
      refine lv_iload_n S.1 S.2.1 dX9_sayable_14 rfl (lv_at hl 2 rfl) ?_
      refine z_ri (z_rS S hK (c_X9_isDay l E d (by omega)) gX9_sayable_X9_isDay rfl hs_X9_isDay ⟨Nat.le_of_ble_eq_true rfl, Nat.le_of_ble_eq_true rfl⟩ trivial hl.1 rfl (Nat.le_of_ble_eq_true rfl) ⟨by decide, by decide⟩ rfl dX9_sayable_15) (fun r_15 h_15 => ?_)
      refine z_if_ne (tgt := 24) S dX9_sayable_18 (by decide) (by omega) (fun c_18 => ?_) (fun c_18 => ?_)
      · skip
        refine z_iconst S dX9_sayable_24 ?_
        refine lv_istore (lv' := [(4, .int (jI (0))), (0, .ref (ac 0)), (1, .int (jI (v))), (2, .int (jI (d))), (3, .int (jI (k)))]) S.1 S.2.1 dX9_sayable_25 hl (by decide) rfl (fun ls hl => ?_)
        refine z_iconst S dX9_sayable_27 ?_
        refine lv_istore (lv' := [(5, .int (jI (1))), (4, .int (jI (0))), (0, .ref (ac 0)), (1, .int (jI (v))), (2, .int (jI (d))), (3, .int (jI (k)))]) S.1 S.2.1 dX9_sayable_28 hl (by decide) rfl (fun ls hl => ?_)
        suffices HL_1 : ∀ (n_2 : Nat) (j : Int) (fd : Int), (100 - j).toNat < n_2 → (1 ≤ j ∧ j ≤ 100) → (fd = zcnt (zCan nb (fun x => zlive kd vl fr tl x v d) n) (j - 1).toNat) → (∀ y : Int, 1 ≤ y → y < j → (zCan nb (fun x => zlive kd vl fr tl x v d) n) y → zcnt (zCan nb (fun x => zlive kd vl fr tl x v d) n) (y - 1).toNat ≠ k) → ∀ (ls : Array Slot), lv_has ls 6 [(5, .int (jI (j))), (4, .int (jI (fd))), (0, .ref (ac 0)), (1, .int (jI (v))), (2, .int (jI (d))), (3, .int (jI (k)))] → W p l e (zr 4 0 0) s m args below meth c s.heap [] 0 0 Q (F0 m 30 ls []) from
          HL_1 _ 1 0 (Nat.lt_succ_self _) (by omega) (rfl) (zall_0) ls (lv_sub hl [0, 1, 2, 3, 4, 5] rfl)
        intro n_2
        induction n_2 with
        | zero => intro j fd hm hj hfd hno; exact absurd hm (Nat.not_lt_zero _)
        | succ n_2 ih_3 =>
          intro j fd hm hj hfd hno ls hl
          refine lv_iload S.1 S.2.1 dX9_sayable_30 (lv_at hl 0 rfl) ?_
          refine z_bipush S (by decide +kernel) dX9_sayable_32 ?_
          refine z_icmp_gt (tgt := 71) S dX9_sayable_34 (by decide) (by omega) (fun c_34 => ?_) (fun c_34 => ?_)
          · skip
            refine lv_iload_n S.1 S.2.1 dX9_sayable_71 rfl (lv_at hl 5 rfl) ?_
            refine z_iconst S dX9_sayable_72 ?_
            refine z_icmp_ne (tgt := 81) S dX9_sayable_73 (by decide) (by omega) (fun c_73 => ?_) (fun c_73 => ?_)
            · skip
              refine z_bipush S (by decide +kernel) dX9_sayable_81 ?_
              exact hQ (-9) (by first | (unfold zA_sayable; omega) | exact Or.inr ⟨by omega, Or.inr ⟨by omega, zSayable_hit (by omega) (zBear_yes h_45 (by omega)) hfd c_56⟩⟩ | exact Or.inr ⟨by omega, Or.inr ⟨by omega, zSayable_end (by omega) hfd hno (by omega)⟩⟩) _ _ dX9_sayable_83
            · skip
              refine lv_iload S.1 S.2.1 dX9_sayable_76 (lv_at hl 1 rfl) ?_
              refine z_goto (tgt := 83) S dX9_sayable_78 (by decide) ?_
              exact hQ (fd) (by first | (unfold zA_sayable; omega) | exact Or.inr ⟨by omega, Or.inr ⟨by omega, zSayable_hit (by omega) (zBear_yes h_45 (by omega)) hfd c_56⟩⟩ | exact Or.inr ⟨by omega, Or.inr ⟨by omega, zSayable_end (by omega) hfd hno (by omega)⟩⟩) _ _ dX9_sayable_83
          · skip
            have hcr := zcnt_rng (zCan nb (fun x => zlive kd vl fr tl x v d) n) (j - 1).toNat
            refine lv_aload_n S.1 S.2.1 dX9_sayable_37 rfl (lv_at hl 2 rfl) ?_
            refine z_get S hK hP 0 rfl rfl 2 (by decide) i_X9_sayable_9 q_X9_sayable_1 rfl dX9_sayable_38 ?_
            refine lv_iload S.1 S.2.1 dX9_sayable_41 (lv_at hl 0 rfl) ?_
            refine lv_iload_n S.1 S.2.1 dX9_sayable_43 rfl (lv_at hl 3 rfl) ?_
            refine lv_iload_n S.1 S.2.1 dX9_sayable_44 rfl (lv_at hl 4 rfl) ?_
            refine z_ri (z_rV S hK (c_X4_bearer l E (ac 7) (ac 8) n on an kd vl nb fr tl j v d (by omega) (by omega) (by omega) (by omega) (hon) (hpe)) gX9_sayable_X4_bearer rfl hv_X4_bearer ⟨Nat.le_of_ble_eq_true rfl, Nat.le_of_ble_eq_true rfl⟩ (va_recv hK hP (ci := 4) (q0 := 7) rfl rfl) ⟨(hP.sub [7, 8] rfl), hN⟩ hl.1 rfl (Nat.le_of_ble_eq_true rfl) ⟨by decide, by decide⟩ rfl dX9_sayable_45) (fun r_45 h_45 => ?_)
            have h_45b := zBear_rng h_45
            refine z_bipush S (by decide +kernel) dX9_sayable_48 ?_
            refine z_icmp_eq (tgt := 65) S dX9_sayable_50 (by decide) (by omega) (fun c_50 => ?_) (fun c_50 => ?_)
            · skip
              refine z_iinc (lv' := [(5, .int (jI (j + 1))), (4, .int (jI (fd))), (0, .ref (ac 0)), (1, .int (jI (v))), (2, .int (jI (d))), (3, .int (jI (k)))]) S hl (k := 0) rfl (by decide) rfl dX9_sayable_65 (fun ls hl => ?_)
              refine z_goto (tgt := 30) S dX9_sayable_68 (by decide) ?_
              exact ih_3 (j + 1) fd (by omega) (by omega) (by first | exact hfd.trans (zcnt_nf (by omega) (zBear_no h_45 (by omega))).symm | rw [zcnt_nt (by omega) (zBear_yes h_45 (by omega)), ← hfd]) (zall_step hno (fun q => by first | exact absurd q (zBear_no h_45 (by omega)) | (rw [← hfd]; exact c_56))) ls (lv_sub hl [0, 1, 2, 3, 4, 5] rfl)
            · skip
              refine lv_iload S.1 S.2.1 dX9_sayable_53 (lv_at hl 1 rfl) ?_
              refine lv_iload_n S.1 S.2.1 dX9_sayable_55 rfl (lv_at hl 5 rfl) ?_
              refine z_icmp_ne (tgt := 62) S dX9_sayable_56 (by decide) (by omega) (fun c_56 => ?_) (fun c_56 => ?_)
              · skip
                refine z_iinc (lv' := [(4, .int (jI (fd + 1))), (5, .int (jI (j))), (0, .ref (ac 0)), (1, .int (jI (v))), (2, .int (jI (d))), (3, .int (jI (k)))]) S hl (k := 1) rfl (by decide) rfl dX9_sayable_62 (fun ls hl => ?_)
                refine z_iinc (lv' := [(5, .int (jI (j + 1))), (4, .int (jI (fd + 1))), (0, .ref (ac 0)), (1, .int (jI (v))), (2, .int (jI (d))), (3, .int (jI (k)))]) S hl (k := 1) rfl (by decide) rfl dX9_sayable_65 (fun ls hl => ?_)
                refine z_goto (tgt := 30) S dX9_sayable_68 (by decide) ?_
                exact ih_3 (j + 1) (fd + 1) (by omega) (by omega) (by first | exact hfd.trans (zcnt_nf (by omega) (zBear_no h_45 (by omega))).symm | rw [zcnt_nt (by omega) (zBear_yes h_45 (by omega)), ← hfd]) (zall_step hno (fun q => by first | exact absurd q (zBear_no h_45 (by omega)) | (rw [← hfd]; exact c_56))) ls (lv_sub hl [0, 1, 2, 3, 4, 5] rfl)
              · skip
                refine lv_iload S.1 S.2.1 dX9_sayable_59 (lv_at hl 0 rfl) ?_
                exact hQ (j) (by first | (unfold zA_sayable; omega) | exact Or.inr ⟨by omega, Or.inr ⟨by omega, zSayable_hit (by omega) (zBear_yes h_45 (by omega)) hfd c_56⟩⟩ | exact Or.inr ⟨by omega, Or.inr ⟨by omega, zSayable_end (by omega) hfd hno (by omega)⟩⟩) _ _ dX9_sayable_61
      · skip
        refine z_bipush S (by decide +kernel) dX9_sayable_21 ?_
        exact hQ (-2) (by first | (unfold zA_sayable; omega) | exact Or.inr ⟨by omega, Or.inr ⟨by omega, zSayable_hit (by omega) (zBear_yes h_45 (by omega)) hfd c_56⟩⟩ | exact Or.inr ⟨by omega, Or.inr ⟨by omega, zSayable_end (by omega) hfd hno (by omega)⟩⟩) _ _ dX9_sayable_23
    · skip
      refine z_iconst S dX9_sayable_12 ?_
      exact hQ (-1) (by first | (unfold zA_sayable; omega) | exact Or.inr ⟨by omega, Or.inr ⟨by omega, zSayable_hit (by omega) (zBear_yes h_45 (by omega)) hfd c_56⟩⟩ | exact Or.inr ⟨by omega, Or.inr ⟨by omega, zSayable_end (by omega) hfd hno (by omega)⟩⟩) _ _ dX9_sayable_13

set_option maxHeartbeats 1000000 in
set_option maxRecDepth 20000 in
theorem c_X9_means (l : Launch) (E : zE) (ac : Nat → Nat) (flt : Int) (ce la si : Int → Int) (ln : Int) (co : Int → Int) (n : Int) (on : Nat → Option Nat) (tr : Int) (fw cw ch nm : Int → Int) (an : Int → Nat) (kd vl nb fr tl : Int → Int) (v : Int) (d : Int) (k : Int) (lane : Int) (i : Int) (cn : Int) (ss : Int → Int) (sl : Int → Int) (hrel : zRel la si ss sl) (hce : zRg ce) (h_v : -2147483648 ≤ v ∧ v ≤ 2147483647) (h_d : -2147483648 ≤ d ∧ d ≤ 2147483647) (h_k : -2147483648 ≤ k ∧ k ≤ 2147483647) (h_lane : -2147483648 ≤ lane ∧ lane ≤ 2147483647) (h_i : -2147483648 ≤ i ∧ i ≤ 2147483647) (h_cn : -2147483648 ≤ cn ∧ cn ≤ 2147483647) (hp : 0 ≤ n ∧ n ≤ 10) (hon : zOns n on an) (hpe : zPeo n kd vl nb fr tl) (hap : zAp (cW E ac flt ce la si ln co n on tr fw cw ch nm) n an) : zMi l E yX9_means wsX9_means (zr 7 0 0) [.ref (ac 0), .int (jI (v)), .int (jI (d)), .int (jI (k)), .int (jI (lane)), .int (jI (i)), .int (jI (cn))] (cW E ac flt ce la si ln co n on tr fw cw ch nm) (fun H => zNm E n an kd vl nb fr tl H) (fun r (u : Int) => zA_means n kd vl nb fr tl ss sl ce v d k lane i cn r u) (fun (u : Int) => cW E ac u ce la si ln co n on tr fw cw ch nm) 0 0 := by
  refine zMi_of (own := RX9) (cc := cX9_means) (maxL := 8) (by decide) rfl (Nat.le_of_ble_eq_true rfl) rfl ?_
  intro p e s m args below meth c Q A S hK hA hS hP hD hAe hG hQ ls hl
  have hl : lv_has ls 8 [(0, .ref (ac 0)), (1, .int (jI (v))), (2, .int (jI (d))), (3, .int (jI (k))), (4, .int (jI (lane))), (5, .int (jI (i))), (6, .int (jI (cn)))] := hl
  have hNA := zNm_A hG hAe hap
  have hls := zRel_ls hrel
  refine lv_aload_n S.1 S.2.1 dX9_means_0 rfl (lv_at hl 0 rfl) ?_
  refine lv_iload_n S.1 S.2.1 dX9_means_1 rfl (lv_at hl 1 rfl) ?_
  refine lv_iload_n S.1 S.2.1 dX9_means_2 rfl (lv_at hl 3 rfl) ?_
  refine lv_iload_n S.1 S.2.1 dX9_means_3 rfl (lv_at hl 2 rfl) ?_
  refine z_ri (z_rS S hK (c_X9_isDay l E d (by omega)) gX9_means_X9_isDay rfl hs_X9_isDay ⟨Nat.le_of_ble_eq_true rfl, Nat.le_of_ble_eq_true rfl⟩ trivial hl.1 rfl (Nat.le_of_ble_eq_true rfl) ⟨by decide, by decide⟩ rfl dX9_means_4) (fun r_4 h_4 => ?_)
  refine z_if_ne (tgt := 14) S dX9_means_7 (by decide) (by omega) (fun c_7 => ?_) (fun c_7 => ?_)
  · skip
    refine z_iconst S dX9_means_14 ?_
    refine lv_iload S.1 S.2.1 dX9_means_15 (lv_at hl 4 rfl) ?_
    refine lv_iload S.1 S.2.1 dX9_means_17 (lv_at hl 5 rfl) ?_
    refine lv_iload S.1 S.2.1 dX9_means_19 (lv_at hl 6 rfl) ?_
    refine z_miw (z_mV S hK (c_X9_refusalOfRow l E ac flt ce la si ln co n on tr fw cw ch nm v k 0 lane i cn ss sl an (by omega) (by omega) (by omega) (by omega) (by omega) (by omega) (hrel) (hce) (by omega) (hon) _) gX9_means_X9_refusalOfRow rfl hv_X9_refusalOfRow ⟨Nat.le_of_ble_eq_true rfl, Nat.le_of_ble_eq_true rfl⟩ (va_recv hK hP (ci := 9) (q0 := 0) rfl rfl) hP hD trivial hl.1 rfl (Nat.le_of_ble_eq_true rfl) ⟨by decide, by decide⟩ rfl dX9_means_21) hD hS hA (fun r_21 u H locs h_21 hP hD hS => ?_)
    obtain ⟨u21_flt, u21_flt_e⟩ : ∃ z, z = u := ⟨_, rfl⟩
    subst u21_flt_e
    try dsimp only at h_21
    have hP : zP E (cW E ac u21_flt ce la si ln co n on tr fw cw ch nm) H := hP
    have hD : va_D A (cW E ac u21_flt ce la si ln co n on tr fw cw ch nm) := hD
    have h_21b := zRow_rng h_21
    refine lv_istore (lv' := [(7, .int (jI (r_21))), (0, .ref (ac 0)), (1, .int (jI (v))), (2, .int (jI (d))), (3, .int (jI (k))), (4, .int (jI (lane))), (5, .int (jI (i))), (6, .int (jI (cn)))]) S.1 S.2.1 dX9_means_24 hl (by decide) rfl (fun ls hl => ?_)
    refine lv_iload S.1 S.2.1 dX9_means_26 (lv_at hl 0 rfl) ?_
    refine z_if_ge (tgt := 36) S dX9_means_28 (by decide) (by omega) (fun c_28 => ?_) (fun c_28 => ?_)
    · skip
      have ok2 := zRow_ok2 hrel h_21 (by omega)
      refine lv_aload_n S.1 S.2.1 dX9_means_36 rfl (lv_at hl 1 rfl) ?_
      refine lv_iload_n S.1 S.2.1 dX9_means_37 rfl (lv_at hl 4 rfl) ?_
      refine lv_iload S.1 S.2.1 dX9_means_38 (lv_at hl 6 rfl) ?_
      refine lv_iload S.1 S.2.1 dX9_means_40 (lv_at hl 7 rfl) ?_
      refine lv_iload_n S.1 S.2.1 dX9_means_42 rfl (lv_at hl 2 rfl) ?_
      refine lv_iload_n S.1 S.2.1 dX9_means_43 rfl (lv_at hl 3 rfl) ?_
      refine z_ri (z_rV S hK (c_X9_meaning l E ac u21_flt ce la si ln co n on tr fw cw ch nm an kd vl nb fr tl k i cn v d ss sl (hrel) (hce) (by omega) (by omega) (ok2.2.2.2.2) (by omega) (by omega) (by omega) (hon) (hpe)) gX9_means_X9_meaning rfl hv_X9_meaning ⟨Nat.le_of_ble_eq_true rfl, Nat.le_of_ble_eq_true rfl⟩ (va_recv hK hP (ci := 9) (q0 := 0) rfl rfl) ⟨hP, (zNm_keep hG hS hNA)⟩ hl.1 rfl (Nat.le_of_ble_eq_true rfl) ⟨by decide, by decide⟩ rfl dX9_means_44) (fun r_44 h_44 => ?_)
      have hmr := zMean_rng h_44 (by omega) (fun j q1 q2 => (hpe _ (ok2.2.2.2.2 j q1 q2).1 (ok2.2.2.2.2 j q1 q2).2).2.2.1)
      exact hQ (r_44) (u21_flt) _ _ (by first | exact ⟨_, _, zRow_cong h_21 (by omega), Or.inl ⟨by omega, rfl, rfl⟩⟩ | exact ⟨_, _, zRow_cong h_21 (by omega), Or.inr ⟨ok2.2.2.2.1.1, ok2.2.2.2.1.2, h_44⟩⟩) hP hD hS _ _ dX9_means_47
    · skip
      refine lv_iload S.1 S.2.1 dX9_means_31 (lv_at hl 0 rfl) ?_
      refine z_goto (tgt := 47) S dX9_means_33 (by decide) ?_
      exact hQ (r_21) (u21_flt) _ _ (by first | exact ⟨_, _, zRow_cong h_21 (by omega), Or.inl ⟨by omega, rfl, rfl⟩⟩ | exact ⟨_, _, zRow_cong h_21 (by omega), Or.inr ⟨ok2.2.2.2.1.1, ok2.2.2.2.1.2, h_44⟩⟩) hP hD hS _ _ dX9_means_47
  · skip
    refine z_iconst S dX9_means_10 ?_
    refine z_goto (tgt := 15) S dX9_means_11 (by decide) ?_
    refine lv_iload S.1 S.2.1 dX9_means_15 (lv_at hl 4 rfl) ?_
    refine lv_iload S.1 S.2.1 dX9_means_17 (lv_at hl 5 rfl) ?_
    refine lv_iload S.1 S.2.1 dX9_means_19 (lv_at hl 6 rfl) ?_
    refine z_miw (z_mV S hK (c_X9_refusalOfRow l E ac flt ce la si ln co n on tr fw cw ch nm v k 1 lane i cn ss sl an (by omega) (by omega) (by omega) (by omega) (by omega) (by omega) (hrel) (hce) (by omega) (hon) _) gX9_means_X9_refusalOfRow rfl hv_X9_refusalOfRow ⟨Nat.le_of_ble_eq_true rfl, Nat.le_of_ble_eq_true rfl⟩ (va_recv hK hP (ci := 9) (q0 := 0) rfl rfl) hP hD trivial hl.1 rfl (Nat.le_of_ble_eq_true rfl) ⟨by decide, by decide⟩ rfl dX9_means_21) hD hS hA (fun r_21 u H locs h_21 hP hD hS => ?_)
    obtain ⟨u21_flt, u21_flt_e⟩ : ∃ z, z = u := ⟨_, rfl⟩
    subst u21_flt_e
    try dsimp only at h_21
    have hP : zP E (cW E ac u21_flt ce la si ln co n on tr fw cw ch nm) H := hP
    have hD : va_D A (cW E ac u21_flt ce la si ln co n on tr fw cw ch nm) := hD
    have h_21b := zRow_rng h_21
    refine lv_istore (lv' := [(7, .int (jI (r_21))), (0, .ref (ac 0)), (1, .int (jI (v))), (2, .int (jI (d))), (3, .int (jI (k))), (4, .int (jI (lane))), (5, .int (jI (i))), (6, .int (jI (cn)))]) S.1 S.2.1 dX9_means_24 hl (by decide) rfl (fun ls hl => ?_)
    refine lv_iload S.1 S.2.1 dX9_means_26 (lv_at hl 0 rfl) ?_
    refine z_if_ge (tgt := 36) S dX9_means_28 (by decide) (by omega) (fun c_28 => ?_) (fun c_28 => ?_)
    · skip
      have ok2 := zRow_ok2 hrel h_21 (by omega)
      refine lv_aload_n S.1 S.2.1 dX9_means_36 rfl (lv_at hl 1 rfl) ?_
      refine lv_iload_n S.1 S.2.1 dX9_means_37 rfl (lv_at hl 4 rfl) ?_
      refine lv_iload S.1 S.2.1 dX9_means_38 (lv_at hl 6 rfl) ?_
      refine lv_iload S.1 S.2.1 dX9_means_40 (lv_at hl 7 rfl) ?_
      refine lv_iload_n S.1 S.2.1 dX9_means_42 rfl (lv_at hl 2 rfl) ?_
      refine lv_iload_n S.1 S.2.1 dX9_means_43 rfl (lv_at hl 3 rfl) ?_
      refine z_ri (z_rV S hK (c_X9_meaning l E ac u21_flt ce la si ln co n on tr fw cw ch nm an kd vl nb fr tl k i cn v d ss sl (hrel) (hce) (by omega) (by omega) (ok2.2.2.2.2) (by omega) (by omega) (by omega) (hon) (hpe)) gX9_means_X9_meaning rfl hv_X9_meaning ⟨Nat.le_of_ble_eq_true rfl, Nat.le_of_ble_eq_true rfl⟩ (va_recv hK hP (ci := 9) (q0 := 0) rfl rfl) ⟨hP, (zNm_keep hG hS hNA)⟩ hl.1 rfl (Nat.le_of_ble_eq_true rfl) ⟨by decide, by decide⟩ rfl dX9_means_44) (fun r_44 h_44 => ?_)
      have hmr := zMean_rng h_44 (by omega) (fun j q1 q2 => (hpe _ (ok2.2.2.2.2 j q1 q2).1 (ok2.2.2.2.2 j q1 q2).2).2.2.1)
      exact hQ (r_44) (u21_flt) _ _ (by first | exact ⟨_, _, zRow_cong h_21 (by omega), Or.inl ⟨by omega, rfl, rfl⟩⟩ | exact ⟨_, _, zRow_cong h_21 (by omega), Or.inr ⟨ok2.2.2.2.1.1, ok2.2.2.2.1.2, h_44⟩⟩) hP hD hS _ _ dX9_means_47
    · skip
      refine lv_iload S.1 S.2.1 dX9_means_31 (lv_at hl 0 rfl) ?_
      refine z_goto (tgt := 47) S dX9_means_33 (by decide) ?_
      exact hQ (r_21) (u21_flt) _ _ (by first | exact ⟨_, _, zRow_cong h_21 (by omega), Or.inl ⟨by omega, rfl, rfl⟩⟩ | exact ⟨_, _, zRow_cong h_21 (by omega), Or.inr ⟨ok2.2.2.2.1.1, ok2.2.2.2.1.2, h_44⟩⟩) hP hD hS _ _ dX9_means_47

set_option maxHeartbeats 1000000 in
set_option maxRecDepth 20000 in
theorem c_X9_turned (l : Launch) (E : zE) (ac : Nat → Nat) (flt : Int) (ce la si : Int → Int) (ln : Int) (co : Int → Int) (n : Int) (on : Nat → Option Nat) (tr : Int) (fw cw ch nm : Int → Int) (an : Int → Nat) (kd vl nb fr tl : Int → Int) (v : Int) (d : Int) (o : Int) (k : Int) (lane : Int) (i : Int) (cn : Int) (ss : Int → Int) (sl : Int → Int) (hrel : zRel la si ss sl) (hce : zRg ce) (h_v : -2147483648 ≤ v ∧ v ≤ 2147483647) (h_d : -2147483648 ≤ d ∧ d ≤ 2147483647) (h_o : -2147483648 ≤ o ∧ o ≤ 2147483647) (h_k : -2147483648 ≤ k ∧ k ≤ 2147483647) (h_lane : -2147483648 ≤ lane ∧ lane ≤ 2147483647) (h_i : -2147483648 ≤ i ∧ i ≤ 2147483647) (h_cn : -2147483648 ≤ cn ∧ cn ≤ 2147483647) (hp : 0 ≤ n ∧ n ≤ 10) (hon : zOns n on an) (hpe : zPeo n kd vl nb fr tl) (hap : zAp (cW E ac flt ce la si ln co n on tr fw cw ch nm) n an) : zMi l E yX9_turned wsX9_turned (zr 7 0 0) [.ref (ac 0), .int (jI (v)), .int (jI (d)), .int (jI (o)), .int (jI (k)), .int (jI (lane)), .int (jI (i)), .int (jI (cn))] (cW E ac flt ce la si ln co n on tr fw cw ch nm) (fun H => zNm E n an kd vl nb fr tl H) (fun r (u : Int × (Int → Int)) => zA_turned n kd vl nb fr tl ss sl ce v d o k lane i cn r u.1) (fun (u : Int × (Int → Int)) => cW E ac u.1 ce la si ln co n on tr u.2 cw ch nm) 0 0 := by
  refine zMi_of (own := RX9) (cc := cX9_turned) (maxL := 10) (by decide) rfl (Nat.le_of_ble_eq_true rfl) rfl ?_
  intro p e s m args below meth c Q A S hK hA hS hP hD hAe hG hQ ls hl
  have hl : lv_has ls 10 [(0, .ref (ac 0)), (1, .int (jI (v))), (2, .int (jI (d))), (3, .int (jI (o))), (4, .int (jI (k))), (5, .int (jI (lane))), (6, .int (jI (i))), (7, .int (jI (cn)))] := hl
  have hNA := zNm_A hG hAe hap
  have hls := zRel_ls hrel
  refine lv_aload_n S.1 S.2.1 dX9_turned_0 rfl (lv_at hl 0 rfl) ?_
  refine lv_iload_n S.1 S.2.1 dX9_turned_1 rfl (lv_at hl 1 rfl) ?_
  refine lv_iload S.1 S.2.1 dX9_turned_2 (lv_at hl 4 rfl) ?_
  refine lv_iload_n S.1 S.2.1 dX9_turned_4 rfl (lv_at hl 2 rfl) ?_
  refine z_ri (z_rS S hK (c_X9_isDay l E d (by omega)) gX9_turned_X9_isDay rfl hs_X9_isDay ⟨Nat.le_of_ble_eq_true rfl, Nat.le_of_ble_eq_true rfl⟩ trivial hl.1 rfl (Nat.le_of_ble_eq_true rfl) ⟨by decide, by decide⟩ rfl dX9_turned_5) (fun r_5 h_5 => ?_)
  refine z_if_eq (tgt := 18) S dX9_turned_8 (by decide) (by omega) (fun c_8 => ?_) (fun c_8 => ?_)
  · skip
    refine z_iconst S dX9_turned_18 ?_
    refine z_goto (tgt := 23) S dX9_turned_19 (by decide) ?_
    refine lv_iload S.1 S.2.1 dX9_turned_23 (lv_at hl 5 rfl) ?_
    refine lv_iload S.1 S.2.1 dX9_turned_25 (lv_at hl 6 rfl) ?_
    refine lv_iload S.1 S.2.1 dX9_turned_27 (lv_at hl 7 rfl) ?_
    refine z_miw (z_mV S hK (c_X9_refusalOfRow l E ac flt ce la si ln co n on tr fw cw ch nm v k 1 lane i cn ss sl an (by omega) (by omega) (by omega) (by omega) (by omega) (by omega) (hrel) (hce) (by omega) (hon) _) gX9_turned_X9_refusalOfRow rfl hv_X9_refusalOfRow ⟨Nat.le_of_ble_eq_true rfl, Nat.le_of_ble_eq_true rfl⟩ (va_recv hK hP (ci := 9) (q0 := 0) rfl rfl) hP hD trivial hl.1 rfl (Nat.le_of_ble_eq_true rfl) ⟨by decide, by decide⟩ rfl dX9_turned_29) hD hS hA (fun r_29 u H locs h_29 hP hD hS => ?_)
    obtain ⟨u29_flt, u29_flt_e⟩ : ∃ z, z = u := ⟨_, rfl⟩
    subst u29_flt_e
    try dsimp only at h_29
    have hP : zP E (cW E ac u29_flt ce la si ln co n on tr fw cw ch nm) H := hP
    have hD : va_D A (cW E ac u29_flt ce la si ln co n on tr fw cw ch nm) := hD
    have h_29b := zRow_rng h_29
    refine lv_istore (lv' := [(8, .int (jI (r_29))), (0, .ref (ac 0)), (1, .int (jI (v))), (2, .int (jI (d))), (3, .int (jI (o))), (4, .int (jI (k))), (5, .int (jI (lane))), (6, .int (jI (i))), (7, .int (jI (cn)))]) S.1 S.2.1 dX9_turned_32 hl (by decide) rfl (fun ls hl => ?_)
    refine lv_iload S.1 S.2.1 dX9_turned_34 (lv_at hl 0 rfl) ?_
    refine z_if_ge (tgt := 42) S dX9_turned_36 (by decide) (by omega) (fun c_36 => ?_) (fun c_36 => ?_)
    · skip
      have ok2 := zRow_ok2 hrel h_29 (by omega)
      refine lv_aload_n S.1 S.2.1 dX9_turned_42 rfl (lv_at hl 1 rfl) ?_
      refine lv_iload S.1 S.2.1 dX9_turned_43 (lv_at hl 5 rfl) ?_
      refine lv_iload S.1 S.2.1 dX9_turned_45 (lv_at hl 7 rfl) ?_
      refine lv_iload S.1 S.2.1 dX9_turned_47 (lv_at hl 8 rfl) ?_
      refine lv_iload_n S.1 S.2.1 dX9_turned_49 rfl (lv_at hl 2 rfl) ?_
      refine lv_iload_n S.1 S.2.1 dX9_turned_50 rfl (lv_at hl 3 rfl) ?_
      refine z_ri (z_rV S hK (c_X9_meaning l E ac u29_flt ce la si ln co n on tr fw cw ch nm an kd vl nb fr tl k i cn v d ss sl (hrel) (hce) (by omega) (by omega) (ok2.2.2.2.2) (by omega) (by omega) (by omega) (hon) (hpe)) gX9_turned_X9_meaning rfl hv_X9_meaning ⟨Nat.le_of_ble_eq_true rfl, Nat.le_of_ble_eq_true rfl⟩ (va_recv hK hP (ci := 9) (q0 := 0) rfl rfl) ⟨hP, (zNm_keep hG hS hNA)⟩ hl.1 rfl (Nat.le_of_ble_eq_true rfl) ⟨by decide, by decide⟩ rfl dX9_turned_51) (fun r_51 h_51 => ?_)
      have hmr := zMean_rng h_51 (by omega) (fun j q1 q2 => (hpe _ (ok2.2.2.2.2 j q1 q2).1 (ok2.2.2.2.2 j q1 q2).2).2.2.1)
      refine lv_istore (lv' := [(9, .int (jI (r_51))), (8, .int (jI (r_29))), (0, .ref (ac 0)), (1, .int (jI (v))), (2, .int (jI (d))), (3, .int (jI (o))), (4, .int (jI (k))), (5, .int (jI (lane))), (6, .int (jI (i))), (7, .int (jI (cn)))]) S.1 S.2.1 dX9_turned_54 hl (by decide) rfl (fun ls hl => ?_)
      refine lv_iload S.1 S.2.1 dX9_turned_56 (lv_at hl 0 rfl) ?_
      refine z_ri (z_rS S hK (c_X9_isQuantity l E r_51 (by omega)) gX9_turned_X9_isQuantity rfl hs_X9_isQuantity ⟨Nat.le_of_ble_eq_true rfl, Nat.le_of_ble_eq_true rfl⟩ trivial hl.1 rfl (Nat.le_of_ble_eq_true rfl) ⟨by decide, by decide⟩ rfl dX9_turned_58) (fun r_58 h_58 => ?_)
      refine z_if_eq (tgt := 75) S dX9_turned_61 (by decide) (by omega) (fun c_61 => ?_) (fun c_61 => ?_)
      · skip
        refine z_bipush S (by decide +kernel) dX9_turned_75 ?_
        exact hQ (-9) ((u29_flt, fw)) _ _ (by first | exact ⟨_, _, zRow_cong h_29 (by omega), Or.inr ⟨ok2.2.2.2.1.1, ok2.2.2.2.1.2, ⟨r_51, h_51, Or.inl ⟨by omega, rfl⟩⟩⟩⟩ | exact ⟨_, _, zRow_cong h_29 (by omega), Or.inr ⟨ok2.2.2.2.1.1, ok2.2.2.2.1.2, ⟨r_51, h_51, Or.inr ⟨by omega, h_69.1⟩⟩⟩⟩) hP hD hS _ _ dX9_turned_77
      · skip
        refine lv_aload_n S.1 S.2.1 dX9_turned_64 rfl (lv_at hl 2 rfl) ?_
        refine lv_iload S.1 S.2.1 dX9_turned_65 (lv_at hl 0 rfl) ?_
        refine lv_iload_n S.1 S.2.1 dX9_turned_67 rfl (lv_at hl 3 rfl) ?_
        refine lv_iload_n S.1 S.2.1 dX9_turned_68 rfl (lv_at hl 5 rfl) ?_
        refine z_miw (z_mV S hK (c_X9_fewestWords l E ac u29_flt ce la si ln co n on tr fw cw ch nm an kd vl nb fr tl r_51 v o (by omega) (by omega) (by omega) (by omega) (hon) (hpe) (zAp_adr hap rfl) _) gX9_turned_X9_fewestWords rfl hv_X9_fewestWords ⟨Nat.le_of_ble_eq_true rfl, Nat.le_of_ble_eq_true rfl⟩ (va_recv hK hP (ci := 9) (q0 := 0) rfl rfl) hP hD (zNm_keep hG hS hNA) hl.1 rfl (Nat.le_of_ble_eq_true rfl) ⟨by decide, by decide⟩ rfl dX9_turned_69) hD hS hA (fun r_69 u H locs h_69 hP hD hS => ?_)
        obtain ⟨u69_fw, u69_fw_e⟩ : ∃ z, z = u := ⟨_, rfl⟩
        subst u69_fw_e
        try dsimp only at h_69
        have hP : zP E (cW E ac u29_flt ce la si ln co n on tr u69_fw cw ch nm) H := hP
        have hD : va_D A (cW E ac u29_flt ce la si ln co n on tr u69_fw cw ch nm) := hD
        refine z_goto (tgt := 77) S dX9_turned_72 (by decide) ?_
        exact hQ (r_69) ((u29_flt, u69_fw)) _ _ (by first | exact ⟨_, _, zRow_cong h_29 (by omega), Or.inr ⟨ok2.2.2.2.1.1, ok2.2.2.2.1.2, ⟨r_51, h_51, Or.inl ⟨by omega, rfl⟩⟩⟩⟩ | exact ⟨_, _, zRow_cong h_29 (by omega), Or.inr ⟨ok2.2.2.2.1.1, ok2.2.2.2.1.2, ⟨r_51, h_51, Or.inr ⟨by omega, h_69.1⟩⟩⟩⟩) hP hD hS _ _ dX9_turned_77
    · skip
      refine lv_iload S.1 S.2.1 dX9_turned_39 (lv_at hl 0 rfl) ?_
      exact hQ (r_29) ((u29_flt, fw)) _ _ (⟨_, _, zRow_cong h_29 (by omega), Or.inl ⟨by omega, rfl, rfl⟩⟩) hP hD hS _ _ dX9_turned_41
  · skip
    refine lv_iload_n S.1 S.2.1 dX9_turned_11 rfl (lv_at hl 3 rfl) ?_
    refine z_ri (z_rS S hK (c_X9_isDay l E o (by omega)) gX9_turned_X9_isDay rfl hs_X9_isDay ⟨Nat.le_of_ble_eq_true rfl, Nat.le_of_ble_eq_true rfl⟩ trivial hl.1 rfl (Nat.le_of_ble_eq_true rfl) ⟨by decide, by decide⟩ rfl dX9_turned_12) (fun r_12 h_12 => ?_)
    refine z_if_ne (tgt := 22) S dX9_turned_15 (by decide) (by omega) (fun c_15 => ?_) (fun c_15 => ?_)
    · skip
      refine z_iconst S dX9_turned_22 ?_
      refine lv_iload S.1 S.2.1 dX9_turned_23 (lv_at hl 5 rfl) ?_
      refine lv_iload S.1 S.2.1 dX9_turned_25 (lv_at hl 6 rfl) ?_
      refine lv_iload S.1 S.2.1 dX9_turned_27 (lv_at hl 7 rfl) ?_
      refine z_miw (z_mV S hK (c_X9_refusalOfRow l E ac flt ce la si ln co n on tr fw cw ch nm v k 0 lane i cn ss sl an (by omega) (by omega) (by omega) (by omega) (by omega) (by omega) (hrel) (hce) (by omega) (hon) _) gX9_turned_X9_refusalOfRow rfl hv_X9_refusalOfRow ⟨Nat.le_of_ble_eq_true rfl, Nat.le_of_ble_eq_true rfl⟩ (va_recv hK hP (ci := 9) (q0 := 0) rfl rfl) hP hD trivial hl.1 rfl (Nat.le_of_ble_eq_true rfl) ⟨by decide, by decide⟩ rfl dX9_turned_29) hD hS hA (fun r_29 u H locs h_29 hP hD hS => ?_)
      obtain ⟨u29_flt, u29_flt_e⟩ : ∃ z, z = u := ⟨_, rfl⟩
      subst u29_flt_e
      try dsimp only at h_29
      have hP : zP E (cW E ac u29_flt ce la si ln co n on tr fw cw ch nm) H := hP
      have hD : va_D A (cW E ac u29_flt ce la si ln co n on tr fw cw ch nm) := hD
      have h_29b := zRow_rng h_29
      refine lv_istore (lv' := [(8, .int (jI (r_29))), (0, .ref (ac 0)), (1, .int (jI (v))), (2, .int (jI (d))), (3, .int (jI (o))), (4, .int (jI (k))), (5, .int (jI (lane))), (6, .int (jI (i))), (7, .int (jI (cn)))]) S.1 S.2.1 dX9_turned_32 hl (by decide) rfl (fun ls hl => ?_)
      refine lv_iload S.1 S.2.1 dX9_turned_34 (lv_at hl 0 rfl) ?_
      refine z_if_ge (tgt := 42) S dX9_turned_36 (by decide) (by omega) (fun c_36 => ?_) (fun c_36 => ?_)
      · skip
        have ok2 := zRow_ok2 hrel h_29 (by omega)
        refine lv_aload_n S.1 S.2.1 dX9_turned_42 rfl (lv_at hl 1 rfl) ?_
        refine lv_iload S.1 S.2.1 dX9_turned_43 (lv_at hl 5 rfl) ?_
        refine lv_iload S.1 S.2.1 dX9_turned_45 (lv_at hl 7 rfl) ?_
        refine lv_iload S.1 S.2.1 dX9_turned_47 (lv_at hl 8 rfl) ?_
        refine lv_iload_n S.1 S.2.1 dX9_turned_49 rfl (lv_at hl 2 rfl) ?_
        refine lv_iload_n S.1 S.2.1 dX9_turned_50 rfl (lv_at hl 3 rfl) ?_
        refine z_ri (z_rV S hK (c_X9_meaning l E ac u29_flt ce la si ln co n on tr fw cw ch nm an kd vl nb fr tl k i cn v d ss sl (hrel) (hce) (by omega) (by omega) (ok2.2.2.2.2) (by omega) (by omega) (by omega) (hon) (hpe)) gX9_turned_X9_meaning rfl hv_X9_meaning ⟨Nat.le_of_ble_eq_true rfl, Nat.le_of_ble_eq_true rfl⟩ (va_recv hK hP (ci := 9) (q0 := 0) rfl rfl) ⟨hP, (zNm_keep hG hS hNA)⟩ hl.1 rfl (Nat.le_of_ble_eq_true rfl) ⟨by decide, by decide⟩ rfl dX9_turned_51) (fun r_51 h_51 => ?_)
        have hmr := zMean_rng h_51 (by omega) (fun j q1 q2 => (hpe _ (ok2.2.2.2.2 j q1 q2).1 (ok2.2.2.2.2 j q1 q2).2).2.2.1)
        refine lv_istore (lv' := [(9, .int (jI (r_51))), (8, .int (jI (r_29))), (0, .ref (ac 0)), (1, .int (jI (v))), (2, .int (jI (d))), (3, .int (jI (o))), (4, .int (jI (k))), (5, .int (jI (lane))), (6, .int (jI (i))), (7, .int (jI (cn)))]) S.1 S.2.1 dX9_turned_54 hl (by decide) rfl (fun ls hl => ?_)
        refine lv_iload S.1 S.2.1 dX9_turned_56 (lv_at hl 0 rfl) ?_
        refine z_ri (z_rS S hK (c_X9_isQuantity l E r_51 (by omega)) gX9_turned_X9_isQuantity rfl hs_X9_isQuantity ⟨Nat.le_of_ble_eq_true rfl, Nat.le_of_ble_eq_true rfl⟩ trivial hl.1 rfl (Nat.le_of_ble_eq_true rfl) ⟨by decide, by decide⟩ rfl dX9_turned_58) (fun r_58 h_58 => ?_)
        refine z_if_eq (tgt := 75) S dX9_turned_61 (by decide) (by omega) (fun c_61 => ?_) (fun c_61 => ?_)
        · skip
          refine z_bipush S (by decide +kernel) dX9_turned_75 ?_
          exact hQ (-9) ((u29_flt, fw)) _ _ (by first | exact ⟨_, _, zRow_cong h_29 (by omega), Or.inr ⟨ok2.2.2.2.1.1, ok2.2.2.2.1.2, ⟨r_51, h_51, Or.inl ⟨by omega, rfl⟩⟩⟩⟩ | exact ⟨_, _, zRow_cong h_29 (by omega), Or.inr ⟨ok2.2.2.2.1.1, ok2.2.2.2.1.2, ⟨r_51, h_51, Or.inr ⟨by omega, h_69.1⟩⟩⟩⟩) hP hD hS _ _ dX9_turned_77
        · skip
          refine lv_aload_n S.1 S.2.1 dX9_turned_64 rfl (lv_at hl 2 rfl) ?_
          refine lv_iload S.1 S.2.1 dX9_turned_65 (lv_at hl 0 rfl) ?_
          refine lv_iload_n S.1 S.2.1 dX9_turned_67 rfl (lv_at hl 3 rfl) ?_
          refine lv_iload_n S.1 S.2.1 dX9_turned_68 rfl (lv_at hl 5 rfl) ?_
          refine z_miw (z_mV S hK (c_X9_fewestWords l E ac u29_flt ce la si ln co n on tr fw cw ch nm an kd vl nb fr tl r_51 v o (by omega) (by omega) (by omega) (by omega) (hon) (hpe) (zAp_adr hap rfl) _) gX9_turned_X9_fewestWords rfl hv_X9_fewestWords ⟨Nat.le_of_ble_eq_true rfl, Nat.le_of_ble_eq_true rfl⟩ (va_recv hK hP (ci := 9) (q0 := 0) rfl rfl) hP hD (zNm_keep hG hS hNA) hl.1 rfl (Nat.le_of_ble_eq_true rfl) ⟨by decide, by decide⟩ rfl dX9_turned_69) hD hS hA (fun r_69 u H locs h_69 hP hD hS => ?_)
          obtain ⟨u69_fw, u69_fw_e⟩ : ∃ z, z = u := ⟨_, rfl⟩
          subst u69_fw_e
          try dsimp only at h_69
          have hP : zP E (cW E ac u29_flt ce la si ln co n on tr u69_fw cw ch nm) H := hP
          have hD : va_D A (cW E ac u29_flt ce la si ln co n on tr u69_fw cw ch nm) := hD
          refine z_goto (tgt := 77) S dX9_turned_72 (by decide) ?_
          exact hQ (r_69) ((u29_flt, u69_fw)) _ _ (by first | exact ⟨_, _, zRow_cong h_29 (by omega), Or.inr ⟨ok2.2.2.2.1.1, ok2.2.2.2.1.2, ⟨r_51, h_51, Or.inl ⟨by omega, rfl⟩⟩⟩⟩ | exact ⟨_, _, zRow_cong h_29 (by omega), Or.inr ⟨ok2.2.2.2.1.1, ok2.2.2.2.1.2, ⟨r_51, h_51, Or.inr ⟨by omega, h_69.1⟩⟩⟩⟩) hP hD hS _ _ dX9_turned_77
      · skip
        refine lv_iload S.1 S.2.1 dX9_turned_39 (lv_at hl 0 rfl) ?_
        exact hQ (r_29) ((u29_flt, fw)) _ _ (⟨_, _, zRow_cong h_29 (by omega), Or.inl ⟨by omega, rfl, rfl⟩⟩) hP hD hS _ _ dX9_turned_41
    · skip
      refine z_iconst S dX9_turned_18 ?_
      refine z_goto (tgt := 23) S dX9_turned_19 (by decide) ?_
      refine lv_iload S.1 S.2.1 dX9_turned_23 (lv_at hl 5 rfl) ?_
      refine lv_iload S.1 S.2.1 dX9_turned_25 (lv_at hl 6 rfl) ?_
      refine lv_iload S.1 S.2.1 dX9_turned_27 (lv_at hl 7 rfl) ?_
      refine z_miw (z_mV S hK (c_X9_refusalOfRow l E ac flt ce la si ln co n on tr fw cw ch nm v k 1 lane i cn ss sl an (by omega) (by omega) (by omega) (by omega) (by omega) (by omega) (hrel) (hce) (by omega) (hon) _) gX9_turned_X9_refusalOfRow rfl hv_X9_refusalOfRow ⟨Nat.le_of_ble_eq_true rfl, Nat.le_of_ble_eq_true rfl⟩ (va_recv hK hP (ci := 9) (q0 := 0) rfl rfl) hP hD trivial hl.1 rfl (Nat.le_of_ble_eq_true rfl) ⟨by decide, by decide⟩ rfl dX9_turned_29) hD hS hA (fun r_29 u H locs h_29 hP hD hS => ?_)
      obtain ⟨u29_flt, u29_flt_e⟩ : ∃ z, z = u := ⟨_, rfl⟩
      subst u29_flt_e
      try dsimp only at h_29
      have hP : zP E (cW E ac u29_flt ce la si ln co n on tr fw cw ch nm) H := hP
      have hD : va_D A (cW E ac u29_flt ce la si ln co n on tr fw cw ch nm) := hD
      have h_29b := zRow_rng h_29
      refine lv_istore (lv' := [(8, .int (jI (r_29))), (0, .ref (ac 0)), (1, .int (jI (v))), (2, .int (jI (d))), (3, .int (jI (o))), (4, .int (jI (k))), (5, .int (jI (lane))), (6, .int (jI (i))), (7, .int (jI (cn)))]) S.1 S.2.1 dX9_turned_32 hl (by decide) rfl (fun ls hl => ?_)
      refine lv_iload S.1 S.2.1 dX9_turned_34 (lv_at hl 0 rfl) ?_
      refine z_if_ge (tgt := 42) S dX9_turned_36 (by decide) (by omega) (fun c_36 => ?_) (fun c_36 => ?_)
      · skip
        have ok2 := zRow_ok2 hrel h_29 (by omega)
        refine lv_aload_n S.1 S.2.1 dX9_turned_42 rfl (lv_at hl 1 rfl) ?_
        refine lv_iload S.1 S.2.1 dX9_turned_43 (lv_at hl 5 rfl) ?_
        refine lv_iload S.1 S.2.1 dX9_turned_45 (lv_at hl 7 rfl) ?_
        refine lv_iload S.1 S.2.1 dX9_turned_47 (lv_at hl 8 rfl) ?_
        refine lv_iload_n S.1 S.2.1 dX9_turned_49 rfl (lv_at hl 2 rfl) ?_
        refine lv_iload_n S.1 S.2.1 dX9_turned_50 rfl (lv_at hl 3 rfl) ?_
        refine z_ri (z_rV S hK (c_X9_meaning l E ac u29_flt ce la si ln co n on tr fw cw ch nm an kd vl nb fr tl k i cn v d ss sl (hrel) (hce) (by omega) (by omega) (ok2.2.2.2.2) (by omega) (by omega) (by omega) (hon) (hpe)) gX9_turned_X9_meaning rfl hv_X9_meaning ⟨Nat.le_of_ble_eq_true rfl, Nat.le_of_ble_eq_true rfl⟩ (va_recv hK hP (ci := 9) (q0 := 0) rfl rfl) ⟨hP, (zNm_keep hG hS hNA)⟩ hl.1 rfl (Nat.le_of_ble_eq_true rfl) ⟨by decide, by decide⟩ rfl dX9_turned_51) (fun r_51 h_51 => ?_)
        have hmr := zMean_rng h_51 (by omega) (fun j q1 q2 => (hpe _ (ok2.2.2.2.2 j q1 q2).1 (ok2.2.2.2.2 j q1 q2).2).2.2.1)
        refine lv_istore (lv' := [(9, .int (jI (r_51))), (8, .int (jI (r_29))), (0, .ref (ac 0)), (1, .int (jI (v))), (2, .int (jI (d))), (3, .int (jI (o))), (4, .int (jI (k))), (5, .int (jI (lane))), (6, .int (jI (i))), (7, .int (jI (cn)))]) S.1 S.2.1 dX9_turned_54 hl (by decide) rfl (fun ls hl => ?_)
        refine lv_iload S.1 S.2.1 dX9_turned_56 (lv_at hl 0 rfl) ?_
        refine z_ri (z_rS S hK (c_X9_isQuantity l E r_51 (by omega)) gX9_turned_X9_isQuantity rfl hs_X9_isQuantity ⟨Nat.le_of_ble_eq_true rfl, Nat.le_of_ble_eq_true rfl⟩ trivial hl.1 rfl (Nat.le_of_ble_eq_true rfl) ⟨by decide, by decide⟩ rfl dX9_turned_58) (fun r_58 h_58 => ?_)
        refine z_if_eq (tgt := 75) S dX9_turned_61 (by decide) (by omega) (fun c_61 => ?_) (fun c_61 => ?_)
        · skip
          refine z_bipush S (by decide +kernel) dX9_turned_75 ?_
          exact hQ (-9) ((u29_flt, fw)) _ _ (by first | exact ⟨_, _, zRow_cong h_29 (by omega), Or.inr ⟨ok2.2.2.2.1.1, ok2.2.2.2.1.2, ⟨r_51, h_51, Or.inl ⟨by omega, rfl⟩⟩⟩⟩ | exact ⟨_, _, zRow_cong h_29 (by omega), Or.inr ⟨ok2.2.2.2.1.1, ok2.2.2.2.1.2, ⟨r_51, h_51, Or.inr ⟨by omega, h_69.1⟩⟩⟩⟩) hP hD hS _ _ dX9_turned_77
        · skip
          refine lv_aload_n S.1 S.2.1 dX9_turned_64 rfl (lv_at hl 2 rfl) ?_
          refine lv_iload S.1 S.2.1 dX9_turned_65 (lv_at hl 0 rfl) ?_
          refine lv_iload_n S.1 S.2.1 dX9_turned_67 rfl (lv_at hl 3 rfl) ?_
          refine lv_iload_n S.1 S.2.1 dX9_turned_68 rfl (lv_at hl 5 rfl) ?_
          refine z_miw (z_mV S hK (c_X9_fewestWords l E ac u29_flt ce la si ln co n on tr fw cw ch nm an kd vl nb fr tl r_51 v o (by omega) (by omega) (by omega) (by omega) (hon) (hpe) (zAp_adr hap rfl) _) gX9_turned_X9_fewestWords rfl hv_X9_fewestWords ⟨Nat.le_of_ble_eq_true rfl, Nat.le_of_ble_eq_true rfl⟩ (va_recv hK hP (ci := 9) (q0 := 0) rfl rfl) hP hD (zNm_keep hG hS hNA) hl.1 rfl (Nat.le_of_ble_eq_true rfl) ⟨by decide, by decide⟩ rfl dX9_turned_69) hD hS hA (fun r_69 u H locs h_69 hP hD hS => ?_)
          obtain ⟨u69_fw, u69_fw_e⟩ : ∃ z, z = u := ⟨_, rfl⟩
          subst u69_fw_e
          try dsimp only at h_69
          have hP : zP E (cW E ac u29_flt ce la si ln co n on tr u69_fw cw ch nm) H := hP
          have hD : va_D A (cW E ac u29_flt ce la si ln co n on tr u69_fw cw ch nm) := hD
          refine z_goto (tgt := 77) S dX9_turned_72 (by decide) ?_
          exact hQ (r_69) ((u29_flt, u69_fw)) _ _ (by first | exact ⟨_, _, zRow_cong h_29 (by omega), Or.inr ⟨ok2.2.2.2.1.1, ok2.2.2.2.1.2, ⟨r_51, h_51, Or.inl ⟨by omega, rfl⟩⟩⟩⟩ | exact ⟨_, _, zRow_cong h_29 (by omega), Or.inr ⟨ok2.2.2.2.1.1, ok2.2.2.2.1.2, ⟨r_51, h_51, Or.inr ⟨by omega, h_69.1⟩⟩⟩⟩) hP hD hS _ _ dX9_turned_77
      · skip
        refine lv_iload S.1 S.2.1 dX9_turned_39 (lv_at hl 0 rfl) ?_
        exact hQ (r_29) ((u29_flt, fw)) _ _ (⟨_, _, zRow_cong h_29 (by omega), Or.inl ⟨by omega, rfl, rfl⟩⟩) hP hD hS _ _ dX9_turned_41

set_option maxHeartbeats 1000000 in
set_option maxRecDepth 20000 in
theorem c_X9_say (l : Launch) (E : zE) (ac : Nat → Nat) (flt : Int) (ce la si : Int → Int) (ln : Int) (co : Int → Int) (n : Int) (on : Nat → Option Nat) (tr : Int) (fw cw ch nm : Int → Int) (an : Int → Nat) (kd vl nb fr tl : Int → Int) (q : Int) (v : Int) (d : Int) (k : Int) (h_q : -2147483648 ≤ q ∧ q ≤ 2147483647) (h_v : -2147483648 ≤ v ∧ v ≤ 2147483647) (h_d : -2147483648 ≤ d ∧ d ≤ 2147483647) (h_k : -2147483648 ≤ k ∧ k ≤ 2147483647) (hp : 0 ≤ n ∧ n ≤ 10) (hon : zOns n on an) (hpe : zPeo n kd vl nb fr tl) (hap : zAp (cW E ac flt ce la si ln co n on tr fw cw ch nm) n an) : zMi l E yX9_say wsX9_say (zr 7 0 0) [.ref (ac 0), .int (jI (q)), .int (jI (v)), .int (jI (d)), .int (jI (k))] (cW E ac flt ce la si ln co n on tr fw cw ch nm) (fun H => zNm E n an kd vl nb fr tl H) (fun r (u : Int → Int) => zA_say n kd vl nb fr tl q v d k r) (fun (u : Int → Int) => cW E ac flt ce la si ln co n on tr u cw ch nm) 0 0 := by
  refine zMi_of (own := RX9) (cc := cX9_say) (maxL := 6) (by decide) rfl (Nat.le_of_ble_eq_true rfl) rfl ?_
  intro p e s m args below meth c Q A S hK hA hS hP hD hAe hG hQ ls hl
  have hl : lv_has ls 6 [(0, .ref (ac 0)), (1, .int (jI (q))), (2, .int (jI (v))), (3, .int (jI (d))), (4, .int (jI (k)))] := hl
  have hNA := zNm_A hG hAe hap
  refine lv_iload_n S.1 S.2.1 dX9_say_0 rfl (lv_at hl 2 rfl) ?_
  refine z_ri (z_rS S hK (c_X9_isVillage l E v (by omega)) gX9_say_X9_isVillage rfl hs_X9_isVillage ⟨Nat.le_of_ble_eq_true rfl, Nat.le_of_ble_eq_true rfl⟩ trivial hl.1 rfl (Nat.le_of_ble_eq_true rfl) ⟨by decide, by decide⟩ rfl dX9_say_1) (fun r_1 h_1 => ?_)
  refine z_if_eq (tgt := 13) S dX9_say_4 (by decide) (by omega) (fun c_4 => ?_) (fun c_4 => ?_)
  · skip
    refine z_iconst S dX9_say_13 ?_
    exact hQ (-1) (fw) _ _ (Or.inl ⟨by omega, rfl⟩) hP hD hS _ _ dX9_say_14
  · skip
    refine lv_iload S.1 S.2.1 dX9_say_7 (lv_at hl 4 rfl) ?_
    refine z_iconst S dX9_say_9 ?_
    refine z_icmp_ge (tgt := 15) S dX9_say_10 (by decide) (by omega) (fun c_10 => ?_) (fun c_10 => ?_)
    · skip
      refine lv_iload_n S.1 S.2.1 dX9_say_15 rfl (lv_at hl 1 rfl) ?_
      refine z_ri (z_rS S hK (c_X9_isQuantity l E q (by omega)) gX9_say_X9_isQuantity rfl hs_X9_isQuantity ⟨Nat.le_of_ble_eq_true rfl, Nat.le_of_ble_eq_true rfl⟩ trivial hl.1 rfl (Nat.le_of_ble_eq_true rfl) ⟨by decide, by decide⟩ rfl dX9_say_16) (fun r_16 h_16 => ?_)
      refine z_if_eq (tgt := 29) S dX9_say_19 (by decide) (by omega) (fun c_19 => ?_) (fun c_19 => ?_)
      · skip
        refine z_bipush S (by decide +kernel) dX9_say_29 ?_
        exact hQ (-2) (fw) _ _ (Or.inr ⟨by omega, Or.inl ⟨by omega, rfl⟩⟩) hP hD hS _ _ dX9_say_31
      · skip
        refine lv_iload_n S.1 S.2.1 dX9_say_22 rfl (lv_at hl 3 rfl) ?_
        refine z_ri (z_rS S hK (c_X9_isDay l E d (by omega)) gX9_say_X9_isDay rfl hs_X9_isDay ⟨Nat.le_of_ble_eq_true rfl, Nat.le_of_ble_eq_true rfl⟩ trivial hl.1 rfl (Nat.le_of_ble_eq_true rfl) ⟨by decide, by decide⟩ rfl dX9_say_23) (fun r_23 h_23 => ?_)
        refine z_if_ne (tgt := 32) S dX9_say_26 (by decide) (by omega) (fun c_26 => ?_) (fun c_26 => ?_)
        · skip
          refine lv_aload_n S.1 S.2.1 dX9_say_32 rfl (lv_at hl 0 rfl) ?_
          refine lv_iload_n S.1 S.2.1 dX9_say_33 rfl (lv_at hl 1 rfl) ?_
          refine lv_iload_n S.1 S.2.1 dX9_say_34 rfl (lv_at hl 2 rfl) ?_
          refine lv_iload_n S.1 S.2.1 dX9_say_35 rfl (lv_at hl 3 rfl) ?_
          refine z_miw (z_mV S hK (c_X9_fewestWords l E ac flt ce la si ln co n on tr fw cw ch nm an kd vl nb fr tl q v d (by omega) (by omega) (by omega) (by omega) (hon) (hpe) (zAp_adr hap rfl) _) gX9_say_X9_fewestWords rfl hv_X9_fewestWords ⟨Nat.le_of_ble_eq_true rfl, Nat.le_of_ble_eq_true rfl⟩ (va_recv hK hP (ci := 9) (q0 := 0) rfl rfl) hP hD (zNm_keep hG hS hNA) hl.1 rfl (Nat.le_of_ble_eq_true rfl) ⟨by decide, by decide⟩ rfl dX9_say_36) hD hS hA (fun r_36 u H locs h_36 hP hD hS => ?_)
          obtain ⟨u36_fw, u36_fw_e⟩ : ∃ z, z = u := ⟨_, rfl⟩
          subst u36_fw_e
          try dsimp only at h_36
          have hP : zP E (cW E ac flt ce la si ln co n on tr u36_fw cw ch nm) H := hP
          have hD : va_D A (cW E ac flt ce la si ln co n on tr u36_fw cw ch nm) := hD
          have h36r := h_36.2.2
          refine lv_istore (lv' := [(5, .int (jI (r_36))), (0, .ref (ac 0)), (1, .int (jI (q))), (2, .int (jI (v))), (3, .int (jI (d))), (4, .int (jI (k)))]) S.1 S.2.1 dX9_say_39 hl (by decide) rfl (fun ls hl => ?_)
          refine lv_iload S.1 S.2.1 dX9_say_41 (lv_at hl 5 rfl) ?_
          refine z_iconst S dX9_say_43 ?_
          refine z_icmp_eq (tgt := 54) S dX9_say_44 (by decide) (by omega) (fun c_44 => ?_) (fun c_44 => ?_)
          · skip
            refine lv_iload S.1 S.2.1 dX9_say_54 (lv_at hl 0 rfl) ?_
            exact hQ (r_36) (u36_fw) _ _ (Or.inr ⟨by omega, Or.inr ⟨by omega, zSaid_fw h_36.1 (by omega)⟩⟩) hP hD hS _ _ dX9_say_56
          · skip
            refine lv_iload S.1 S.2.1 dX9_say_47 (lv_at hl 0 rfl) ?_
            refine z_bipush S (by decide +kernel) dX9_say_49 ?_
            refine z_icmp_ne (tgt := 57) S dX9_say_51 (by decide) (by omega) (fun c_51 => ?_) (fun c_51 => ?_)
            · skip
              obtain ⟨wN, hwN, hmin⟩ := zFewest_min h_36.1 (by omega)
              refine lv_iload S.1 S.2.1 dX9_say_57 (lv_at hl 5 rfl) ?_
              refine lv_iload S.1 S.2.1 dX9_say_59 (lv_at hl 0 rfl) ?_
              refine z_icmp_ge (tgt := 76) S dX9_say_61 (by decide) (by omega) (fun c_61 => ?_) (fun c_61 => ?_)
              · skip
                refine z_bipush S (by decide +kernel) dX9_say_76 ?_
                exact hQ (-9) (u36_fw) _ _ (Or.inr ⟨by omega, Or.inr ⟨by omega, Or.inr ⟨wN, hmin, by first | exact Or.inr (Or.inr ⟨by omega, by omega, h_70.1⟩) | exact Or.inr (Or.inl ⟨by omega, by omega, rfl⟩)⟩⟩⟩) hP hD hS _ _ dX9_say_78
              · skip
                refine lv_aload_n S.1 S.2.1 dX9_say_64 rfl (lv_at hl 1 rfl) ?_
                refine lv_iload S.1 S.2.1 dX9_say_65 (lv_at hl 5 rfl) ?_
                refine lv_iload_n S.1 S.2.1 dX9_say_67 rfl (lv_at hl 2 rfl) ?_
                refine lv_iload_n S.1 S.2.1 dX9_say_68 rfl (lv_at hl 3 rfl) ?_
                refine lv_iload_n S.1 S.2.1 dX9_say_69 rfl (lv_at hl 4 rfl) ?_
                refine z_ri (z_rV S hK (c_X9_numberAt l E ac flt ce la si ln co n on tr u36_fw cw ch nm an kd vl nb fr tl k q v d wN (by omega) (hmin) (by omega) (by omega) (h_36.2.1) (by omega) (by omega) (by omega) (hon) (hpe)) gX9_say_X9_numberAt rfl hv_X9_numberAt ⟨Nat.le_of_ble_eq_true rfl, Nat.le_of_ble_eq_true rfl⟩ (va_recv hK hP (ci := 9) (q0 := 0) rfl rfl) ⟨hP, (zNm_keep hG hS hNA)⟩ hl.1 rfl (Nat.le_of_ble_eq_true rfl) ⟨by decide, by decide⟩ rfl dX9_say_70) (fun r_70 h_70 => ?_)
                refine z_goto (tgt := 78) S dX9_say_73 (by decide) ?_
                exact hQ (r_70) (u36_fw) _ _ (Or.inr ⟨by omega, Or.inr ⟨by omega, Or.inr ⟨wN, hmin, by first | exact Or.inr (Or.inr ⟨by omega, by omega, h_70.1⟩) | exact Or.inr (Or.inl ⟨by omega, by omega, rfl⟩)⟩⟩⟩) hP hD hS _ _ dX9_say_78
            · skip
              refine lv_iload S.1 S.2.1 dX9_say_54 (lv_at hl 0 rfl) ?_
              exact hQ (r_36) (u36_fw) _ _ (Or.inr ⟨by omega, Or.inr ⟨by omega, zSaid_fw h_36.1 (by omega)⟩⟩) hP hD hS _ _ dX9_say_56
        · skip
          refine z_bipush S (by decide +kernel) dX9_say_29 ?_
          exact hQ (-2) (fw) _ _ (Or.inr ⟨by omega, Or.inl ⟨by omega, rfl⟩⟩) hP hD hS _ _ dX9_say_31
    · skip
      refine z_iconst S dX9_say_13 ?_
      exact hQ (-1) (fw) _ _ (Or.inl ⟨by omega, rfl⟩) hP hD hS _ _ dX9_say_14
