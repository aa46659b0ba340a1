theorem hv_X10_noOne : yX10_noOne.cls = RX10 ∧ yX10_noOne.cls ≠ "java/lang/invoke/MethodHandle" ∧ yX10_noOne.cls ≠ "java/lang/invoke/VarHandle" ∧ (parseMethodDescriptor yX10_noOne.desc).map (fun d => d.parameters.length) = some 1 := by decide +kernel
theorem i_X10_ofOne_10 : ∀ w ∈ u_ws RX10 TX10 22, w ∈ wsX10_ofOne := fun w h => List.mem_cons_of_mem _ (List.mem_append_right _ h)
theorem q_X10_ofOne_1 : Cond.fieldLink RX10 7 "LivingNumbersModel" "kindOf" "[I" ∈ wsX10_ofOne := List.mem_of_getElem? (i := 1) rfl
theorem q_X10_ofOne_2 : Cond.fieldLink RX10 13 "LivingNumbersModel" "villageOf" "[I" ∈ wsX10_ofOne := List.mem_of_getElem? (i := 2) rfl
theorem q_X10_ofOne_3 : Cond.fieldLink RX10 16 "LivingNumbersModel" "numberOf" "[I" ∈ wsX10_ofOne := List.mem_of_getElem? (i := 3) rfl
theorem q_X10_ofOne_4 : Cond.fieldLink RX10 19 "LivingNumbersModel" "fromOf" "[I" ∈ wsX10_ofOne := List.mem_of_getElem? (i := 4) rfl
theorem q_X10_ofOne_5 : Cond.fieldLink RX10 22 "LivingNumbersModel" "tillOf" "[I" ∈ wsX10_ofOne := List.mem_of_getElem? (i := 5) rfl
theorem i_X10_doesLive_10 : ∀ w ∈ u_ws RX10 TX10 22, w ∈ wsX10_doesLive := fun w h => List.mem_cons_of_mem _ (List.mem_append_right _ h)
theorem q_X10_doesLive_1 : Cond.fieldLink RX10 22 "LivingNumbersModel" "tillOf" "[I" ∈ wsX10_doesLive := List.mem_of_getElem? (i := 1) rfl
theorem q_X10_doesLive_2 : Cond.fieldLink RX10 7 "LivingNumbersModel" "kindOf" "[I" ∈ wsX10_doesLive := List.mem_of_getElem? (i := 2) rfl
theorem q_X10_doesLive_4 : Cond.fieldLink RX10 19 "LivingNumbersModel" "fromOf" "[I" ∈ wsX10_doesLive := List.mem_of_getElem? (i := 4) rfl
theorem q_X10_doesLive_3 : Cond.fieldLink RX10 13 "LivingNumbersModel" "villageOf" "[I" ∈ wsX10_doesLive := List.mem_of_getElem? (i := 3) rfl
theorem hs_X10_noVillage : yX10_noVillage.cls ≠ "java/lang/invoke/MethodHandle" ∧ yX10_noVillage.cls ≠ "java/lang/invoke/VarHandle" ∧ (parseMethodDescriptor yX10_noVillage.desc).map (fun d => d.parameters.length) = some 1 := by decide +kernel
theorem hs_X10_isDay : yX10_isDay.cls ≠ "java/lang/invoke/MethodHandle" ∧ yX10_isDay.cls ≠ "java/lang/invoke/VarHandle" ∧ (parseMethodDescriptor yX10_isDay.desc).map (fun d => d.parameters.length) = some 1 := by decide +kernel
theorem hv_X10_doesLive : yX10_doesLive.cls = RX10 ∧ yX10_doesLive.cls ≠ "java/lang/invoke/MethodHandle" ∧ yX10_doesLive.cls ≠ "java/lang/invoke/VarHandle" ∧ (parseMethodDescriptor yX10_doesLive.desc).map (fun d => d.parameters.length) = some 3 := by decide +kernel
theorem i_X10_saidBy_10 : ∀ w ∈ u_ws RX10 TX10 22, w ∈ wsX10_saidBy := fun w h => List.mem_cons_of_mem _ (List.mem_append_right _ h)
theorem q_X10_saidBy_1 : Cond.fieldLink RX10 93 "LivingNumbersModel" "people" "I" ∈ wsX10_saidBy := List.mem_of_getElem? (i := 1) rfl
theorem q_X10_saidBy_2 : Cond.fieldLink RX10 16 "LivingNumbersModel" "numberOf" "[I" ∈ wsX10_saidBy := List.mem_of_getElem? (i := 2) rfl
theorem q_X10_word_1 : Cond.constantLong RX10 140 (99) ∈ wsX10_word := List.mem_of_getElem? (i := 1) rfl
theorem hv_X10_saidBy : yX10_saidBy.cls = RX10 ∧ yX10_saidBy.cls ≠ "java/lang/invoke/MethodHandle" ∧ yX10_saidBy.cls ≠ "java/lang/invoke/VarHandle" ∧ (parseMethodDescriptor yX10_saidBy.desc).map (fun d => d.parameters.length) = some 3 := by decide +kernel
set_option maxHeartbeats 1000000 in
set_option maxRecDepth 20000 in
theorem c_X10_ofOne (l : Launch) (E : zE) (ad : Nat → Nat) (flt ppl : Int) (kd vl nb fr tl : Int → Int) (rA rP : Int) (rk rv rn rf rt can fw fs ss sl sh hd : Int → Int) (tr : Int) (x : Int) (what : Int) (h_x : -2147483648 ≤ x ∧ x ≤ 2147483647) (h_what : -2147483648 ≤ what ∧ what ≤ 2147483647) (hp : 0 ≤ ppl ∧ ppl ≤ 10) : zRi l E yX10_ofOne wsX10_ofOne (zr 3 0 0) [.ref (ad 0), .int (jI (x)), .int (jI (what))] (fun H => zP E (mW E ad flt ppl kd vl nb fr tl rA rP rk rv rn rf rt can fw fs ss sl sh hd tr) H) (fun r => zA_ofOne ppl kd vl nb fr tl x what r) := by
  refine zRi_of (own := RX10) (cc := cX10_ofOne) (maxL := 3) (by decide) rfl (Nat.le_of_ble_eq_true rfl) rfl ?_
  intro p e s m args below meth c Q S hK hP hQ ls hl
  have hl : lv_has ls 3 [(0, .ref (ad 0)), (1, .int (jI (x))), (2, .int (jI (what)))] := hl
  refine lv_aload_n S.1 S.2.1 dX10_ofOne_0 rfl (lv_at hl 0 rfl) ?_
  refine lv_iload_n S.1 S.2.1 dX10_ofOne_1 rfl (lv_at hl 1 rfl) ?_
  refine z_ri (z_rV S hK (c_X10_noOne l E ad flt ppl kd vl nb fr tl rA rP rk rv rn rf rt can fw fs ss sl sh hd tr x (by omega) (by omega)) gX10_ofOne_X10_noOne rfl hv_X10_noOne ⟨Nat.le_of_ble_eq_true rfl, Nat.le_of_ble_eq_true rfl⟩ (va_recv hK hP (ci := 10) (q0 := 0) rfl rfl) hP hl.1 rfl (Nat.le_of_ble_eq_true rfl) ⟨by decide, by decide⟩ rfl dX10_ofOne_2) (fun r_2 h_2 => ?_)
  refine z_if_eq (tgt := 10) S dX10_ofOne_5 (by decide) (by omega) (fun c_5 => ?_) (fun c_5 => ?_)
  · skip
    refine lv_iload_n S.1 S.2.1 dX10_ofOne_10 rfl (lv_at hl 2 rfl) ?_
    rcases zsw what 0 4 with c_11 | c_11
    · refine z_swOut (tgt := 79) S dX10_ofOne_11 (by omega) (by omega) (by decide) ?_
      refine z_bipush S (by decide +kernel) dX10_ofOne_79 ?_
      exact hQ (-2) (by unfold zA_ofOne; omega) _ _ dX10_ofOne_81
    · have hsw : what = 0 ∨ what = 1 ∨ what = 2 ∨ what = 3 ∨ what = 4 := by omega
      rcases hsw with hsw | hsw | hsw | hsw | hsw
      · refine z_swIn (tgt := 44) (off := 33) S dX10_ofOne_11 (by omega) hsw (by decide) (by decide) (by decide) (by decide) ?_
        refine lv_aload_n S.1 S.2.1 dX10_ofOne_44 rfl (lv_at hl 0 rfl) ?_
        refine z_get S hK hP 0 rfl rfl 2 (by decide) i_X10_ofOne_10 q_X10_ofOne_1 rfl dX10_ofOne_45 ?_
        refine lv_iload_n S.1 S.2.1 dX10_ofOne_48 rfl (lv_at hl 1 rfl) ?_
        refine z_iald S hK hP 1 rfl (by omega) dX10_ofOne_49 ?_
        exact hQ (kd (x)) (by unfold zA_ofOne; omega) _ _ dX10_ofOne_50
      · refine z_swIn (tgt := 51) (off := 40) S dX10_ofOne_11 (by omega) hsw (by decide) (by decide) (by decide) (by decide) ?_
        refine lv_aload_n S.1 S.2.1 dX10_ofOne_51 rfl (lv_at hl 0 rfl) ?_
        refine z_get S hK hP 0 rfl rfl 3 (by decide) i_X10_ofOne_10 q_X10_ofOne_2 rfl dX10_ofOne_52 ?_
        refine lv_iload_n S.1 S.2.1 dX10_ofOne_55 rfl (lv_at hl 1 rfl) ?_
        refine z_iald S hK hP 2 rfl (by omega) dX10_ofOne_56 ?_
        exact hQ (vl (x)) (by unfold zA_ofOne; omega) _ _ dX10_ofOne_57
      · refine z_swIn (tgt := 58) (off := 47) S dX10_ofOne_11 (by omega) hsw (by decide) (by decide) (by decide) (by decide) ?_
        refine lv_aload_n S.1 S.2.1 dX10_ofOne_58 rfl (lv_at hl 0 rfl) ?_
        refine z_get S hK hP 0 rfl rfl 4 (by decide) i_X10_ofOne_10 q_X10_ofOne_3 rfl dX10_ofOne_59 ?_
        refine lv_iload_n S.1 S.2.1 dX10_ofOne_62 rfl (lv_at hl 1 rfl) ?_
        refine z_iald S hK hP 3 rfl (by omega) dX10_ofOne_63 ?_
        exact hQ (nb (x)) (by unfold zA_ofOne; omega) _ _ dX10_ofOne_64
      · refine z_swIn (tgt := 65) (off := 54) S dX10_ofOne_11 (by omega) hsw (by decide) (by decide) (by decide) (by decide) ?_
        refine lv_aload_n S.1 S.2.1 dX10_ofOne_65 rfl (lv_at hl 0 rfl) ?_
        refine z_get S hK hP 0 rfl rfl 5 (by decide) i_X10_ofOne_10 q_X10_ofOne_4 rfl dX10_ofOne_66 ?_
        refine lv_iload_n S.1 S.2.1 dX10_ofOne_69 rfl (lv_at hl 1 rfl) ?_
        refine z_iald S hK hP 4 rfl (by omega) dX10_ofOne_70 ?_
        exact hQ (fr (x)) (by unfold zA_ofOne; omega) _ _ dX10_ofOne_71
      · refine z_swIn (tgt := 72) (off := 61) S dX10_ofOne_11 (by omega) hsw (by decide) (by decide) (by decide) (by decide) ?_
        refine lv_aload_n S.1 S.2.1 dX10_ofOne_72 rfl (lv_at hl 0 rfl) ?_
        refine z_get S hK hP 0 rfl rfl 6 (by decide) i_X10_ofOne_10 q_X10_ofOne_5 rfl dX10_ofOne_73 ?_
        refine lv_iload_n S.1 S.2.1 dX10_ofOne_76 rfl (lv_at hl 1 rfl) ?_
        refine z_iald S hK hP 5 rfl (by omega) dX10_ofOne_77 ?_
        exact hQ (tl (x)) (by unfold zA_ofOne; omega) _ _ dX10_ofOne_78
  · skip
    refine z_iconst S dX10_ofOne_8 ?_
    exact hQ (-1) (by unfold zA_ofOne; omega) _ _ dX10_ofOne_9

set_option maxHeartbeats 1000000 in
set_option maxRecDepth 20000 in
theorem c_X10_doesLive (l : Launch) (E : zE) (ad : Nat → Nat) (flt ppl : Int) (kd vl nb fr tl : Int → Int) (rA rP : Int) (rk rv rn rf rt can fw fs ss sl sh hd : Int → Int) (tr : Int) (x : Int) (v : Int) (d : Int) (h_v : -2147483648 ≤ v ∧ v ≤ 2147483647) (h_d : -2147483648 ≤ d ∧ d ≤ 2147483647) (hx : 0 ≤ x ∧ x < ppl) (hp : 0 ≤ ppl ∧ ppl ≤ 10) (hpe : zPeo ppl kd vl nb fr tl) : zRi l E yX10_doesLive wsX10_doesLive (zr 1 0 0) [.ref (ad 0), .int (jI (x)), .int (jI (v)), .int (jI (d))] (fun H => zP E (mW E ad flt ppl kd vl nb fr tl rA rP rk rv rn rf rt can fw fs ss sl sh hd tr) H) (fun r => (r = 1 ∧ (zlive kd vl fr tl x v d)) ∨ (r = 0 ∧ ¬ (zlive kd vl fr tl x v d))) := by
  refine zRz_of (own := RX10) (cc := cX10_doesLive) (maxL := 5) (by decide) rfl (Nat.le_of_ble_eq_true rfl) rfl ?_
  intro p e s m args below meth c Q S hK hP hQ ls hl
  have hl : lv_has ls 5 [(0, .ref (ad 0)), (1, .int (jI (x))), (2, .int (jI (v))), (3, .int (jI (d)))] := hl
  have hx2 := hpe x hx.1 hx.2
  refine lv_aload_n S.1 S.2.1 dX10_doesLive_0 rfl (lv_at hl 0 rfl) ?_
  refine z_get S hK hP 0 rfl rfl 6 (by decide) i_X10_doesLive_10 q_X10_doesLive_1 rfl dX10_doesLive_1 ?_
  refine lv_iload_n S.1 S.2.1 dX10_doesLive_4 rfl (lv_at hl 1 rfl) ?_
  refine z_iald S hK hP 5 rfl (by omega) dX10_doesLive_5 ?_
  refine lv_aload_n S.1 S.2.1 dX10_doesLive_6 rfl (lv_at hl 0 rfl) ?_
  refine z_get S hK hP 0 rfl rfl 2 (by decide) i_X10_doesLive_10 q_X10_doesLive_2 rfl dX10_doesLive_7 ?_
  refine lv_iload_n S.1 S.2.1 dX10_doesLive_10 rfl (lv_at hl 1 rfl) ?_
  refine z_iald S hK hP 1 rfl (by omega) dX10_doesLive_11 ?_
  refine z_if_ne (tgt := 19) S dX10_doesLive_12 (by decide) (by omega) (fun c_12 => ?_) (fun c_12 => ?_)
  · skip
    refine z_bipush S (by decide +kernel) dX10_doesLive_19 ?_
    refine z_iadd S dX10_doesLive_21 ?_
    refine lv_istore (lv' := [(4, .int (jI ((tl (x)) + 10))), (0, .ref (ad 0)), (1, .int (jI (x))), (2, .int (jI (v))), (3, .int (jI (d)))]) S.1 S.2.1 dX10_doesLive_22 hl (by decide) rfl (fun ls hl => ?_)
    refine lv_aload_n S.1 S.2.1 dX10_doesLive_24 rfl (lv_at hl 1 rfl) ?_
    refine z_get S hK hP 0 rfl rfl 2 (by decide) i_X10_doesLive_10 q_X10_doesLive_2 rfl dX10_doesLive_25 ?_
    refine lv_iload_n S.1 S.2.1 dX10_doesLive_28 rfl (lv_at hl 2 rfl) ?_
    refine z_iald S hK hP 1 rfl (by omega) dX10_doesLive_29 ?_
    refine z_iconst S dX10_doesLive_30 ?_
    refine z_icmp_eq (tgt := 44) S dX10_doesLive_31 (by decide) (by omega) (fun c_31 => ?_) (fun c_31 => ?_)
    · skip
      refine lv_iload_n S.1 S.2.1 dX10_doesLive_44 rfl (lv_at hl 4 rfl) ?_
      refine lv_aload_n S.1 S.2.1 dX10_doesLive_45 rfl (lv_at hl 1 rfl) ?_
      refine z_get S hK hP 0 rfl rfl 5 (by decide) i_X10_doesLive_10 q_X10_doesLive_4 rfl dX10_doesLive_46 ?_
      refine lv_iload_n S.1 S.2.1 dX10_doesLive_49 rfl (lv_at hl 2 rfl) ?_
      refine z_iald S hK hP 4 rfl (by omega) dX10_doesLive_50 ?_
      refine z_icmp_lt (tgt := 64) S dX10_doesLive_51 (by decide) (by omega) (fun c_51 => ?_) (fun c_51 => ?_)
      · skip
        refine z_iconst S dX10_doesLive_64 ?_
        exact hQ (0) (by omega) (by unfold zlive; omega) _ _ dX10_doesLive_65
      · skip
        refine lv_iload_n S.1 S.2.1 dX10_doesLive_54 rfl (lv_at hl 4 rfl) ?_
        refine lv_iload S.1 S.2.1 dX10_doesLive_55 (lv_at hl 0 rfl) ?_
        refine z_icmp_ge (tgt := 64) S dX10_doesLive_57 (by decide) (by omega) (fun c_57 => ?_) (fun c_57 => ?_)
        · skip
          refine z_iconst S dX10_doesLive_64 ?_
          exact hQ (0) (by omega) (by unfold zlive; omega) _ _ dX10_doesLive_65
        · skip
          refine z_iconst S dX10_doesLive_60 ?_
          refine z_goto (tgt := 65) S dX10_doesLive_61 (by decide) ?_
          exact hQ (1) (by omega) (by unfold zlive; omega) _ _ dX10_doesLive_65
    · skip
      refine lv_aload_n S.1 S.2.1 dX10_doesLive_34 rfl (lv_at hl 1 rfl) ?_
      refine z_get S hK hP 0 rfl rfl 3 (by decide) i_X10_doesLive_10 q_X10_doesLive_3 rfl dX10_doesLive_35 ?_
      refine lv_iload_n S.1 S.2.1 dX10_doesLive_38 rfl (lv_at hl 2 rfl) ?_
      refine z_iald S hK hP 2 rfl (by omega) dX10_doesLive_39 ?_
      refine lv_iload_n S.1 S.2.1 dX10_doesLive_40 rfl (lv_at hl 3 rfl) ?_
      refine z_icmp_ne (tgt := 64) S dX10_doesLive_41 (by decide) (by omega) (fun c_41 => ?_) (fun c_41 => ?_)
      · skip
        refine z_iconst S dX10_doesLive_64 ?_
        exact hQ (0) (by omega) (by unfold zlive; omega) _ _ dX10_doesLive_65
      · skip
        refine lv_iload_n S.1 S.2.1 dX10_doesLive_44 rfl (lv_at hl 4 rfl) ?_
        refine lv_aload_n S.1 S.2.1 dX10_doesLive_45 rfl (lv_at hl 1 rfl) ?_
        refine z_get S hK hP 0 rfl rfl 5 (by decide) i_X10_doesLive_10 q_X10_doesLive_4 rfl dX10_doesLive_46 ?_
        refine lv_iload_n S.1 S.2.1 dX10_doesLive_49 rfl (lv_at hl 2 rfl) ?_
        refine z_iald S hK hP 4 rfl (by omega) dX10_doesLive_50 ?_
        refine z_icmp_lt (tgt := 64) S dX10_doesLive_51 (by decide) (by omega) (fun c_51 => ?_) (fun c_51 => ?_)
        · skip
          refine z_iconst S dX10_doesLive_64 ?_
          exact hQ (0) (by omega) (by unfold zlive; omega) _ _ dX10_doesLive_65
        · skip
          refine lv_iload_n S.1 S.2.1 dX10_doesLive_54 rfl (lv_at hl 4 rfl) ?_
          refine lv_iload S.1 S.2.1 dX10_doesLive_55 (lv_at hl 0 rfl) ?_
          refine z_icmp_ge (tgt := 64) S dX10_doesLive_57 (by decide) (by omega) (fun c_57 => ?_) (fun c_57 => ?_)
          · skip
            refine z_iconst S dX10_doesLive_64 ?_
            exact hQ (0) (by omega) (by unfold zlive; omega) _ _ dX10_doesLive_65
          · skip
            refine z_iconst S dX10_doesLive_60 ?_
            refine z_goto (tgt := 65) S dX10_doesLive_61 (by decide) ?_
            exact hQ (1) (by omega) (by unfold zlive; omega) _ _ dX10_doesLive_65
  · skip
    refine z_iconst S dX10_doesLive_15 ?_
    refine z_goto (tgt := 21) S dX10_doesLive_16 (by decide) ?_
    refine z_iadd S dX10_doesLive_21 ?_
    refine lv_istore (lv' := [(4, .int (jI ((tl (x)) + 0))), (0, .ref (ad 0)), (1, .int (jI (x))), (2, .int (jI (v))), (3, .int (jI (d)))]) S.1 S.2.1 dX10_doesLive_22 hl (by decide) rfl (fun ls hl => ?_)
    refine lv_aload_n S.1 S.2.1 dX10_doesLive_24 rfl (lv_at hl 1 rfl) ?_
    refine z_get S hK hP 0 rfl rfl 2 (by decide) i_X10_doesLive_10 q_X10_doesLive_2 rfl dX10_doesLive_25 ?_
    refine lv_iload_n S.1 S.2.1 dX10_doesLive_28 rfl (lv_at hl 2 rfl) ?_
    refine z_iald S hK hP 1 rfl (by omega) dX10_doesLive_29 ?_
    refine z_iconst S dX10_doesLive_30 ?_
    refine z_icmp_eq (tgt := 44) S dX10_doesLive_31 (by decide) (by omega) (fun c_31 => ?_) (fun c_31 => ?_)
    · skip
      refine lv_iload_n S.1 S.2.1 dX10_doesLive_44 rfl (lv_at hl 4 rfl) ?_
      refine lv_aload_n S.1 S.2.1 dX10_doesLive_45 rfl (lv_at hl 1 rfl) ?_
      refine z_get S hK hP 0 rfl rfl 5 (by decide) i_X10_doesLive_10 q_X10_doesLive_4 rfl dX10_doesLive_46 ?_
      refine lv_iload_n S.1 S.2.1 dX10_doesLive_49 rfl (lv_at hl 2 rfl) ?_
      refine z_iald S hK hP 4 rfl (by omega) dX10_doesLive_50 ?_
      refine z_icmp_lt (tgt := 64) S dX10_doesLive_51 (by decide) (by omega) (fun c_51 => ?_) (fun c_51 => ?_)
      · skip
        refine z_iconst S dX10_doesLive_64 ?_
        exact hQ (0) (by omega) (by unfold zlive; omega) _ _ dX10_doesLive_65
      · skip
        refine lv_iload_n S.1 S.2.1 dX10_doesLive_54 rfl (lv_at hl 4 rfl) ?_
        refine lv_iload S.1 S.2.1 dX10_doesLive_55 (lv_at hl 0 rfl) ?_
        refine z_icmp_ge (tgt := 64) S dX10_doesLive_57 (by decide) (by omega) (fun c_57 => ?_) (fun c_57 => ?_)
        · skip
          refine z_iconst S dX10_doesLive_64 ?_
          exact hQ (0) (by omega) (by unfold zlive; omega) _ _ dX10_doesLive_65
        · skip
          refine z_iconst S dX10_doesLive_60 ?_
          refine z_goto (tgt := 65) S dX10_doesLive_61 (by decide) ?_
          exact hQ (1) (by omega) (by unfold zlive; omega) _ _ dX10_doesLive_65
    · skip
      refine lv_aload_n S.1 S.2.1 dX10_doesLive_34 rfl (lv_at hl 1 rfl) ?_
      refine z_get S hK hP 0 rfl rfl 3 (by decide) i_X10_doesLive_10 q_X10_doesLive_3 rfl dX10_doesLive_35 ?_
      refine lv_iload_n S.1 S.2.1 dX10_doesLive_38 rfl (lv_at hl 2 rfl) ?_
      refine z_iald S hK hP 2 rfl (by omega) dX10_doesLive_39 ?_
      refine lv_iload_n S.1 S.2.1 dX10_doesLive_40 rfl (lv_at hl 3 rfl) ?_
      refine z_icmp_ne (tgt := 64) S dX10_doesLive_41 (by decide) (by omega) (fun c_41 => ?_) (fun c_41 => ?_)
      · skip
        refine z_iconst S dX10_doesLive_64 ?_
        exact hQ (0) (by omega) (by unfold zlive; omega) _ _ dX10_doesLive_65
      · skip
        refine lv_iload_n S.1 S.2.1 dX10_doesLive_44 rfl (lv_at hl 4 rfl) ?_
        refine lv_aload_n S.1 S.2.1 dX10_doesLive_45 rfl (lv_at hl 1 rfl) ?_
        refine z_get S hK hP 0 rfl rfl 5 (by decide) i_X10_doesLive_10 q_X10_doesLive_4 rfl dX10_doesLive_46 ?_
        refine lv_iload_n S.1 S.2.1 dX10_doesLive_49 rfl (lv_at hl 2 rfl) ?_
        refine z_iald S hK hP 4 rfl (by omega) dX10_doesLive_50 ?_
        refine z_icmp_lt (tgt := 64) S dX10_doesLive_51 (by decide) (by omega) (fun c_51 => ?_) (fun c_51 => ?_)
        · skip
          refine z_iconst S dX10_doesLive_64 ?_
          exact hQ (0) (by omega) (by unfold zlive; omega) _ _ dX10_doesLive_65
        · skip
          refine lv_iload_n S.1 S.2.1 dX10_doesLive_54 rfl (lv_at hl 4 rfl) ?_
          refine lv_iload S.1 S.2.1 dX10_doesLive_55 (lv_at hl 0 rfl) ?_
          refine z_icmp_ge (tgt := 64) S dX10_doesLive_57 (by decide) (by omega) (fun c_57 => ?_) (fun c_57 => ?_)
          · skip
            refine z_iconst S dX10_doesLive_64 ?_
            exact hQ (0) (by omega) (by unfold zlive; omega) _ _ dX10_doesLive_65
          · skip
            refine z_iconst S dX10_doesLive_60 ?_
            refine z_goto (tgt := 65) S dX10_doesLive_61 (by decide) ?_
            exact hQ (1) (by omega) (by unfold zlive; omega) _ _ dX10_doesLive_65

set_option maxHeartbeats 1000000 in
set_option maxRecDepth 20000 in
theorem c_X10_lives (l : Launch) (E : zE) (ad : Nat → Nat) (flt ppl : Int) (kd vl nb fr tl : Int → Int) (rA rP : Int) (rk rv rn rf rt can fw fs ss sl sh hd : Int → Int) (tr : Int) (x : Int) (v : Int) (d : Int) (h_x : -2147483648 ≤ x ∧ x ≤ 2147483647) (h_v : -2147483648 ≤ v ∧ v ≤ 2147483647) (h_d : -2147483648 ≤ d ∧ d ≤ 2147483647) (hp : 0 ≤ ppl ∧ ppl ≤ 10) (hpe : zPeo ppl kd vl nb fr tl) : zRi l E yX10_lives wsX10_lives (zr 3 0 0) [.ref (ad 0), .int (jI (x)), .int (jI (v)), .int (jI (d))] (fun H => zP E (mW E ad flt ppl kd vl nb fr tl rA rP rk rv rn rf rt can fw fs ss sl sh hd tr) H) (fun r => zA_lives ppl kd vl fr tl x v d r) := by
  refine zRi_of (own := RX10) (cc := cX10_lives) (maxL := 4) (by decide) rfl (Nat.le_of_ble_eq_true rfl) rfl ?_
  intro p e s m args below meth c Q S hK hP hQ ls hl
  have hl : lv_has ls 4 [(0, .ref (ad 0)), (1, .int (jI (x))), (2, .int (jI (v))), (3, .int (jI (d)))] := hl
  refine lv_aload_n S.1 S.2.1 dX10_lives_0 rfl (lv_at hl 0 rfl) ?_
  refine lv_iload_n S.1 S.2.1 dX10_lives_1 rfl (lv_at hl 1 rfl) ?_
  refine z_ri (z_rV S hK (c_X10_noOne l E ad flt ppl kd vl nb fr tl rA rP rk rv rn rf rt can fw fs ss sl sh hd tr x (by omega) (by omega)) gX10_lives_X10_noOne rfl hv_X10_noOne ⟨Nat.le_of_ble_eq_true rfl, Nat.le_of_ble_eq_true rfl⟩ (va_recv hK hP (ci := 10) (q0 := 0) rfl rfl) hP hl.1 rfl (Nat.le_of_ble_eq_true rfl) ⟨by decide, by decide⟩ rfl dX10_lives_2) (fun r_2 h_2 => ?_)
  refine z_if_ne (tgt := 15) S dX10_lives_5 (by decide) (by omega) (fun c_5 => ?_) (fun c_5 => ?_)
  · skip
    refine z_iconst S dX10_lives_15 ?_
    exact hQ (-1) (by first | (unfold zA_lives; omega) | exact Or.inr ⟨by omega, Or.inr ⟨by omega, Or.inl ⟨zB_t h_28 (by omega), by omega⟩⟩⟩ | exact Or.inr ⟨by omega, Or.inr ⟨by omega, Or.inr ⟨zB_f h_28 (by omega), by omega⟩⟩⟩) _ _ dX10_lives_16
  · skip
    refine lv_iload_n S.1 S.2.1 dX10_lives_8 rfl (lv_at hl 2 rfl) ?_
    refine z_ri (z_rS S hK (c_X10_noVillage l E v (by omega)) gX10_lives_X10_noVillage rfl hs_X10_noVillage ⟨Nat.le_of_ble_eq_true rfl, Nat.le_of_ble_eq_true rfl⟩ trivial hl.1 rfl (Nat.le_of_ble_eq_true rfl) ⟨by decide, by decide⟩ rfl dX10_lives_9) (fun r_9 h_9 => ?_)
    refine z_if_eq (tgt := 17) S dX10_lives_12 (by decide) (by omega) (fun c_12 => ?_) (fun c_12 => ?_)
    · skip
      refine lv_iload_n S.1 S.2.1 dX10_lives_17 rfl (lv_at hl 3 rfl) ?_
      refine z_ri (z_rS S hK (c_X10_isDay l E d (by omega)) gX10_lives_X10_isDay rfl hs_X10_isDay ⟨Nat.le_of_ble_eq_true rfl, Nat.le_of_ble_eq_true rfl⟩ trivial hl.1 rfl (Nat.le_of_ble_eq_true rfl) ⟨by decide, by decide⟩ rfl dX10_lives_18) (fun r_18 h_18 => ?_)
      refine z_if_eq (tgt := 42) S dX10_lives_21 (by decide) (by omega) (fun c_21 => ?_) (fun c_21 => ?_)
      · skip
        refine z_bipush S (by decide +kernel) dX10_lives_42 ?_
        exact hQ (-2) (by first | (unfold zA_lives; omega) | exact Or.inr ⟨by omega, Or.inr ⟨by omega, Or.inl ⟨zB_t h_28 (by omega), by omega⟩⟩⟩ | exact Or.inr ⟨by omega, Or.inr ⟨by omega, Or.inr ⟨zB_f h_28 (by omega), by omega⟩⟩⟩) _ _ dX10_lives_44
      · skip
        refine lv_aload_n S.1 S.2.1 dX10_lives_24 rfl (lv_at hl 0 rfl) ?_
        refine lv_iload_n S.1 S.2.1 dX10_lives_25 rfl (lv_at hl 1 rfl) ?_
        refine lv_iload_n S.1 S.2.1 dX10_lives_26 rfl (lv_at hl 2 rfl) ?_
        refine lv_iload_n S.1 S.2.1 dX10_lives_27 rfl (lv_at hl 3 rfl) ?_
        refine z_ri (z_rV S hK (c_X10_doesLive l E ad flt ppl kd vl nb fr tl rA rP rk rv rn rf rt can fw fs ss sl sh hd tr x v d (by omega) (by omega) (by omega) (by omega) (hpe)) gX10_lives_X10_doesLive rfl hv_X10_doesLive ⟨Nat.le_of_ble_eq_true rfl, Nat.le_of_ble_eq_true rfl⟩ (va_recv hK hP (ci := 10) (q0 := 0) rfl rfl) hP hl.1 rfl (Nat.le_of_ble_eq_true rfl) ⟨by decide, by decide⟩ rfl dX10_lives_28) (fun r_28 h_28 => ?_)
        refine z_if_eq (tgt := 38) S dX10_lives_31 (by decide) (by omega) (fun c_31 => ?_) (fun c_31 => ?_)
        · skip
          refine z_iconst S dX10_lives_38 ?_
          refine z_goto (tgt := 44) S dX10_lives_39 (by decide) ?_
          exact hQ (0) (by first | (unfold zA_lives; omega) | exact Or.inr ⟨by omega, Or.inr ⟨by omega, Or.inl ⟨zB_t h_28 (by omega), by omega⟩⟩⟩ | exact Or.inr ⟨by omega, Or.inr ⟨by omega, Or.inr ⟨zB_f h_28 (by omega), by omega⟩⟩⟩) _ _ dX10_lives_44
        · skip
          refine z_iconst S dX10_lives_34 ?_
          refine z_goto (tgt := 44) S dX10_lives_35 (by decide) ?_
          exact hQ (1) (by first | (unfold zA_lives; omega) | exact Or.inr ⟨by omega, Or.inr ⟨by omega, Or.inl ⟨zB_t h_28 (by omega), by omega⟩⟩⟩ | exact Or.inr ⟨by omega, Or.inr ⟨by omega, Or.inr ⟨zB_f h_28 (by omega), by omega⟩⟩⟩) _ _ dX10_lives_44
    · skip
      refine z_iconst S dX10_lives_15 ?_
      exact hQ (-1) (by first | (unfold zA_lives; omega) | exact Or.inr ⟨by omega, Or.inr ⟨by omega, Or.inl ⟨zB_t h_28 (by omega), by omega⟩⟩⟩ | exact Or.inr ⟨by omega, Or.inr ⟨by omega, Or.inr ⟨zB_f h_28 (by omega), by omega⟩⟩⟩) _ _ dX10_lives_16

set_option maxHeartbeats 1000000 in
set_option maxRecDepth 20000 in
theorem c_X10_saidBy (l : Launch) (E : zE) (ad : Nat → Nat) (flt ppl : Int) (kd vl nb fr tl : Int → Int) (rA rP : Int) (rk rv rn rf rt can fw fs ss sl sh hd : Int → Int) (tr : Int) (num : Int) (v : Int) (d : Int) (h_num : -2147483648 ≤ num ∧ num ≤ 2147483647) (h_v : -2147483648 ≤ v ∧ v ≤ 2147483647) (h_d : -2147483648 ≤ d ∧ d ≤ 2147483647) (hp : 0 ≤ ppl ∧ ppl ≤ 10) (hpe : zPeo ppl kd vl nb fr tl) : zRi l E yX10_saidBy wsX10_saidBy (zr 2 0 0) [.ref (ad 0), .int (jI (num)), .int (jI (v)), .int (jI (d))] (fun H => zP E (mW E ad flt ppl kd vl nb fr tl rA rP rk rv rn rf rt can fw fs ss sl sh hd tr) H) (fun r => zBear nb (fun x => zlive kd vl fr tl x v d) ppl num r) := by
  refine zRi_of (own := RX10) (cc := cX10_saidBy) (maxL := 5) (by decide) rfl (Nat.le_of_ble_eq_true rfl) rfl ?_
  intro p e s m args below meth c Q S hK hP hQ ls hl
  have hl : lv_has ls 5 [(0, .ref (ad 0)), (1, .int (jI (num))), (2, .int (jI (v))), (3, .int (jI (d)))] := hl
  refine z_iconst S dX10_saidBy_0 ?_
  refine lv_istore (lv' := [(4, .int (jI (0))), (0, .ref (ad 0)), (1, .int (jI (num))), (2, .int (jI (v))), (3, .int (jI (d)))]) S.1 S.2.1 dX10_saidBy_1 hl (by decide) rfl (fun ls hl => ?_)
  suffices HL_1 : ∀ (n_2 : Nat) (i : Int), (ppl - i).toNat < n_2 → (0 ≤ i ∧ i ≤ ppl) → (∀ y, 0 ≤ y → y < i → ¬ (nb y = num ∧ zlive kd vl fr tl y v d)) → ∀ (ls : Array Slot), lv_has ls 5 [(4, .int (jI (i))), (0, .ref (ad 0)), (1, .int (jI (num))), (2, .int (jI (v))), (3, .int (jI (d)))] → W p l e (zr 2 0 0) s m args below meth c s.heap [] 0 0 Q (F0 m 3 ls []) from
    HL_1 _ 0 (Nat.lt_succ_self _) (by omega) (zall_0) ls (lv_sub hl [0, 1, 2, 3, 4] rfl)
  intro n_2
  induction n_2 with
  | zero => intro i hm hi hno; exact absurd hm (Nat.not_lt_zero _)
  | succ n_2 ih_3 =>
    intro i hm hi hno ls hl
    refine lv_iload S.1 S.2.1 dX10_saidBy_3 (lv_at hl 0 rfl) ?_
    refine lv_aload_n S.1 S.2.1 dX10_saidBy_5 rfl (lv_at hl 1 rfl) ?_
    refine z_get S hK hP 0 rfl rfl 1 (by decide) i_X10_saidBy_10 q_X10_saidBy_1 rfl dX10_saidBy_6 ?_
    refine z_icmp_ge (tgt := 43) S dX10_saidBy_9 (by decide) (by omega) (fun c_9 => ?_) (fun c_9 => ?_)
    · skip
      refine z_bipush S (by decide +kernel) dX10_saidBy_43 ?_
      exact hQ (-9) (by first | exact Or.inr ⟨by omega, ⟨by omega, zB_t h_28 (by omega)⟩, hno⟩ | exact Or.inl ⟨rfl, fun y q1 q2 => hno y q1 (by omega)⟩) _ _ dX10_saidBy_45
    · skip
      have hx2 := hpe i (by omega) (by omega)
      refine lv_aload_n S.1 S.2.1 dX10_saidBy_12 rfl (lv_at hl 1 rfl) ?_
      refine z_get S hK hP 0 rfl rfl 4 (by decide) i_X10_saidBy_10 q_X10_saidBy_2 rfl dX10_saidBy_13 ?_
      refine lv_iload S.1 S.2.1 dX10_saidBy_16 (lv_at hl 0 rfl) ?_
      refine z_iald S hK hP 3 rfl (by omega) dX10_saidBy_18 ?_
      refine lv_iload_n S.1 S.2.1 dX10_saidBy_19 rfl (lv_at hl 2 rfl) ?_
      refine z_icmp_ne (tgt := 37) S dX10_saidBy_20 (by decide) (by omega) (fun c_20 => ?_) (fun c_20 => ?_)
      · skip
        refine z_iinc (lv' := [(4, .int (jI (i + 1))), (0, .ref (ad 0)), (1, .int (jI (num))), (2, .int (jI (v))), (3, .int (jI (d)))]) S hl (k := 0) rfl (by decide) rfl dX10_saidBy_37 (fun ls hl => ?_)
        refine z_goto (tgt := 3) S dX10_saidBy_40 (by decide) ?_
        exact ih_3 (i + 1) (by omega) (by omega) (zall_step hno (fun q => by first | exact c_20 q.1 | exact zB_f h_28 (by omega) q.2)) ls (lv_sub hl [0, 1, 2, 3, 4] rfl)
      · skip
        refine lv_aload_n S.1 S.2.1 dX10_saidBy_23 rfl (lv_at hl 1 rfl) ?_
        refine lv_iload S.1 S.2.1 dX10_saidBy_24 (lv_at hl 0 rfl) ?_
        refine lv_iload_n S.1 S.2.1 dX10_saidBy_26 rfl (lv_at hl 3 rfl) ?_
        refine lv_iload_n S.1 S.2.1 dX10_saidBy_27 rfl (lv_at hl 4 rfl) ?_
        refine z_ri (z_rV S hK (c_X10_doesLive l E ad flt ppl kd vl nb fr tl rA rP rk rv rn rf rt can fw fs ss sl sh hd tr i v d (by omega) (by omega) (by omega) (by omega) (hpe)) gX10_saidBy_X10_doesLive rfl hv_X10_doesLive ⟨Nat.le_of_ble_eq_true rfl, Nat.le_of_ble_eq_true rfl⟩ (va_recv hK hP (ci := 10) (q0 := 0) rfl rfl) hP hl.1 rfl (Nat.le_of_ble_eq_true rfl) ⟨by decide, by decide⟩ rfl dX10_saidBy_28) (fun r_28 h_28 => ?_)
        refine z_if_eq (tgt := 37) S dX10_saidBy_31 (by decide) (by omega) (fun c_31 => ?_) (fun c_31 => ?_)
        · skip
          refine z_iinc (lv' := [(4, .int (jI (i + 1))), (0, .ref (ad 0)), (1, .int (jI (num))), (2, .int (jI (v))), (3, .int (jI (d)))]) S hl (k := 0) rfl (by decide) rfl dX10_saidBy_37 (fun ls hl => ?_)
          refine z_goto (tgt := 3) S dX10_saidBy_40 (by decide) ?_
          exact ih_3 (i + 1) (by omega) (by omega) (zall_step hno (fun q => by first | exact c_20 q.1 | exact zB_f h_28 (by omega) q.2)) ls (lv_sub hl [0, 1, 2, 3, 4] rfl)
        · skip
          refine lv_iload S.1 S.2.1 dX10_saidBy_34 (lv_at hl 0 rfl) ?_
          exact hQ (i) (by first | exact Or.inr ⟨by omega, ⟨by omega, zB_t h_28 (by omega)⟩, hno⟩ | exact Or.inl ⟨rfl, fun y q1 q2 => hno y q1 (by omega)⟩) _ _ dX10_saidBy_36

set_option maxHeartbeats 1000000 in
set_option maxRecDepth 20000 in
theorem c_X10_word (l : Launch) (E : zE) (ad : Nat → Nat) (flt ppl : Int) (kd vl nb fr tl : Int → Int) (rA rP : Int) (rk rv rn rf rt can fw fs ss sl sh hd : Int → Int) (tr : Int) (num : Int) (v : Int) (d : Int) (h_num : -2147483648 ≤ num ∧ num ≤ 2147483647) (h_v : -2147483648 ≤ v ∧ v ≤ 2147483647) (h_d : -2147483648 ≤ d ∧ d ≤ 2147483647) (hp : 0 ≤ ppl ∧ ppl ≤ 10) (hpe : zPeo ppl kd vl nb fr tl) : zRi l E yX10_word wsX10_word (zr 3 0 0) [.ref (ad 0), .int (jI (num)), .int (jI (v)), .int (jI (d))] (fun H => zP E (mW E ad flt ppl kd vl nb fr tl rA rP rk rv rn rf rt can fw fs ss sl sh hd tr) H) (fun r => zA_word ppl kd vl nb fr tl num v d r) := by
  refine zRi_of (own := RX10) (cc := cX10_word) (maxL := 4) (by decide) rfl (Nat.le_of_ble_eq_true rfl) rfl ?_
  intro p e s m args below meth c Q S hK hP hQ ls hl
  have hl : lv_has ls 4 [(0, .ref (ad 0)), (1, .int (jI (num))), (2, .int (jI (v))), (3, .int (jI (d)))] := hl
  refine lv_iload_n S.1 S.2.1 dX10_word_0 rfl (lv_at hl 2 rfl) ?_
  refine z_ri (z_rS S hK (c_X10_noVillage l E v (by omega)) gX10_word_X10_noVillage rfl hs_X10_noVillage ⟨Nat.le_of_ble_eq_true rfl, Nat.le_of_ble_eq_true rfl⟩ trivial hl.1 rfl (Nat.le_of_ble_eq_true rfl) ⟨by decide, by decide⟩ rfl dX10_word_1) (fun r_1 h_1 => ?_)
  refine z_if_eq (tgt := 9) S dX10_word_4 (by decide) (by omega) (fun c_4 => ?_) (fun c_4 => ?_)
  · skip
    refine lv_iload_n S.1 S.2.1 dX10_word_9 rfl (lv_at hl 1 rfl) ?_
    refine z_i2l S (by omega) dX10_word_10 ?_
    refine z_lconst (z := 1) S (by decide +kernel) dX10_word_11 ?_
    refine z_ldc2 (n := 99) S q_X10_word_1 (by decide +kernel) dX10_word_12 ?_
    refine z_ri (z_rS S hK (c_X10_in l E num 1 99 (by omega) (by omega) (by omega)) gX10_word_X10_in rfl hs_X10_in ⟨Nat.le_of_ble_eq_true rfl, Nat.le_of_ble_eq_true rfl⟩ trivial hl.1 rfl (Nat.le_of_ble_eq_true rfl) ⟨by decide, by decide⟩ rfl dX10_word_15) (fun r_15 h_15 => ?_)
    refine z_if_eq (tgt := 38) S dX10_word_18 (by decide) (by omega) (fun c_18 => ?_) (fun c_18 => ?_)
    · skip
      refine z_bipush S (by decide +kernel) dX10_word_38 ?_
      exact hQ (-2) (by first | (unfold zA_word; omega) | exact Or.inr ⟨by omega, Or.inr ⟨by omega, h_32⟩⟩) _ _ dX10_word_40
    · skip
      refine lv_iload_n S.1 S.2.1 dX10_word_21 rfl (lv_at hl 3 rfl) ?_
      refine z_ri (z_rS S hK (c_X10_isDay l E d (by omega)) gX10_word_X10_isDay rfl hs_X10_isDay ⟨Nat.le_of_ble_eq_true rfl, Nat.le_of_ble_eq_true rfl⟩ trivial hl.1 rfl (Nat.le_of_ble_eq_true rfl) ⟨by decide, by decide⟩ rfl dX10_word_22) (fun r_22 h_22 => ?_)
      refine z_if_eq (tgt := 38) S dX10_word_25 (by decide) (by omega) (fun c_25 => ?_) (fun c_25 => ?_)
      · skip
        refine z_bipush S (by decide +kernel) dX10_word_38 ?_
        exact hQ (-2) (by first | (unfold zA_word; omega) | exact Or.inr ⟨by omega, Or.inr ⟨by omega, h_32⟩⟩) _ _ dX10_word_40
      · skip
        refine lv_aload_n S.1 S.2.1 dX10_word_28 rfl (lv_at hl 0 rfl) ?_
        refine lv_iload_n S.1 S.2.1 dX10_word_29 rfl (lv_at hl 1 rfl) ?_
        refine lv_iload_n S.1 S.2.1 dX10_word_30 rfl (lv_at hl 2 rfl) ?_
        refine lv_iload_n S.1 S.2.1 dX10_word_31 rfl (lv_at hl 3 rfl) ?_
        refine z_ri (z_rV S hK (c_X10_saidBy l E ad flt ppl kd vl nb fr tl rA rP rk rv rn rf rt can fw fs ss sl sh hd tr num v d (by omega) (by omega) (by omega) (by omega) (hpe)) gX10_word_X10_saidBy rfl hv_X10_saidBy ⟨Nat.le_of_ble_eq_true rfl, Nat.le_of_ble_eq_true rfl⟩ (va_recv hK hP (ci := 10) (q0 := 0) rfl rfl) hP hl.1 rfl (Nat.le_of_ble_eq_true rfl) ⟨by decide, by decide⟩ rfl dX10_word_32) (fun r_32 h_32 => ?_)
        have h_32b := zBear_rng h_32
        refine z_goto (tgt := 40) S dX10_word_35 (by decide) ?_
        exact hQ (r_32) (by first | (unfold zA_word; omega) | exact Or.inr ⟨by omega, Or.inr ⟨by omega, h_32⟩⟩) _ _ dX10_word_40
  · skip
    refine z_iconst S dX10_word_7 ?_
    exact hQ (-1) (by first | (unfold zA_word; omega) | exact Or.inr ⟨by omega, Or.inr ⟨by omega, h_32⟩⟩) _ _ dX10_word_8

set_option maxHeartbeats 1000000 in
set_option maxRecDepth 20000 in
theorem c_X10_sayable (l : Launch) (E : zE) (ad : Nat → Nat) (flt ppl : Int) (kd vl nb fr tl : Int → Int) (rA rP : Int) (rk rv rn rf rt can fw fs ss sl sh hd : Int → Int) (tr : Int) (v : Int) (d : Int) (k : Int) (h_v : -2147483648 ≤ v ∧ v ≤ 2147483647) (h_d : -2147483648 ≤ d ∧ d ≤ 2147483647) (h_k : -2147483648 ≤ k ∧ k ≤ 2147483647) (hp : 0 ≤ ppl ∧ ppl ≤ 10) (hpe : zPeo ppl kd vl nb fr tl) : zRi l E yX10_sayable wsX10_sayable (zr 3 0 0) [.ref (ad 0), .int (jI (v)), .int (jI (d)), .int (jI (k))] (fun H => zP E (mW E ad flt ppl kd vl nb fr tl rA rP rk rv rn rf rt can fw fs ss sl sh hd tr) H) (fun r => zA_sayable ppl kd vl nb fr tl v d k r) := by
  refine zRi_of (own := RX10) (cc := cX10_sayable) (maxL := 6) (by decide) rfl (Nat.le_of_ble_eq_true rfl) rfl ?_
  intro p e s m args below meth c Q S hK hP hQ ls hl
  have hl : lv_has ls 6 [(0, .ref (ad 0)), (1, .int (jI (v))), (2, .int (jI (d))), (3, .int (jI (k)))] := hl
  refine lv_iload_n S.1 S.2.1 dX10_sayable_0 rfl (lv_at hl 1 rfl) ?_
  refine z_ri (z_rS S hK (c_X10_noVillage l E v (by omega)) gX10_sayable_X10_noVillage rfl hs_X10_noVillage ⟨Nat.le_of_ble_eq_true rfl, Nat.le_of_ble_eq_true rfl⟩ trivial hl.1 rfl (Nat.le_of_ble_eq_true rfl) ⟨by decide, by decide⟩ rfl dX10_sayable_1) (fun r_1 h_1 => ?_)
  refine z_if_ne (tgt := 12) S dX10_sayable_4 (by decide) (by omega) (fun c_4 => ?_) (fun c_4 => ?_)
  · skip
    refine z_iconst S dX10_sayable_12 ?_
    exact hQ (-1) (by first | (unfold zA_sayable; omega) | exact Or.inr ⟨by omega, Or.inr ⟨by omega, zSayable_hit (by omega) (zBear_yes h_42 (by omega)) hn c_51⟩⟩ | exact Or.inr ⟨by omega, Or.inr ⟨by omega, zSayable_end (by omega) hn hno (by omega)⟩⟩) _ _ dX10_sayable_13
  · skip
    refine lv_iload_n S.1 S.2.1 dX10_sayable_7 rfl (lv_at hl 3 rfl) ?_
    refine z_iconst S dX10_sayable_8 ?_
    refine z_icmp_ge (tgt := 14) S dX10_sayable_9 (by decide) (by omega) (fun c_9 => ?_) (fun c_9 => ?_)
    · skip
      refine lv_iload_n S.1 S.2.1 dX10_sayable_14 rfl (lv_at hl 2 rfl) ?_
      refine z_ri (z_rS S hK (c_X10_isDay l E d (by omega)) gX10_sayable_X10_isDay rfl hs_X10_isDay ⟨Nat.le_of_ble_eq_true rfl, Nat.le_of_ble_eq_true rfl⟩ trivial hl.1 rfl (Nat.le_of_ble_eq_true rfl) ⟨by decide, by decide⟩ rfl dX10_sayable_15) (fun r_15 h_15 => ?_)
      refine z_if_ne (tgt := 24) S dX10_sayable_18 (by decide) (by omega) (fun c_18 => ?_) (fun c_18 => ?_)
      · skip
        refine z_iconst S dX10_sayable_24 ?_
        refine lv_istore (lv' := [(4, .int (jI (0))), (0, .ref (ad 0)), (1, .int (jI (v))), (2, .int (jI (d))), (3, .int (jI (k)))]) S.1 S.2.1 dX10_sayable_25 hl (by decide) rfl (fun ls hl => ?_)
        refine z_iconst S dX10_sayable_27 ?_
        refine lv_istore (lv' := [(5, .int (jI (1))), (4, .int (jI (0))), (0, .ref (ad 0)), (1, .int (jI (v))), (2, .int (jI (d))), (3, .int (jI (k)))]) S.1 S.2.1 dX10_sayable_28 hl (by decide) rfl (fun ls hl => ?_)
        suffices HL_1 : ∀ (n_2 : Nat) (j : Int) (n : Int), (100 - j).toNat < n_2 → (1 ≤ j ∧ j ≤ 100) → (n = zcnt (zCan nb (fun x => zlive kd vl fr tl x v d) ppl) (j - 1).toNat) → (∀ y : Int, 1 ≤ y → y < j → (zCan nb (fun x => zlive kd vl fr tl x v d) ppl) y → zcnt (zCan nb (fun x => zlive kd vl fr tl x v d) ppl) (y - 1).toNat ≠ k) → ∀ (ls : Array Slot), lv_has ls 6 [(5, .int (jI (j))), (4, .int (jI (n))), (0, .ref (ad 0)), (1, .int (jI (v))), (2, .int (jI (d))), (3, .int (jI (k)))] → W p l e (zr 3 0 0) s m args below meth c s.heap [] 0 0 Q (F0 m 30 ls []) from
          HL_1 _ 1 0 (Nat.lt_succ_self _) (by omega) (rfl) (zall_0) ls (lv_sub hl [0, 1, 2, 3, 4, 5] rfl)
        intro n_2
        induction n_2 with
        | zero => intro j n hm hj hn hno; exact absurd hm (Nat.not_lt_zero _)
        | succ n_2 ih_3 =>
          intro j n hm hj hn hno ls hl
          refine lv_iload S.1 S.2.1 dX10_sayable_30 (lv_at hl 0 rfl) ?_
          refine z_bipush S (by decide +kernel) dX10_sayable_32 ?_
          refine z_icmp_ge (tgt := 66) S dX10_sayable_34 (by decide) (by omega) (fun c_34 => ?_) (fun c_34 => ?_)
          · skip
            refine lv_iload_n S.1 S.2.1 dX10_sayable_66 rfl (lv_at hl 5 rfl) ?_
            refine z_if_ge (tgt := 75) S dX10_sayable_67 (by decide) (by omega) (fun c_67 => ?_) (fun c_67 => ?_)
            · skip
              refine z_bipush S (by decide +kernel) dX10_sayable_75 ?_
              exact hQ (-9) (by first | (unfold zA_sayable; omega) | exact Or.inr ⟨by omega, Or.inr ⟨by omega, zSayable_hit (by omega) (zBear_yes h_42 (by omega)) hn c_51⟩⟩ | exact Or.inr ⟨by omega, Or.inr ⟨by omega, zSayable_end (by omega) hn hno (by omega)⟩⟩) _ _ dX10_sayable_77
            · skip
              refine lv_iload S.1 S.2.1 dX10_sayable_70 (lv_at hl 1 rfl) ?_
              refine z_goto (tgt := 77) S dX10_sayable_72 (by decide) ?_
              exact hQ (n) (by first | (unfold zA_sayable; omega) | exact Or.inr ⟨by omega, Or.inr ⟨by omega, zSayable_hit (by omega) (zBear_yes h_42 (by omega)) hn c_51⟩⟩ | exact Or.inr ⟨by omega, Or.inr ⟨by omega, zSayable_end (by omega) hn hno (by omega)⟩⟩) _ _ dX10_sayable_77
          · skip
            have hcr := zcnt_rng (zCan nb (fun x => zlive kd vl fr tl x v d) ppl) (j - 1).toNat
            refine lv_aload_n S.1 S.2.1 dX10_sayable_37 rfl (lv_at hl 2 rfl) ?_
            refine lv_iload S.1 S.2.1 dX10_sayable_38 (lv_at hl 0 rfl) ?_
            refine lv_iload_n S.1 S.2.1 dX10_sayable_40 rfl (lv_at hl 3 rfl) ?_
            refine lv_iload_n S.1 S.2.1 dX10_sayable_41 rfl (lv_at hl 4 rfl) ?_
            refine z_ri (z_rV S hK (c_X10_saidBy l E ad flt ppl kd vl nb fr tl rA rP rk rv rn rf rt can fw fs ss sl sh hd tr j v d (by omega) (by omega) (by omega) (by omega) (hpe)) gX10_sayable_X10_saidBy rfl hv_X10_saidBy ⟨Nat.le_of_ble_eq_true rfl, Nat.le_of_ble_eq_true rfl⟩ (va_recv hK hP (ci := 10) (q0 := 0) rfl rfl) hP hl.1 rfl (Nat.le_of_ble_eq_true rfl) ⟨by decide, by decide⟩ rfl dX10_sayable_42) (fun r_42 h_42 => ?_)
            have h_42b := zBear_rng h_42
            refine z_if_lt (tgt := 60) S dX10_sayable_45 (by decide) (by omega) (fun c_45 => ?_) (fun c_45 => ?_)
            · skip
              refine z_iinc (lv' := [(5, .int (jI (j + 1))), (4, .int (jI (n))), (0, .ref (ad 0)), (1, .int (jI (v))), (2, .int (jI (d))), (3, .int (jI (k)))]) S hl (k := 0) rfl (by decide) rfl dX10_sayable_60 (fun ls hl => ?_)
              refine z_goto (tgt := 30) S dX10_sayable_63 (by decide) ?_
              exact ih_3 (j + 1) n (by omega) (by omega) (by first | exact hn.trans (zcnt_nf (by omega) (zBear_no h_42 (by omega))).symm | rw [zcnt_nt (by omega) (zBear_yes h_42 (by omega)), ← hn]) (zall_step hno (fun q => by first | exact absurd q (zBear_no h_42 (by omega)) | (rw [← hn]; exact c_51))) ls (lv_sub hl [0, 1, 2, 3, 4, 5] rfl)
            · skip
              refine lv_iload S.1 S.2.1 dX10_sayable_48 (lv_at hl 1 rfl) ?_
              refine lv_iload_n S.1 S.2.1 dX10_sayable_50 rfl (lv_at hl 5 rfl) ?_
              refine z_icmp_ne (tgt := 57) S dX10_sayable_51 (by decide) (by omega) (fun c_51 => ?_) (fun c_51 => ?_)
              · skip
                refine z_iinc (lv' := [(4, .int (jI (n + 1))), (5, .int (jI (j))), (0, .ref (ad 0)), (1, .int (jI (v))), (2, .int (jI (d))), (3, .int (jI (k)))]) S hl (k := 1) rfl (by decide) rfl dX10_sayable_57 (fun ls hl => ?_)
                refine z_iinc (lv' := [(5, .int (jI (j + 1))), (4, .int (jI (n + 1))), (0, .ref (ad 0)), (1, .int (jI (v))), (2, .int (jI (d))), (3, .int (jI (k)))]) S hl (k := 1) rfl (by decide) rfl dX10_sayable_60 (fun ls hl => ?_)
                refine z_goto (tgt := 30) S dX10_sayable_63 (by decide) ?_
                exact ih_3 (j + 1) (n + 1) (by omega) (by omega) (by first | exact hn.trans (zcnt_nf (by omega) (zBear_no h_42 (by omega))).symm | rw [zcnt_nt (by omega) (zBear_yes h_42 (by omega)), ← hn]) (zall_step hno (fun q => by first | exact absurd q (zBear_no h_42 (by omega)) | (rw [← hn]; exact c_51))) ls (lv_sub hl [0, 1, 2, 3, 4, 5] rfl)
              · skip
                refine lv_iload S.1 S.2.1 dX10_sayable_54 (lv_at hl 0 rfl) ?_
                exact hQ (j) (by first | (unfold zA_sayable; omega) | exact Or.inr ⟨by omega, Or.inr ⟨by omega, zSayable_hit (by omega) (zBear_yes h_42 (by omega)) hn c_51⟩⟩ | exact Or.inr ⟨by omega, Or.inr ⟨by omega, zSayable_end (by omega) hn hno (by omega)⟩⟩) _ _ dX10_sayable_56
      · skip
        refine z_bipush S (by decide +kernel) dX10_sayable_21 ?_
        exact hQ (-2) (by first | (unfold zA_sayable; omega) | exact Or.inr ⟨by omega, Or.inr ⟨by omega, zSayable_hit (by omega) (zBear_yes h_42 (by omega)) hn c_51⟩⟩ | exact Or.inr ⟨by omega, Or.inr ⟨by omega, zSayable_end (by omega) hn hno (by omega)⟩⟩) _ _ dX10_sayable_23
    · skip
      refine z_iconst S dX10_sayable_12 ?_
      exact hQ (-1) (by first | (unfold zA_sayable; omega) | exact Or.inr ⟨by omega, Or.inr ⟨by omega, zSayable_hit (by omega) (zBear_yes h_42 (by omega)) hn c_51⟩⟩ | exact Or.inr ⟨by omega, Or.inr ⟨by omega, zSayable_end (by omega) hn hno (by omega)⟩⟩) _ _ dX10_sayable_13
