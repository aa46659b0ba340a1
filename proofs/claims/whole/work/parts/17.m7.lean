theorem q_X10_figureAt_2 : Cond.constantLong RX10 98 (9) ∈ wsX10_figureAt := List.mem_of_getElem? (i := 2) rfl
theorem i_X10_figureAt_10 : ∀ w ∈ u_ws RX10 TX10 22, w ∈ wsX10_figureAt := fun w h => List.mem_cons_of_mem _ (List.mem_append_right _ h)
theorem q_X10_figureAt_1 : Cond.fieldLink RX10 56 "LivingNumbersModel" "sheet" "[I" ∈ wsX10_figureAt := List.mem_of_getElem? (i := 1) rfl
theorem i_X10_two_10 : ∀ w ∈ u_ws RX10 TX10 22, w ∈ wsX10_two := fun w h => List.mem_cons_of_mem _ (List.mem_append_right _ h)
theorem q_X10_two_1 : Cond.fieldLink RX10 100 "LivingNumbersModel" "readAt" "I" ∈ wsX10_two := List.mem_of_getElem? (i := 1) rfl
theorem hv_X10_figureAt : yX10_figureAt.cls = RX10 ∧ yX10_figureAt.cls ≠ "java/lang/invoke/MethodHandle" ∧ yX10_figureAt.cls ≠ "java/lang/invoke/VarHandle" ∧ (parseMethodDescriptor yX10_figureAt.desc).map (fun d => d.parameters.length) = some 3 := by decide +kernel
theorem q_X10_two_2 : Cond.constantLong RX10 107 (10) ∈ wsX10_two := List.mem_of_getElem? (i := 2) rfl
theorem i_X10_readsOne_10 : ∀ w ∈ u_ws RX10 TX10 22, w ∈ wsX10_readsOne := fun w h => List.mem_cons_of_mem _ (List.mem_append_right _ h)
theorem q_X10_readsOne_5 : Cond.fieldLink RX10 28 "LivingNumbersModel" "readVillage" "[I" ∈ wsX10_readsOne := List.mem_of_getElem? (i := 5) rfl
theorem q_X10_readsOne_2 : Cond.fieldLink RX10 100 "LivingNumbersModel" "readAt" "I" ∈ wsX10_readsOne := List.mem_of_getElem? (i := 2) rfl
theorem q_X10_readsOne_6 : Cond.fieldLink RX10 31 "LivingNumbersModel" "readNumber" "[I" ∈ wsX10_readsOne := List.mem_of_getElem? (i := 6) rfl
theorem hv_X10_two : yX10_two.cls = RX10 ∧ yX10_two.cls ≠ "java/lang/invoke/MethodHandle" ∧ yX10_two.cls ≠ "java/lang/invoke/VarHandle" ∧ (parseMethodDescriptor yX10_two.desc).map (fun d => d.parameters.length) = some 4 := by decide +kernel
theorem q_X10_readsOne_7 : Cond.fieldLink RX10 34 "LivingNumbersModel" "readFrom" "[I" ∈ wsX10_readsOne := List.mem_of_getElem? (i := 7) rfl
theorem q_X10_readsOne_8 : Cond.fieldLink RX10 37 "LivingNumbersModel" "readTill" "[I" ∈ wsX10_readsOne := List.mem_of_getElem? (i := 8) rfl
theorem q_X10_readsOne_1 : Cond.fieldLink RX10 109 "LivingNumbersModel" "readPeople" "I" ∈ wsX10_readsOne := List.mem_of_getElem? (i := 1) rfl
theorem q_X10_readsOne_4 : Cond.fieldLink RX10 25 "LivingNumbersModel" "readKind" "[I" ∈ wsX10_readsOne := List.mem_of_getElem? (i := 4) rfl
theorem q_X10_readsOne_3 : Cond.fieldLink RX10 56 "LivingNumbersModel" "sheet" "[I" ∈ wsX10_readsOne := List.mem_of_getElem? (i := 3) rfl
set_option maxHeartbeats 1000000 in
set_option maxRecDepth 20000 in
theorem c_X10_figureAt (l : Launch) (E : zE) (ad : Nat → Nat) (flt ppl : Int) (kd vl nb fr tl : Int → Int) (rA rP : Int) (rk rv rn rf rt can fw fs ss sl sh hd : Int → Int) (tr : Int) (frm : Int) (n : Int) (at1 : Int) (hf : 0 ≤ frm ∧ 0 ≤ n ∧ n ≤ 100 ∧ frm + n ≤ 400) (hcr : zRg sh) (ha : 0 ≤ at1 ∧ at1 ≤ 1000) : zRi l E yX10_figureAt wsX10_figureAt (zr 2 0 0) [.ref (ad 0), .int (jI (frm)), .int (jI (n)), .int (jI (at1))] (fun H => zP E (mW E ad flt ppl kd vl nb fr tl rA rP rk rv rn rf rt can fw fs ss sl sh hd tr) H) (fun r => zFig (fun j => sh (frm + j)) n at1 r) := by
  refine zRi_of (own := RX10) (cc := cX10_figureAt) (maxL := 5) (by decide) rfl (Nat.le_of_ble_eq_true rfl) rfl ?_
  intro p e s m args below meth c Q S hK hP hQ ls hl
  have hl : lv_has ls 5 [(0, .ref (ad 0)), (1, .int (jI (frm))), (2, .int (jI (n))), (3, .int (jI (at1)))] := hl
  obtain ⟨t, ht⟩ : ∃ t : Int → Int, t = (fun j => sh (frm + j)) := ⟨_, rfl⟩
  have hta : ∀ j, t j = sh (frm + j) := fun j => by rw [ht]
  rw [← ht] at hQ
  refine lv_iload_n S.1 S.2.1 dX10_figureAt_0 rfl (lv_at hl 3 rfl) ?_
  refine lv_iload_n S.1 S.2.1 dX10_figureAt_1 rfl (lv_at hl 2 rfl) ?_
  refine z_icmp_ge (tgt := 19) S dX10_figureAt_2 (by decide) (by omega) (fun c_2 => ?_) (fun c_2 => ?_)
  · skip
    refine z_bipush S (by decide +kernel) dX10_figureAt_19 ?_
    refine lv_istore (lv' := [(4, .int (jI (-9))), (0, .ref (ad 0)), (1, .int (jI (frm))), (2, .int (jI (n))), (3, .int (jI (at1)))]) S.1 S.2.1 dX10_figureAt_21 hl (by decide) rfl (fun ls hl => ?_)
    refine lv_iload S.1 S.2.1 dX10_figureAt_23 (lv_at hl 0 rfl) ?_
    refine z_i2l S (by omega) dX10_figureAt_25 ?_
    refine z_lconst (z := 0) S (by decide +kernel) dX10_figureAt_26 ?_
    refine z_ldc2 (n := 9) S q_X10_figureAt_2 (by decide +kernel) dX10_figureAt_27 ?_
    refine z_ri (z_rS S hK (c_X10_in l E (-9) 0 9 (by omega) (by omega) (by omega)) gX10_figureAt_X10_in rfl hs_X10_in ⟨Nat.le_of_ble_eq_true rfl, Nat.le_of_ble_eq_true rfl⟩ trivial hl.1 rfl (Nat.le_of_ble_eq_true rfl) ⟨by decide, by decide⟩ rfl dX10_figureAt_30) (fun r_30 h_30 => ?_)
    refine z_if_eq (tgt := 41) S dX10_figureAt_33 (by decide) (by omega) (fun c_33 => ?_) (fun c_33 => ?_)
    · skip
      refine z_bipush S (by decide +kernel) dX10_figureAt_41 ?_
      exact hQ (-9) (by unfold zFig zDg; omega) _ _ dX10_figureAt_43
    · skip
      refine lv_iload S.1 S.2.1 dX10_figureAt_36 (lv_at hl 0 rfl) ?_
      refine z_goto (tgt := 43) S dX10_figureAt_38 (by decide) ?_
      exact hQ (-9) (by unfold zFig zDg; omega) _ _ dX10_figureAt_43
  · skip
    have hta1 := hta at1
    refine lv_aload_n S.1 S.2.1 dX10_figureAt_5 rfl (lv_at hl 0 rfl) ?_
    refine z_get S hK hP 0 rfl rfl 19 (by decide) i_X10_figureAt_10 q_X10_figureAt_1 rfl dX10_figureAt_6 ?_
    refine lv_iload_n S.1 S.2.1 dX10_figureAt_9 rfl (lv_at hl 1 rfl) ?_
    refine lv_iload_n S.1 S.2.1 dX10_figureAt_10 rfl (lv_at hl 3 rfl) ?_
    refine z_iadd S dX10_figureAt_11 ?_
    refine z_iald S hK hP 16 rfl (by omega) dX10_figureAt_12 ?_
    have hf_1 := hcr ((frm + at1))
    refine z_bipush S (by decide +kernel) dX10_figureAt_13 ?_
    refine z_isub S dX10_figureAt_15 ?_
    obtain ⟨wv, hw1, hw2, hw3⟩ := jI_wrap ((sh (frm + at1)) - 48) (by omega)
    rw [hw1]
    refine z_goto (tgt := 21) S dX10_figureAt_16 (by decide) ?_
    refine lv_istore (lv' := [(4, .int (jI (wv))), (0, .ref (ad 0)), (1, .int (jI (frm))), (2, .int (jI (n))), (3, .int (jI (at1)))]) S.1 S.2.1 dX10_figureAt_21 hl (by decide) rfl (fun ls hl => ?_)
    refine lv_iload S.1 S.2.1 dX10_figureAt_23 (lv_at hl 0 rfl) ?_
    refine z_i2l S (by omega) dX10_figureAt_25 ?_
    refine z_lconst (z := 0) S (by decide +kernel) dX10_figureAt_26 ?_
    refine z_ldc2 (n := 9) S q_X10_figureAt_2 (by decide +kernel) dX10_figureAt_27 ?_
    refine z_ri (z_rS S hK (c_X10_in l E wv 0 9 (by omega) (by omega) (by omega)) gX10_figureAt_X10_in rfl hs_X10_in ⟨Nat.le_of_ble_eq_true rfl, Nat.le_of_ble_eq_true rfl⟩ trivial hl.1 rfl (Nat.le_of_ble_eq_true rfl) ⟨by decide, by decide⟩ rfl dX10_figureAt_30) (fun r_30 h_30 => ?_)
    refine z_if_eq (tgt := 41) S dX10_figureAt_33 (by decide) (by omega) (fun c_33 => ?_) (fun c_33 => ?_)
    · skip
      refine z_bipush S (by decide +kernel) dX10_figureAt_41 ?_
      exact hQ (-9) (by unfold zFig zDg; omega) _ _ dX10_figureAt_43
    · skip
      refine lv_iload S.1 S.2.1 dX10_figureAt_36 (lv_at hl 0 rfl) ?_
      refine z_goto (tgt := 43) S dX10_figureAt_38 (by decide) ?_
      exact hQ (wv) (by unfold zFig zDg; omega) _ _ dX10_figureAt_43

set_option maxHeartbeats 1000000 in
set_option maxRecDepth 20000 in
theorem c_X10_two (l : Launch) (E : zE) (ad : Nat → Nat) (flt ppl : Int) (kd vl nb fr tl : Int → Int) (rA rP : Int) (rk rv rn rf rt can fw fs ss sl sh hd : Int → Int) (tr : Int) (frm : Int) (n : Int) (lo : Int) (mo : Int) (hf : 0 ≤ frm ∧ 0 ≤ n ∧ n ≤ 100 ∧ frm + n ≤ 400) (hcr : zRg sh) (ha : 0 ≤ rA ∧ rA ≤ 900) (hlm : 0 ≤ lo ∧ lo ≤ 200 ∧ 0 ≤ mo ∧ mo ≤ 200) : zMi l E yX10_two wsX10_two (zr 3 0 0) [.ref (ad 0), .int (jI (frm)), .int (jI (n)), .int (jI (lo)), .int (jI (mo))] (mW E ad flt ppl kd vl nb fr tl rA rP rk rv rn rf rt can fw fs ss sl sh hd tr) (fun _ => True) (fun r (u : Int) => zTwo (fun j => sh (frm + j)) n rA lo mo r u) (fun (u : Int) => mW E ad flt ppl kd vl nb fr tl u rP rk rv rn rf rt can fw fs ss sl sh hd tr) 0 0 := by
  refine zMi_of (own := RX10) (cc := cX10_two) (maxL := 8) (by decide) rfl (Nat.le_of_ble_eq_true rfl) rfl ?_
  intro p e s m args below meth c Q A S hK hA hS hP hD hAe hG hQ ls hl
  have hl : lv_has ls 8 [(0, .ref (ad 0)), (1, .int (jI (frm))), (2, .int (jI (n))), (3, .int (jI (lo))), (4, .int (jI (mo)))] := hl
  refine lv_aload_n S.1 S.2.1 dX10_two_0 rfl (lv_at hl 0 rfl) ?_
  refine lv_iload_n S.1 S.2.1 dX10_two_1 rfl (lv_at hl 1 rfl) ?_
  refine lv_iload_n S.1 S.2.1 dX10_two_2 rfl (lv_at hl 2 rfl) ?_
  refine lv_aload_n S.1 S.2.1 dX10_two_3 rfl (lv_at hl 0 rfl) ?_
  refine z_get S hK hP 0 rfl rfl 7 (by decide) i_X10_two_10 q_X10_two_1 rfl dX10_two_4 ?_
  refine z_ri (z_rV S hK (c_X10_figureAt l E ad flt ppl kd vl nb fr tl rA rP rk rv rn rf rt can fw fs ss sl sh hd tr frm n rA (by omega) (hcr) (by omega)) gX10_two_X10_figureAt rfl hv_X10_figureAt ⟨Nat.le_of_ble_eq_true rfl, Nat.le_of_ble_eq_true rfl⟩ (va_recv hK hP (ci := 10) (q0 := 0) rfl rfl) hP hl.1 rfl (Nat.le_of_ble_eq_true rfl) ⟨by decide, by decide⟩ rfl dX10_two_7) (fun r_7 h_7 => ?_)
  have h_7b := zFig_rng h_7
  refine lv_istore (lv' := [(5, .int (jI (r_7))), (0, .ref (ad 0)), (1, .int (jI (frm))), (2, .int (jI (n))), (3, .int (jI (lo))), (4, .int (jI (mo)))]) S.1 S.2.1 dX10_two_10 hl (by decide) rfl (fun ls hl => ?_)
  refine lv_iload S.1 S.2.1 dX10_two_12 (lv_at hl 0 rfl) ?_
  refine z_if_lt (tgt := 39) S dX10_two_14 (by decide) (by omega) (fun c_14 => ?_) (fun c_14 => ?_)
  · skip
    refine z_bipush S (by decide +kernel) dX10_two_39 ?_
    exact hQ (-9) (rA) _ _ (by first | exact zTwo_a h_7 (by omega) | exact zTwo_b h_7 (by omega) (by omega)) hP hD hS _ _ dX10_two_41
  · skip
    have hd1 := zFig_pos h_7 (by omega)
    refine z_bipush S (by decide +kernel) dX10_two_17 ?_
    refine lv_iload S.1 S.2.1 dX10_two_19 (lv_at hl 0 rfl) ?_
    refine z_imul S dX10_two_21 ?_
    refine lv_iload S.1 S.2.1 dX10_two_22 (lv_at hl 5 rfl) ?_
    refine z_icmp_gt (tgt := 39) S dX10_two_24 (by decide) (by omega) (fun c_24 => ?_) (fun c_24 => ?_)
    · skip
      refine z_bipush S (by decide +kernel) dX10_two_39 ?_
      exact hQ (-9) (rA) _ _ (by first | exact zTwo_a h_7 (by omega) | exact zTwo_b h_7 (by omega) (by omega)) hP hD hS _ _ dX10_two_41
    · skip
      refine z_bipush S (by decide +kernel) dX10_two_27 ?_
      refine lv_iload S.1 S.2.1 dX10_two_29 (lv_at hl 0 rfl) ?_
      refine z_imul S dX10_two_31 ?_
      refine z_bipush S (by decide +kernel) dX10_two_32 ?_
      refine z_iadd S dX10_two_34 ?_
      refine lv_iload_n S.1 S.2.1 dX10_two_35 rfl (lv_at hl 4 rfl) ?_
      refine z_icmp_ge (tgt := 42) S dX10_two_36 (by decide) (by omega) (fun c_36 => ?_) (fun c_36 => ?_)
      · skip
        refine lv_aload_n S.1 S.2.1 dX10_two_42 rfl (lv_at hl 1 rfl) ?_
        refine lv_iload_n S.1 S.2.1 dX10_two_43 rfl (lv_at hl 2 rfl) ?_
        refine lv_iload_n S.1 S.2.1 dX10_two_44 rfl (lv_at hl 3 rfl) ?_
        refine lv_aload_n S.1 S.2.1 dX10_two_45 rfl (lv_at hl 1 rfl) ?_
        refine z_get S hK hP 0 rfl rfl 7 (by decide) i_X10_two_10 q_X10_two_1 rfl dX10_two_46 ?_
        refine z_iconst S dX10_two_49 ?_
        refine z_iadd S dX10_two_50 ?_
        refine z_ri (z_rV S hK (c_X10_figureAt l E ad flt ppl kd vl nb fr tl rA rP rk rv rn rf rt can fw fs ss sl sh hd tr frm n (rA + 1) (by omega) (hcr) (by omega)) gX10_two_X10_figureAt rfl hv_X10_figureAt ⟨Nat.le_of_ble_eq_true rfl, Nat.le_of_ble_eq_true rfl⟩ (va_recv hK hP (ci := 10) (q0 := 0) rfl rfl) hP hl.1 rfl (Nat.le_of_ble_eq_true rfl) ⟨by decide, by decide⟩ rfl dX10_two_51) (fun r_51 h_51 => ?_)
        have h_51b := zFig_rng h_51
        refine lv_istore (lv' := [(6, .int (jI (r_51))), (5, .int (jI (r_7))), (0, .ref (ad 0)), (1, .int (jI (frm))), (2, .int (jI (n))), (3, .int (jI (lo))), (4, .int (jI (mo)))]) S.1 S.2.1 dX10_two_54 hl (by decide) rfl (fun ls hl => ?_)
        refine lv_iload S.1 S.2.1 dX10_two_56 (lv_at hl 0 rfl) ?_
        refine z_if_ge (tgt := 74) S dX10_two_58 (by decide) (by omega) (fun c_58 => ?_) (fun c_58 => ?_)
        · skip
          have hd2 := zFig_pos h_51 (by omega)
          refine z_ldc2 (n := 10) S q_X10_two_2 (by decide +kernel) dX10_two_74 ?_
          refine lv_iload S.1 S.2.1 dX10_two_77 (lv_at hl 1 rfl) ?_
          refine z_i2l S (by omega) dX10_two_79 ?_
          refine z_lmul S dX10_two_80 ?_
          refine lv_iload S.1 S.2.1 dX10_two_81 (lv_at hl 0 rfl) ?_
          refine z_i2l S (by omega) dX10_two_83 ?_
          refine z_ladd S dX10_two_84 ?_
          refine lv_iload_n S.1 S.2.1 dX10_two_85 rfl (lv_at hl 5 rfl) ?_
          refine z_i2l S (by omega) dX10_two_86 ?_
          refine lv_iload S.1 S.2.1 dX10_two_87 (lv_at hl 6 rfl) ?_
          refine z_i2l S (by omega) dX10_two_89 ?_
          refine z_ri (z_rS S hK (c_X10_in l E ((10 * r_7) + r_51) lo mo (by omega) (by omega) (by omega)) gX10_two_X10_in rfl hs_X10_in ⟨Nat.le_of_ble_eq_true rfl, Nat.le_of_ble_eq_true rfl⟩ trivial hl.1 rfl (Nat.le_of_ble_eq_true rfl) ⟨by decide, by decide⟩ rfl dX10_two_90) (fun r_90 h_90 => ?_)
          refine lv_istore (lv' := [(7, .int (jI (r_90))), (6, .int (jI (r_51))), (5, .int (jI (r_7))), (0, .ref (ad 0)), (1, .int (jI (frm))), (2, .int (jI (n))), (3, .int (jI (lo))), (4, .int (jI (mo)))]) S.1 S.2.1 dX10_two_93 hl (by decide) rfl (fun ls hl => ?_)
          refine lv_aload_n S.1 S.2.1 dX10_two_95 rfl (lv_at hl 3 rfl) ?_
          refine lv_dup S.1 S.2.1 dX10_two_96 rfl ?_
          refine z_get S hK hP 0 rfl rfl 7 (by decide) i_X10_two_10 q_X10_two_1 rfl dX10_two_97 ?_
          refine lv_iload S.1 S.2.1 dX10_two_100 (lv_at hl 0 rfl) ?_
          refine z_if_eq (tgt := 109) S dX10_two_102 (by decide) (by omega) (fun c_102 => ?_) (fun c_102 => ?_)
          · skip
            refine z_iconst S dX10_two_109 ?_
            refine z_iadd S dX10_two_110 ?_
            refine z_puti S hK hP hD hS 0 rfl rfl 7 (by decide) i_X10_two_10 q_X10_two_1 tyX10 tyX10_ok nmX10 rfl (by decide +kernel) (Nat.le_of_ble_eq_true rfl) dX10_two_111 (fun H locs hP hD hS => ?_)
            have hP : zP E (mW E ad flt ppl kd vl nb fr tl (rA + 0) rP rk rv rn rf rt can fw fs ss sl sh hd tr) H := hP
            have hD : va_D A (mW E ad flt ppl kd vl nb fr tl (rA + 0) rP rk rv rn rf rt can fw fs ss sl sh hd tr) := hD
            refine lv_iload S.1 S.2.1 dX10_two_114 (lv_at hl 0 rfl) ?_
            refine z_if_eq (tgt := 130) S dX10_two_116 (by decide) (by omega) (fun c_116 => ?_) (fun c_116 => ?_)
            · skip
              refine z_bipush S (by decide +kernel) dX10_two_130 ?_
              exact hQ (-9) (rA + 0) _ _ (by first | exact zTwo_d h_7 h_51 (by omega) (by omega) (by omega) | exact zTwo_e h_7 h_51 (by omega) (by omega) (by omega) | omega) hP hD hS _ _ dX10_two_132
            · skip
              refine z_bipush S (by decide +kernel) dX10_two_119 ?_
              refine lv_iload S.1 S.2.1 dX10_two_121 (lv_at hl 2 rfl) ?_
              refine z_imul S dX10_two_123 ?_
              refine lv_iload S.1 S.2.1 dX10_two_124 (lv_at hl 1 rfl) ?_
              refine z_iadd S dX10_two_126 ?_
              refine z_goto (tgt := 132) S dX10_two_127 (by decide) ?_
              exact hQ ((10 * r_7) + r_51) (rA + 0) _ _ (by first | exact zTwo_d h_7 h_51 (by omega) (by omega) (by omega) | exact zTwo_e h_7 h_51 (by omega) (by omega) (by omega) | omega) hP hD hS _ _ dX10_two_132
          · skip
            refine z_iconst S dX10_two_105 ?_
            refine z_goto (tgt := 110) S dX10_two_106 (by decide) ?_
            refine z_iadd S dX10_two_110 ?_
            refine z_puti S hK hP hD hS 0 rfl rfl 7 (by decide) i_X10_two_10 q_X10_two_1 tyX10 tyX10_ok nmX10 rfl (by decide +kernel) (Nat.le_of_ble_eq_true rfl) dX10_two_111 (fun H locs hP hD hS => ?_)
            have hP : zP E (mW E ad flt ppl kd vl nb fr tl (rA + 2) rP rk rv rn rf rt can fw fs ss sl sh hd tr) H := hP
            have hD : va_D A (mW E ad flt ppl kd vl nb fr tl (rA + 2) rP rk rv rn rf rt can fw fs ss sl sh hd tr) := hD
            refine lv_iload S.1 S.2.1 dX10_two_114 (lv_at hl 0 rfl) ?_
            refine z_if_eq (tgt := 130) S dX10_two_116 (by decide) (by omega) (fun c_116 => ?_) (fun c_116 => ?_)
            · skip
              refine z_bipush S (by decide +kernel) dX10_two_130 ?_
              exact hQ (-9) (rA + 2) _ _ (by first | exact zTwo_d h_7 h_51 (by omega) (by omega) (by omega) | exact zTwo_e h_7 h_51 (by omega) (by omega) (by omega) | omega) hP hD hS _ _ dX10_two_132
            · skip
              refine z_bipush S (by decide +kernel) dX10_two_119 ?_
              refine lv_iload S.1 S.2.1 dX10_two_121 (lv_at hl 2 rfl) ?_
              refine z_imul S dX10_two_123 ?_
              refine lv_iload S.1 S.2.1 dX10_two_124 (lv_at hl 1 rfl) ?_
              refine z_iadd S dX10_two_126 ?_
              refine z_goto (tgt := 132) S dX10_two_127 (by decide) ?_
              exact hQ ((10 * r_7) + r_51) (rA + 2) _ _ (by first | exact zTwo_d h_7 h_51 (by omega) (by omega) (by omega) | exact zTwo_e h_7 h_51 (by omega) (by omega) (by omega) | omega) hP hD hS _ _ dX10_two_132
        · skip
          refine lv_aload_n S.1 S.2.1 dX10_two_61 rfl (lv_at hl 2 rfl) ?_
          refine lv_dup S.1 S.2.1 dX10_two_62 rfl ?_
          refine z_get S hK hP 0 rfl rfl 7 (by decide) i_X10_two_10 q_X10_two_1 rfl dX10_two_63 ?_
          refine z_iconst S dX10_two_66 ?_
          refine z_iadd S dX10_two_67 ?_
          refine z_puti S hK hP hD hS 0 rfl rfl 7 (by decide) i_X10_two_10 q_X10_two_1 tyX10 tyX10_ok nmX10 rfl (by decide +kernel) (Nat.le_of_ble_eq_true rfl) dX10_two_68 (fun H locs hP hD hS => ?_)
          have hP : zP E (mW E ad flt ppl kd vl nb fr tl (rA + 1) rP rk rv rn rf rt can fw fs ss sl sh hd tr) H := hP
          have hD : va_D A (mW E ad flt ppl kd vl nb fr tl (rA + 1) rP rk rv rn rf rt can fw fs ss sl sh hd tr) := hD
          refine z_bipush S (by decide +kernel) dX10_two_71 ?_
          exact hQ (-9) (rA + 1) _ _ (zTwo_c h_7 h_51 (by omega) (by omega)) hP hD hS _ _ dX10_two_73
      · skip
        refine z_bipush S (by decide +kernel) dX10_two_39 ?_
        exact hQ (-9) (rA) _ _ (by first | exact zTwo_a h_7 (by omega) | exact zTwo_b h_7 (by omega) (by omega)) hP hD hS _ _ dX10_two_41

set_option maxHeartbeats 1000000 in
set_option maxRecDepth 20000 in
theorem c_X10_readsOne (l : Launch) (E : zE) (ad : Nat → Nat) (flt ppl : Int) (kd vl nb fr tl : Int → Int) (rA rP : Int) (rk rv rn rf rt can fw fs ss sl sh hd : Int → Int) (tr : Int) (frm : Int) (n : Int) (hf : 0 ≤ frm ∧ 0 ≤ n ∧ n ≤ 100 ∧ frm + n ≤ 400) (hcr : zRg sh) (hst : (rP = 0 ∧ rA = 0) ∨ (1 ≤ rP ∧ rP ≤ 10 ∧ rA = 9 * rP - 1 ∧ rA < n)) (hgo : zAllGo (fun j => sh (frm + j)) rA) : zMi l E yX10_readsOne wsX10_readsOne (zr 4 0 0) [.ref (ad 0), .int (jI (frm)), .int (jI (n))] (mW E ad flt ppl kd vl nb fr tl rA rP rk rv rn rf rt can fw fs ss sl sh hd tr) (fun _ => True) (fun r (u : Int × (Int × ((Int → Int) × ((Int → Int) × ((Int → Int) × ((Int → Int) × (Int → Int))))))) => zOne (fun j => sh (frm + j)) n rP rk rv rn rf rt r u.1 u.2.1 u.2.2.1 u.2.2.2.1 u.2.2.2.2.1 u.2.2.2.2.2.1 u.2.2.2.2.2.2) (fun (u : Int × (Int × ((Int → Int) × ((Int → Int) × ((Int → Int) × ((Int → Int) × (Int → Int))))))) => mW E ad flt ppl kd vl nb fr tl u.1 u.2.1 u.2.2.1 u.2.2.2.1 u.2.2.2.2.1 u.2.2.2.2.2.1 u.2.2.2.2.2.2 can fw fs ss sl sh hd tr) 0 0 := by
  refine zMz_of (own := RX10) (cc := cX10_readsOne) (maxL := 5) (by decide) rfl (Nat.le_of_ble_eq_true rfl) rfl ?_
  intro p e s m args below meth c Q A S hK hA hS hP hD hAe hG hQ ls hl
  have hl : lv_has ls 5 [(0, .ref (ad 0)), (1, .int (jI (frm))), (2, .int (jI (n)))] := hl
  obtain ⟨t, ht⟩ : ∃ t : Int → Int, t = (fun j => sh (frm + j)) := ⟨_, rfl⟩
  have hta : ∀ j, t j = sh (frm + j) := fun j => by rw [ht]
  rw [← ht] at hQ
  rw [← ht] at hgo
  have HC_141 : ∀ (b : Int) (g : Int → Int), (b = 9 * rP + 1) → (0 ≤ rP ∧ rP ≤ 9 ∧ b ≤ n) → (zAllGo t b) → (g = zu rk rP (zKd t rP)) → ∀ (H : Heap) (locs : List Loc), zP E (mW E ad flt ppl kd vl nb fr tl b rP g rv rn rf rt can fw fs ss sl sh hd tr) H → va_D A (mW E ad flt ppl kd vl nb fr tl b rP g rv rn rf rt can fw fs ss sl sh hd tr) → va_S A s.heap H locs → ∀ (ls : Array Slot), lv_has ls 5 [(4, .int (jI (rP))), (0, .ref (ad 0)), (1, .int (jI (frm))), (2, .int (jI (n)))] → W p l e (zr 4 0 0) s m args below meth c H locs 0 0 Q (F0 m 141 ls []) := by
    intro b g hb hb2 hgb hg H locs hP hD hS ls hl
    refine lv_aload_n S.1 S.2.1 dX10_readsOne_141 rfl (lv_at hl 1 rfl) ?_
    refine z_get S hK hP 0 rfl rfl 10 (by decide) i_X10_readsOne_10 q_X10_readsOne_5 rfl dX10_readsOne_142 ?_
    refine lv_iload S.1 S.2.1 dX10_readsOne_145 (lv_at hl 0 rfl) ?_
    refine lv_aload_n S.1 S.2.1 dX10_readsOne_147 rfl (lv_at hl 1 rfl) ?_
    refine lv_iload_n S.1 S.2.1 dX10_readsOne_148 rfl (lv_at hl 2 rfl) ?_
    refine lv_iload_n S.1 S.2.1 dX10_readsOne_149 rfl (lv_at hl 3 rfl) ?_
    refine lv_aload_n S.1 S.2.1 dX10_readsOne_150 rfl (lv_at hl 1 rfl) ?_
    refine z_get S hK hP 0 rfl rfl 7 (by decide) i_X10_readsOne_10 q_X10_readsOne_2 rfl dX10_readsOne_151 ?_
    refine z_ri (z_rV S hK (c_X10_figureAt l E ad flt ppl kd vl nb fr tl b rP g rv rn rf rt can fw fs ss sl sh hd tr frm n b (by omega) (hcr) (by omega)) gX10_readsOne_X10_figureAt rfl hv_X10_figureAt ⟨Nat.le_of_ble_eq_true rfl, Nat.le_of_ble_eq_true rfl⟩ (va_recv hK hP (ci := 10) (q0 := 0) rfl rfl) hP hl.1 rfl (Nat.le_of_ble_eq_true rfl) ⟨by decide, by decide⟩ rfl dX10_readsOne_154) (fun r_154 h_154 => ?_)
    have h_154b := zFig_rng h_154
    have hf1 : zFig t n b r_154 := by rw [ht]; exact h_154
    refine z_iast S hK hP hD hS 7 rfl (by omega) dX10_readsOne_157 (fun H locs hP hD hS => ?_)
    have hP : zP E (mW E ad flt ppl kd vl nb fr tl b rP g (zu rv rP r_154) rn rf rt can fw fs ss sl sh hd tr) H := hP
    have hD : va_D A (mW E ad flt ppl kd vl nb fr tl b rP g (zu rv rP r_154) rn rf rt can fw fs ss sl sh hd tr) := hD
    refine lv_aload_n S.1 S.2.1 dX10_readsOne_158 rfl (lv_at hl 1 rfl) ?_
    refine z_get S hK hP 0 rfl rfl 10 (by decide) i_X10_readsOne_10 q_X10_readsOne_5 rfl dX10_readsOne_159 ?_
    refine lv_iload S.1 S.2.1 dX10_readsOne_162 (lv_at hl 0 rfl) ?_
    refine z_iald S hK hP 7 rfl (by omega) dX10_readsOne_164 ?_
    have hz1 : zu rv rP r_154 rP = r_154 := zu_s
    refine z_i2l S (by omega) dX10_readsOne_165 ?_
    refine z_lconst (z := 0) S (by decide +kernel) dX10_readsOne_166 ?_
    refine z_lconst (z := 1) S (by decide +kernel) dX10_readsOne_167 ?_
    refine z_ri (z_rS S hK (c_X10_in l E ((zu rv rP r_154) (rP)) 0 1 (by omega) (by omega) (by omega)) gX10_readsOne_X10_in rfl hs_X10_in ⟨Nat.le_of_ble_eq_true rfl, Nat.le_of_ble_eq_true rfl⟩ trivial hl.1 rfl (Nat.le_of_ble_eq_true rfl) ⟨by decide, by decide⟩ rfl dX10_readsOne_168) (fun r_168 h_168 => ?_)
    refine z_if_ne (tgt := 176) S dX10_readsOne_171 (by decide) (by omega) (fun c_171 => ?_) (fun c_171 => ?_)
    · skip
      obtain ⟨hv1, hv2, hv3⟩ := zGo_1 (x := rP) hb hf1 (by omega)
      have hgb2 := zAllGo_next hgb hv1
      refine lv_aload_n S.1 S.2.1 dX10_readsOne_176 rfl (lv_at hl 1 rfl) ?_
      refine lv_dup S.1 S.2.1 dX10_readsOne_177 rfl ?_
      refine z_get S hK hP 0 rfl rfl 7 (by decide) i_X10_readsOne_10 q_X10_readsOne_2 rfl dX10_readsOne_178 ?_
      refine z_iconst S dX10_readsOne_181 ?_
      refine z_iadd S dX10_readsOne_182 ?_
      refine z_puti S hK hP hD hS 0 rfl rfl 7 (by decide) i_X10_readsOne_10 q_X10_readsOne_2 tyX10 tyX10_ok nmX10 rfl (by decide +kernel) (Nat.le_of_ble_eq_true rfl) dX10_readsOne_183 (fun H locs hP hD hS => ?_)
      have hP : zP E (mW E ad flt ppl kd vl nb fr tl (b + 1) rP g (zu rv rP r_154) rn rf rt can fw fs ss sl sh hd tr) H := hP
      have hD : va_D A (mW E ad flt ppl kd vl nb fr tl (b + 1) rP g (zu rv rP r_154) rn rf rt can fw fs ss sl sh hd tr) := hD
      refine lv_aload_n S.1 S.2.1 dX10_readsOne_186 rfl (lv_at hl 1 rfl) ?_
      refine z_get S hK hP 0 rfl rfl 11 (by decide) i_X10_readsOne_10 q_X10_readsOne_6 rfl dX10_readsOne_187 ?_
      refine lv_iload S.1 S.2.1 dX10_readsOne_190 (lv_at hl 0 rfl) ?_
      refine lv_aload_n S.1 S.2.1 dX10_readsOne_192 rfl (lv_at hl 1 rfl) ?_
      refine lv_iload_n S.1 S.2.1 dX10_readsOne_193 rfl (lv_at hl 2 rfl) ?_
      refine lv_iload_n S.1 S.2.1 dX10_readsOne_194 rfl (lv_at hl 3 rfl) ?_
      refine z_iconst S dX10_readsOne_195 ?_
      refine z_bipush S (by decide +kernel) dX10_readsOne_196 ?_
      refine z_miw (z_mV S hK (c_X10_two l E ad flt ppl kd vl nb fr tl (b + 1) rP g (zu rv rP r_154) rn rf rt can fw fs ss sl sh hd tr frm n 1 99 (by omega) (hcr) (by omega) (by omega) _) gX10_readsOne_X10_two rfl hv_X10_two ⟨Nat.le_of_ble_eq_true rfl, Nat.le_of_ble_eq_true rfl⟩ (va_recv hK hP (ci := 10) (q0 := 0) rfl rfl) hP hD trivial hl.1 rfl (Nat.le_of_ble_eq_true rfl) ⟨by decide, by decide⟩ rfl dX10_readsOne_198) hD hS hA (fun r_198 u H locs h_198 hP hD hS => ?_)
      obtain ⟨u198_rA, u198_rA_e⟩ : ∃ z, z = u := ⟨_, rfl⟩
      subst u198_rA_e
      try dsimp only at h_198
      have hP : zP E (mW E ad flt ppl kd vl nb fr tl u198_rA rP g (zu rv rP r_154) rn rf rt can fw fs ss sl sh hd tr) H := hP
      have hD : va_D A (mW E ad flt ppl kd vl nb fr tl u198_rA rP g (zu rv rP r_154) rn rf rt can fw fs ss sl sh hd tr) := hD
      have hrg1 := zTwo_rng h_198
      have hs_198 := zTwo_step (t := t) (by rw [ht]; exact h_198) (b := 9 * rP) (k := 2) (by omega) (by omega) (by omega) hgb2 (by omega)
      refine z_iast S hK hP hD hS 8 rfl (by omega) dX10_readsOne_201 (fun H locs hP hD hS => ?_)
      have hP : zP E (mW E ad flt ppl kd vl nb fr tl u198_rA rP g (zu rv rP r_154) (zu rn rP r_198) rf rt can fw fs ss sl sh hd tr) H := hP
      have hD : va_D A (mW E ad flt ppl kd vl nb fr tl u198_rA rP g (zu rv rP r_154) (zu rn rP r_198) rf rt can fw fs ss sl sh hd tr) := hD
      refine lv_aload_n S.1 S.2.1 dX10_readsOne_202 rfl (lv_at hl 1 rfl) ?_
      refine z_get S hK hP 0 rfl rfl 12 (by decide) i_X10_readsOne_10 q_X10_readsOne_7 rfl dX10_readsOne_203 ?_
      refine lv_iload S.1 S.2.1 dX10_readsOne_206 (lv_at hl 0 rfl) ?_
      refine lv_aload_n S.1 S.2.1 dX10_readsOne_208 rfl (lv_at hl 1 rfl) ?_
      refine z_get S hK hP 0 rfl rfl 11 (by decide) i_X10_readsOne_10 q_X10_readsOne_6 rfl dX10_readsOne_209 ?_
      refine lv_iload S.1 S.2.1 dX10_readsOne_212 (lv_at hl 0 rfl) ?_
      refine z_iald S hK hP 8 rfl (by omega) dX10_readsOne_214 ?_
      have hz2 : zu rn rP r_198 rP = r_198 := zu_s
      refine z_if_ge (tgt := 223) S dX10_readsOne_215 (by decide) (by omega) (fun c_215 => ?_) (fun c_215 => ?_)
      · skip
        obtain ⟨hn1, hn2, hn3, hn4, hn5, hgc0⟩ := hs_198.elim id (fun q => absurd q.1 (by omega))
        have hgc : zAllGo t u198_rA := by rw [hn2]; exact hgc0
        have hn6 : r_198 = zNb t rP := by rw [hn4]; unfold zNb; rw [show b + 1 = 9 * rP + 2 by omega, show 9 * rP + 2 + 1 = 9 * rP + 3 by omega]
        refine lv_aload_n S.1 S.2.1 dX10_readsOne_223 rfl (lv_at hl 1 rfl) ?_
        refine lv_iload_n S.1 S.2.1 dX10_readsOne_224 rfl (lv_at hl 2 rfl) ?_
        refine lv_iload_n S.1 S.2.1 dX10_readsOne_225 rfl (lv_at hl 3 rfl) ?_
        refine z_iconst S dX10_readsOne_226 ?_
        refine z_bipush S (by decide +kernel) dX10_readsOne_227 ?_
        refine z_miw (z_mV S hK (c_X10_two l E ad flt ppl kd vl nb fr tl u198_rA rP g (zu rv rP r_154) (zu rn rP r_198) rf rt can fw fs ss sl sh hd tr frm n 0 98 (by omega) (hcr) (by omega) (by omega) _) gX10_readsOne_X10_two rfl hv_X10_two ⟨Nat.le_of_ble_eq_true rfl, Nat.le_of_ble_eq_true rfl⟩ (va_recv hK hP (ci := 10) (q0 := 0) rfl rfl) hP hD trivial hl.1 rfl (Nat.le_of_ble_eq_true rfl) ⟨by decide, by decide⟩ rfl dX10_readsOne_229) hD hS hA (fun r_229 u H locs h_229 hP hD hS => ?_)
        obtain ⟨u229_rA, u229_rA_e⟩ : ∃ z, z = u := ⟨_, rfl⟩
        subst u229_rA_e
        try dsimp only at h_229
        have hP : zP E (mW E ad flt ppl kd vl nb fr tl u229_rA rP g (zu rv rP r_154) (zu rn rP r_198) rf rt can fw fs ss sl sh hd tr) H := hP
        have hD : va_D A (mW E ad flt ppl kd vl nb fr tl u229_rA rP g (zu rv rP r_154) (zu rn rP r_198) rf rt can fw fs ss sl sh hd tr) := hD
        have hrg2 := zTwo_rng h_229
        have hs_229 := zTwo_step (t := t) (by rw [ht]; exact h_229) (b := 9 * rP) (k := 4) (by omega) (by omega) (by omega) hgc (by omega)
        refine z_iast S hK hP hD hS 9 rfl (by omega) dX10_readsOne_232 (fun H locs hP hD hS => ?_)
        have hP : zP E (mW E ad flt ppl kd vl nb fr tl u229_rA rP g (zu rv rP r_154) (zu rn rP r_198) (zu rf rP r_229) rt can fw fs ss sl sh hd tr) H := hP
        have hD : va_D A (mW E ad flt ppl kd vl nb fr tl u229_rA rP g (zu rv rP r_154) (zu rn rP r_198) (zu rf rP r_229) rt can fw fs ss sl sh hd tr) := hD
        refine lv_aload_n S.1 S.2.1 dX10_readsOne_233 rfl (lv_at hl 1 rfl) ?_
        refine z_get S hK hP 0 rfl rfl 13 (by decide) i_X10_readsOne_10 q_X10_readsOne_8 rfl dX10_readsOne_234 ?_
        refine lv_iload S.1 S.2.1 dX10_readsOne_237 (lv_at hl 0 rfl) ?_
        refine lv_aload_n S.1 S.2.1 dX10_readsOne_239 rfl (lv_at hl 1 rfl) ?_
        refine z_get S hK hP 0 rfl rfl 12 (by decide) i_X10_readsOne_10 q_X10_readsOne_7 rfl dX10_readsOne_240 ?_
        refine lv_iload S.1 S.2.1 dX10_readsOne_243 (lv_at hl 0 rfl) ?_
        refine z_iald S hK hP 9 rfl (by omega) dX10_readsOne_245 ?_
        have hz_1 : zu rf rP r_229 rP = r_229 := zu_s
        refine z_if_ge (tgt := 254) S dX10_readsOne_246 (by decide) (by omega) (fun c_246 => ?_) (fun c_246 => ?_)
        · skip
          obtain ⟨hm1, hm2, hm3, hm4, hm5, hgd0⟩ := hs_229.elim id (fun q => absurd q.1 (by omega))
          have hgd : zAllGo t u229_rA := by rw [hm2]; exact hgd0
          have hm6 : r_229 = zFr t rP := by rw [hm4]; unfold zFr; rw [show u198_rA = 9 * rP + 4 by omega, show 9 * rP + 4 + 1 = 9 * rP + 5 by omega]
          have hm7 : r_229 = 10 * (t (9 * rP + 4) - 48) + (t (9 * rP + 5) - 48) := hm6
          refine lv_aload_n S.1 S.2.1 dX10_readsOne_254 rfl (lv_at hl 1 rfl) ?_
          refine lv_iload_n S.1 S.2.1 dX10_readsOne_255 rfl (lv_at hl 2 rfl) ?_
          refine lv_iload_n S.1 S.2.1 dX10_readsOne_256 rfl (lv_at hl 3 rfl) ?_
          refine lv_aload_n S.1 S.2.1 dX10_readsOne_257 rfl (lv_at hl 1 rfl) ?_
          refine z_get S hK hP 0 rfl rfl 12 (by decide) i_X10_readsOne_10 q_X10_readsOne_7 rfl dX10_readsOne_258 ?_
          refine lv_iload S.1 S.2.1 dX10_readsOne_261 (lv_at hl 0 rfl) ?_
          refine z_iald S hK hP 9 rfl (by omega) dX10_readsOne_263 ?_
          refine z_iconst S dX10_readsOne_264 ?_
          refine z_iadd S dX10_readsOne_265 ?_
          refine z_bipush S (by decide +kernel) dX10_readsOne_266 ?_
          refine z_miw (z_mV S hK (c_X10_two l E ad flt ppl kd vl nb fr tl u229_rA rP g (zu rv rP r_154) (zu rn rP r_198) (zu rf rP r_229) rt can fw fs ss sl sh hd tr frm n (((zu rf rP r_229) (rP)) + 1) 99 (by omega) (hcr) (by omega) (by omega) _) gX10_readsOne_X10_two rfl hv_X10_two ⟨Nat.le_of_ble_eq_true rfl, Nat.le_of_ble_eq_true rfl⟩ (va_recv hK hP (ci := 10) (q0 := 0) rfl rfl) hP hD trivial hl.1 rfl (Nat.le_of_ble_eq_true rfl) ⟨by decide, by decide⟩ rfl dX10_readsOne_268) hD hS hA (fun r_268 u H locs h_268 hP hD hS => ?_)
          obtain ⟨u268_rA, u268_rA_e⟩ : ∃ z, z = u := ⟨_, rfl⟩
          subst u268_rA_e
          try dsimp only at h_268
          have hP : zP E (mW E ad flt ppl kd vl nb fr tl u268_rA rP g (zu rv rP r_154) (zu rn rP r_198) (zu rf rP r_229) rt can fw fs ss sl sh hd tr) H := hP
          have hD : va_D A (mW E ad flt ppl kd vl nb fr tl u268_rA rP g (zu rv rP r_154) (zu rn rP r_198) (zu rf rP r_229) rt can fw fs ss sl sh hd tr) := hD
          have hrg3 := zTwo_rng h_268
          have hs_268 := zTwo_step (t := t) (by rw [ht]; exact h_268) (b := 9 * rP) (k := 6) (by omega) (by omega) (by omega) hgd (by omega)
          refine z_iast S hK hP hD hS 10 rfl (by omega) dX10_readsOne_271 (fun H locs hP hD hS => ?_)
          have hP : zP E (mW E ad flt ppl kd vl nb fr tl u268_rA rP g (zu rv rP r_154) (zu rn rP r_198) (zu rf rP r_229) (zu rt rP r_268) can fw fs ss sl sh hd tr) H := hP
          have hD : va_D A (mW E ad flt ppl kd vl nb fr tl u268_rA rP g (zu rv rP r_154) (zu rn rP r_198) (zu rf rP r_229) (zu rt rP r_268) can fw fs ss sl sh hd tr) := hD
          refine lv_aload_n S.1 S.2.1 dX10_readsOne_272 rfl (lv_at hl 1 rfl) ?_
          refine lv_dup S.1 S.2.1 dX10_readsOne_273 rfl ?_
          refine z_get S hK hP 0 rfl rfl 8 (by decide) i_X10_readsOne_10 q_X10_readsOne_1 rfl dX10_readsOne_274 ?_
          refine z_iconst S dX10_readsOne_277 ?_
          refine z_iadd S dX10_readsOne_278 ?_
          refine z_puti S hK hP hD hS 0 rfl rfl 8 (by decide) i_X10_readsOne_10 q_X10_readsOne_1 tyX10 tyX10_ok nmX10 rfl (by decide +kernel) (Nat.le_of_ble_eq_true rfl) dX10_readsOne_279 (fun H locs hP hD hS => ?_)
          have hP : zP E (mW E ad flt ppl kd vl nb fr tl u268_rA (rP + 1) g (zu rv rP r_154) (zu rn rP r_198) (zu rf rP r_229) (zu rt rP r_268) can fw fs ss sl sh hd tr) H := hP
          have hD : va_D A (mW E ad flt ppl kd vl nb fr tl u268_rA (rP + 1) g (zu rv rP r_154) (zu rn rP r_198) (zu rf rP r_229) (zu rt rP r_268) can fw fs ss sl sh hd tr) := hD
          refine lv_aload_n S.1 S.2.1 dX10_readsOne_282 rfl (lv_at hl 1 rfl) ?_
          refine z_get S hK hP 0 rfl rfl 13 (by decide) i_X10_readsOne_10 q_X10_readsOne_8 rfl dX10_readsOne_283 ?_
          refine lv_iload S.1 S.2.1 dX10_readsOne_286 (lv_at hl 0 rfl) ?_
          refine z_iald S hK hP 10 rfl (by omega) dX10_readsOne_288 ?_
          have hz_2 : zu rt rP r_268 rP = r_268 := zu_s
          refine z_if_lt (tgt := 296) S dX10_readsOne_289 (by decide) (by omega) (fun c_289 => ?_) (fun c_289 => ?_)
          · skip
            refine z_iconst S dX10_readsOne_296 ?_
            exact hQ (0) ((u268_rA, (rP + 1, (g, (zu rv rP r_154, (zu rn rP r_198, (zu rf rP r_229, zu rt rP r_268))))))) _ _ (by omega) (by first | exact Or.inr ⟨rfl, (hs_268.elim (fun q => absurd q.1 (by omega)) id).2⟩ | exact Or.inr ⟨rfl, (hs_229.elim (fun q => absurd q.1 (by omega)) id).2⟩ | exact Or.inr ⟨rfl, (hs_198.elim (fun q => absurd q.1 (by omega)) id).2⟩ | exact Or.inl ⟨rfl, by omega, by rw [hp2]; exact hp0, rfl, hg, zu_cong hv3, zu_cong hn6, zu_cong hm6, zu_cong hp6⟩) hP hD hS _ _ dX10_readsOne_297
          · skip
            obtain ⟨hp1, hp2, hp3, hp4, hp5, hp0⟩ := hs_268.elim id (fun q => absurd q.1 (by omega))
            have hp6 : r_268 = zTl t rP := by rw [hp4]; unfold zTl; rw [show u229_rA = 9 * rP + 6 by omega, show 9 * rP + 6 + 1 = 9 * rP + 7 by omega]
            refine z_iconst S dX10_readsOne_292 ?_
            refine z_goto (tgt := 297) S dX10_readsOne_293 (by decide) ?_
            exact hQ (1) ((u268_rA, (rP + 1, (g, (zu rv rP r_154, (zu rn rP r_198, (zu rf rP r_229, zu rt rP r_268))))))) _ _ (by omega) (by first | exact Or.inr ⟨rfl, (hs_268.elim (fun q => absurd q.1 (by omega)) id).2⟩ | exact Or.inr ⟨rfl, (hs_229.elim (fun q => absurd q.1 (by omega)) id).2⟩ | exact Or.inr ⟨rfl, (hs_198.elim (fun q => absurd q.1 (by omega)) id).2⟩ | exact Or.inl ⟨rfl, by omega, by rw [hp2]; exact hp0, rfl, hg, zu_cong hv3, zu_cong hn6, zu_cong hm6, zu_cong hp6⟩) hP hD hS _ _ dX10_readsOne_297
        · skip
          refine z_bipush S (by decide +kernel) dX10_readsOne_249 ?_
          refine z_goto (tgt := 271) S dX10_readsOne_251 (by decide) ?_
          refine z_iast S hK hP hD hS 10 rfl (by omega) dX10_readsOne_271 (fun H locs hP hD hS => ?_)
          have hP : zP E (mW E ad flt ppl kd vl nb fr tl u229_rA rP g (zu rv rP r_154) (zu rn rP r_198) (zu rf rP r_229) (zu rt rP (-9)) can fw fs ss sl sh hd tr) H := hP
          have hD : va_D A (mW E ad flt ppl kd vl nb fr tl u229_rA rP g (zu rv rP r_154) (zu rn rP r_198) (zu rf rP r_229) (zu rt rP (-9)) can fw fs ss sl sh hd tr) := hD
          refine lv_aload_n S.1 S.2.1 dX10_readsOne_272 rfl (lv_at hl 1 rfl) ?_
          refine lv_dup S.1 S.2.1 dX10_readsOne_273 rfl ?_
          refine z_get S hK hP 0 rfl rfl 8 (by decide) i_X10_readsOne_10 q_X10_readsOne_1 rfl dX10_readsOne_274 ?_
          refine z_iconst S dX10_readsOne_277 ?_
          refine z_iadd S dX10_readsOne_278 ?_
          refine z_puti S hK hP hD hS 0 rfl rfl 8 (by decide) i_X10_readsOne_10 q_X10_readsOne_1 tyX10 tyX10_ok nmX10 rfl (by decide +kernel) (Nat.le_of_ble_eq_true rfl) dX10_readsOne_279 (fun H locs hP hD hS => ?_)
          have hP : zP E (mW E ad flt ppl kd vl nb fr tl u229_rA (rP + 1) g (zu rv rP r_154) (zu rn rP r_198) (zu rf rP r_229) (zu rt rP (-9)) can fw fs ss sl sh hd tr) H := hP
          have hD : va_D A (mW E ad flt ppl kd vl nb fr tl u229_rA (rP + 1) g (zu rv rP r_154) (zu rn rP r_198) (zu rf rP r_229) (zu rt rP (-9)) can fw fs ss sl sh hd tr) := hD
          refine lv_aload_n S.1 S.2.1 dX10_readsOne_282 rfl (lv_at hl 1 rfl) ?_
          refine z_get S hK hP 0 rfl rfl 13 (by decide) i_X10_readsOne_10 q_X10_readsOne_8 rfl dX10_readsOne_283 ?_
          refine lv_iload S.1 S.2.1 dX10_readsOne_286 (lv_at hl 0 rfl) ?_
          refine z_iald S hK hP 10 rfl (by omega) dX10_readsOne_288 ?_
          have hz_3 : zu rt rP (-9) rP = (-9) := zu_s
          refine z_if_lt (tgt := 296) S dX10_readsOne_289 (by decide) (by omega) (fun c_289 => ?_) (fun c_289 => ?_)
          · skip
            refine z_iconst S dX10_readsOne_296 ?_
            exact hQ (0) ((u229_rA, (rP + 1, (g, (zu rv rP r_154, (zu rn rP r_198, (zu rf rP r_229, zu rt rP (-9)))))))) _ _ (by omega) (by first | exact Or.inr ⟨rfl, (hs_268.elim (fun q => absurd q.1 (by omega)) id).2⟩ | exact Or.inr ⟨rfl, (hs_229.elim (fun q => absurd q.1 (by omega)) id).2⟩ | exact Or.inr ⟨rfl, (hs_198.elim (fun q => absurd q.1 (by omega)) id).2⟩ | exact Or.inl ⟨rfl, by omega, by rw [hp2]; exact hp0, rfl, hg, zu_cong hv3, zu_cong hn6, zu_cong hm6, zu_cong hp6⟩) hP hD hS _ _ dX10_readsOne_297
          · omega
      · skip
        refine z_bipush S (by decide +kernel) dX10_readsOne_218 ?_
        refine z_goto (tgt := 232) S dX10_readsOne_220 (by decide) ?_
        refine z_iast S hK hP hD hS 9 rfl (by omega) dX10_readsOne_232 (fun H locs hP hD hS => ?_)
        have hP : zP E (mW E ad flt ppl kd vl nb fr tl u198_rA rP g (zu rv rP r_154) (zu rn rP r_198) (zu rf rP (-9)) rt can fw fs ss sl sh hd tr) H := hP
        have hD : va_D A (mW E ad flt ppl kd vl nb fr tl u198_rA rP g (zu rv rP r_154) (zu rn rP r_198) (zu rf rP (-9)) rt can fw fs ss sl sh hd tr) := hD
        refine lv_aload_n S.1 S.2.1 dX10_readsOne_233 rfl (lv_at hl 1 rfl) ?_
        refine z_get S hK hP 0 rfl rfl 13 (by decide) i_X10_readsOne_10 q_X10_readsOne_8 rfl dX10_readsOne_234 ?_
        refine lv_iload S.1 S.2.1 dX10_readsOne_237 (lv_at hl 0 rfl) ?_
        refine lv_aload_n S.1 S.2.1 dX10_readsOne_239 rfl (lv_at hl 1 rfl) ?_
        refine z_get S hK hP 0 rfl rfl 12 (by decide) i_X10_readsOne_10 q_X10_readsOne_7 rfl dX10_readsOne_240 ?_
        refine lv_iload S.1 S.2.1 dX10_readsOne_243 (lv_at hl 0 rfl) ?_
        refine z_iald S hK hP 9 rfl (by omega) dX10_readsOne_245 ?_
        have hz_4 : zu rf rP (-9) rP = (-9) := zu_s
        refine z_if_ge (tgt := 254) S dX10_readsOne_246 (by decide) (by omega) (fun c_246 => ?_) (fun c_246 => ?_)
        · omega
        · skip
          refine z_bipush S (by decide +kernel) dX10_readsOne_249 ?_
          refine z_goto (tgt := 271) S dX10_readsOne_251 (by decide) ?_
          refine z_iast S hK hP hD hS 10 rfl (by omega) dX10_readsOne_271 (fun H locs hP hD hS => ?_)
          have hP : zP E (mW E ad flt ppl kd vl nb fr tl u198_rA rP g (zu rv rP r_154) (zu rn rP r_198) (zu rf rP (-9)) (zu rt rP (-9)) can fw fs ss sl sh hd tr) H := hP
          have hD : va_D A (mW E ad flt ppl kd vl nb fr tl u198_rA rP g (zu rv rP r_154) (zu rn rP r_198) (zu rf rP (-9)) (zu rt rP (-9)) can fw fs ss sl sh hd tr) := hD
          refine lv_aload_n S.1 S.2.1 dX10_readsOne_272 rfl (lv_at hl 1 rfl) ?_
          refine lv_dup S.1 S.2.1 dX10_readsOne_273 rfl ?_
          refine z_get S hK hP 0 rfl rfl 8 (by decide) i_X10_readsOne_10 q_X10_readsOne_1 rfl dX10_readsOne_274 ?_
          refine z_iconst S dX10_readsOne_277 ?_
          refine z_iadd S dX10_readsOne_278 ?_
          refine z_puti S hK hP hD hS 0 rfl rfl 8 (by decide) i_X10_readsOne_10 q_X10_readsOne_1 tyX10 tyX10_ok nmX10 rfl (by decide +kernel) (Nat.le_of_ble_eq_true rfl) dX10_readsOne_279 (fun H locs hP hD hS => ?_)
          have hP : zP E (mW E ad flt ppl kd vl nb fr tl u198_rA (rP + 1) g (zu rv rP r_154) (zu rn rP r_198) (zu rf rP (-9)) (zu rt rP (-9)) can fw fs ss sl sh hd tr) H := hP
          have hD : va_D A (mW E ad flt ppl kd vl nb fr tl u198_rA (rP + 1) g (zu rv rP r_154) (zu rn rP r_198) (zu rf rP (-9)) (zu rt rP (-9)) can fw fs ss sl sh hd tr) := hD
          refine lv_aload_n S.1 S.2.1 dX10_readsOne_282 rfl (lv_at hl 1 rfl) ?_
          refine z_get S hK hP 0 rfl rfl 13 (by decide) i_X10_readsOne_10 q_X10_readsOne_8 rfl dX10_readsOne_283 ?_
          refine lv_iload S.1 S.2.1 dX10_readsOne_286 (lv_at hl 0 rfl) ?_
          refine z_iald S hK hP 10 rfl (by omega) dX10_readsOne_288 ?_
          have hz_5 : zu rt rP (-9) rP = (-9) := zu_s
          refine z_if_lt (tgt := 296) S dX10_readsOne_289 (by decide) (by omega) (fun c_289 => ?_) (fun c_289 => ?_)
          · skip
            refine z_iconst S dX10_readsOne_296 ?_
            exact hQ (0) ((u198_rA, (rP + 1, (g, (zu rv rP r_154, (zu rn rP r_198, (zu rf rP (-9), zu rt rP (-9)))))))) _ _ (by omega) (by first | exact Or.inr ⟨rfl, (hs_268.elim (fun q => absurd q.1 (by omega)) id).2⟩ | exact Or.inr ⟨rfl, (hs_229.elim (fun q => absurd q.1 (by omega)) id).2⟩ | exact Or.inr ⟨rfl, (hs_198.elim (fun q => absurd q.1 (by omega)) id).2⟩ | exact Or.inl ⟨rfl, by omega, by rw [hp2]; exact hp0, rfl, hg, zu_cong hv3, zu_cong hn6, zu_cong hm6, zu_cong hp6⟩) hP hD hS _ _ dX10_readsOne_297
          · omega
    · skip
      refine z_iconst S dX10_readsOne_174 ?_
      exact hQ (0) ((b, (rP, (g, (zu rv rP r_154, (rn, (rf, rt))))))) _ _ (by omega) (Or.inr ⟨rfl, zPar_1 hb (by omega) (by omega) hgb hf1 (by omega)⟩) hP hD hS _ _ dX10_readsOne_175
  have HC_52 : ∀ (a : Int), (a = 9 * rP) → (0 ≤ rP ∧ rP ≤ 9 ∧ a ≤ n) → (zAllGo t a) → ∀ (H : Heap) (locs : List Loc), zP E (mW E ad flt ppl kd vl nb fr tl a rP rk rv rn rf rt can fw fs ss sl sh hd tr) H → va_D A (mW E ad flt ppl kd vl nb fr tl a rP rk rv rn rf rt can fw fs ss sl sh hd tr) → va_S A s.heap H locs → ∀ (ls : Array Slot), lv_has ls 5 [(0, .ref (ad 0)), (1, .int (jI (frm))), (2, .int (jI (n)))] → W p l e (zr 4 0 0) s m args below meth c H locs 0 0 Q (F0 m 52 ls []) := by
    intro a ha ha2 hga H locs hP hD hS ls hl
    refine lv_aload_n S.1 S.2.1 dX10_readsOne_52 rfl (lv_at hl 0 rfl) ?_
    refine z_get S hK hP 0 rfl rfl 7 (by decide) i_X10_readsOne_10 q_X10_readsOne_2 rfl dX10_readsOne_53 ?_
    refine lv_iload_n S.1 S.2.1 dX10_readsOne_56 rfl (lv_at hl 2 rfl) ?_
    refine z_icmp_ge (tgt := 74) S dX10_readsOne_57 (by decide) (by omega) (fun c_57 => ?_) (fun c_57 => ?_)
    · skip
      refine z_bipush S (by decide +kernel) dX10_readsOne_74 ?_
      refine lv_istore_n (lv' := [(3, .int (jI (-9))), (0, .ref (ad 0)), (1, .int (jI (frm))), (2, .int (jI (n)))]) S.1 S.2.1 dX10_readsOne_76 rfl hl (by decide) rfl (fun ls hl => ?_)
      refine lv_iload_n S.1 S.2.1 dX10_readsOne_77 rfl (lv_at hl 0 rfl) ?_
      refine z_bipush S (by decide +kernel) dX10_readsOne_78 ?_
      refine z_icmp_eq (tgt := 97) S dX10_readsOne_80 (by decide) (by omega) (fun c_80 => ?_) (fun c_80 => ?_)
      · skip
        refine lv_aload_n S.1 S.2.1 dX10_readsOne_97 rfl (lv_at hl 1 rfl) ?_
        refine lv_dup S.1 S.2.1 dX10_readsOne_98 rfl ?_
        refine z_get S hK hP 0 rfl rfl 7 (by decide) i_X10_readsOne_10 q_X10_readsOne_2 rfl dX10_readsOne_99 ?_
        refine z_iconst S dX10_readsOne_102 ?_
        refine z_iadd S dX10_readsOne_103 ?_
        refine z_puti S hK hP hD hS 0 rfl rfl 7 (by decide) i_X10_readsOne_10 q_X10_readsOne_2 tyX10 tyX10_ok nmX10 rfl (by decide +kernel) (Nat.le_of_ble_eq_true rfl) dX10_readsOne_104 (fun H locs hP hD hS => ?_)
        have hP : zP E (mW E ad flt ppl kd vl nb fr tl (a + 1) rP rk rv rn rf rt can fw fs ss sl sh hd tr) H := hP
        have hD : va_D A (mW E ad flt ppl kd vl nb fr tl (a + 1) rP rk rv rn rf rt can fw fs ss sl sh hd tr) := hD
        refine lv_aload_n S.1 S.2.1 dX10_readsOne_107 rfl (lv_at hl 1 rfl) ?_
        refine z_get S hK hP 0 rfl rfl 8 (by decide) i_X10_readsOne_10 q_X10_readsOne_1 rfl dX10_readsOne_108 ?_
        refine lv_istore (lv' := [(4, .int (jI (rP))), (3, .int (jI (-9))), (0, .ref (ad 0)), (1, .int (jI (frm))), (2, .int (jI (n)))]) S.1 S.2.1 dX10_readsOne_111 hl (by decide) rfl (fun ls hl => ?_)
        refine lv_aload_n S.1 S.2.1 dX10_readsOne_113 rfl (lv_at hl 2 rfl) ?_
        refine z_get S hK hP 0 rfl rfl 9 (by decide) i_X10_readsOne_10 q_X10_readsOne_4 rfl dX10_readsOne_114 ?_
        refine lv_iload S.1 S.2.1 dX10_readsOne_117 (lv_at hl 0 rfl) ?_
        refine lv_iload_n S.1 S.2.1 dX10_readsOne_119 rfl (lv_at hl 1 rfl) ?_
        refine z_bipush S (by decide +kernel) dX10_readsOne_120 ?_
        refine z_icmp_ne (tgt := 129) S dX10_readsOne_122 (by decide) (by omega) (fun c_122 => ?_) (fun c_122 => ?_)
        · skip
          refine lv_iload_n S.1 S.2.1 dX10_readsOne_129 rfl (lv_at hl 1 rfl) ?_
          refine z_bipush S (by decide +kernel) dX10_readsOne_130 ?_
          refine z_icmp_ne (tgt := 139) S dX10_readsOne_132 (by decide) (by omega) (fun c_132 => ?_) (fun c_132 => ?_)
          · skip
            refine z_iconst S dX10_readsOne_139 ?_
            refine z_iast S hK hP hD hS 6 rfl (by omega) dX10_readsOne_140 (fun H locs hP hD hS => ?_)
            have hP : zP E (mW E ad flt ppl kd vl nb fr tl (a + 1) rP (zu rk rP 2) rv rn rf rt can fw fs ss sl sh hd tr) H := hP
            have hD : va_D A (mW E ad flt ppl kd vl nb fr tl (a + 1) rP (zu rk rP 2) rv rn rf rt can fw fs ss sl sh hd tr) := hD
            exact HC_141 (a + 1) (zu rk rP 2) (by omega) (by omega) (zAllGo_next hga (zGo_0 ha (by have := hta a; omega))) (zu_cong (zKd_is ha (by have := hta a; omega))) _ _ hP hD hS ls (lv_sub hl [0, 2, 3, 4] rfl)
          · skip
            refine z_iconst S dX10_readsOne_135 ?_
            refine z_goto (tgt := 140) S dX10_readsOne_136 (by decide) ?_
            refine z_iast S hK hP hD hS 6 rfl (by omega) dX10_readsOne_140 (fun H locs hP hD hS => ?_)
            have hP : zP E (mW E ad flt ppl kd vl nb fr tl (a + 1) rP (zu rk rP 1) rv rn rf rt can fw fs ss sl sh hd tr) H := hP
            have hD : va_D A (mW E ad flt ppl kd vl nb fr tl (a + 1) rP (zu rk rP 1) rv rn rf rt can fw fs ss sl sh hd tr) := hD
            exact HC_141 (a + 1) (zu rk rP 1) (by omega) (by omega) (zAllGo_next hga (zGo_0 ha (by have := hta a; omega))) (zu_cong (zKd_is ha (by have := hta a; omega))) _ _ hP hD hS ls (lv_sub hl [0, 2, 3, 4] rfl)
        · skip
          refine z_iconst S dX10_readsOne_125 ?_
          refine z_goto (tgt := 140) S dX10_readsOne_126 (by decide) ?_
          refine z_iast S hK hP hD hS 6 rfl (by omega) dX10_readsOne_140 (fun H locs hP hD hS => ?_)
          have hP : zP E (mW E ad flt ppl kd vl nb fr tl (a + 1) rP (zu rk rP 0) rv rn rf rt can fw fs ss sl sh hd tr) H := hP
          have hD : va_D A (mW E ad flt ppl kd vl nb fr tl (a + 1) rP (zu rk rP 0) rv rn rf rt can fw fs ss sl sh hd tr) := hD
          exact HC_141 (a + 1) (zu rk rP 0) (by omega) (by omega) (zAllGo_next hga (zGo_0 ha (by have := hta a; omega))) (zu_cong (zKd_is ha (by have := hta a; omega))) _ _ hP hD hS ls (lv_sub hl [0, 2, 3, 4] rfl)
      · skip
        refine lv_iload_n S.1 S.2.1 dX10_readsOne_83 rfl (lv_at hl 0 rfl) ?_
        refine z_bipush S (by decide +kernel) dX10_readsOne_84 ?_
        refine z_icmp_eq (tgt := 97) S dX10_readsOne_86 (by decide) (by omega) (fun c_86 => ?_) (fun c_86 => ?_)
        · skip
          refine lv_aload_n S.1 S.2.1 dX10_readsOne_97 rfl (lv_at hl 1 rfl) ?_
          refine lv_dup S.1 S.2.1 dX10_readsOne_98 rfl ?_
          refine z_get S hK hP 0 rfl rfl 7 (by decide) i_X10_readsOne_10 q_X10_readsOne_2 rfl dX10_readsOne_99 ?_
          refine z_iconst S dX10_readsOne_102 ?_
          refine z_iadd S dX10_readsOne_103 ?_
          refine z_puti S hK hP hD hS 0 rfl rfl 7 (by decide) i_X10_readsOne_10 q_X10_readsOne_2 tyX10 tyX10_ok nmX10 rfl (by decide +kernel) (Nat.le_of_ble_eq_true rfl) dX10_readsOne_104 (fun H locs hP hD hS => ?_)
          have hP : zP E (mW E ad flt ppl kd vl nb fr tl (a + 1) rP rk rv rn rf rt can fw fs ss sl sh hd tr) H := hP
          have hD : va_D A (mW E ad flt ppl kd vl nb fr tl (a + 1) rP rk rv rn rf rt can fw fs ss sl sh hd tr) := hD
          refine lv_aload_n S.1 S.2.1 dX10_readsOne_107 rfl (lv_at hl 1 rfl) ?_
          refine z_get S hK hP 0 rfl rfl 8 (by decide) i_X10_readsOne_10 q_X10_readsOne_1 rfl dX10_readsOne_108 ?_
          refine lv_istore (lv' := [(4, .int (jI (rP))), (3, .int (jI (-9))), (0, .ref (ad 0)), (1, .int (jI (frm))), (2, .int (jI (n)))]) S.1 S.2.1 dX10_readsOne_111 hl (by decide) rfl (fun ls hl => ?_)
          refine lv_aload_n S.1 S.2.1 dX10_readsOne_113 rfl (lv_at hl 2 rfl) ?_
          refine z_get S hK hP 0 rfl rfl 9 (by decide) i_X10_readsOne_10 q_X10_readsOne_4 rfl dX10_readsOne_114 ?_
          refine lv_iload S.1 S.2.1 dX10_readsOne_117 (lv_at hl 0 rfl) ?_
          refine lv_iload_n S.1 S.2.1 dX10_readsOne_119 rfl (lv_at hl 1 rfl) ?_
          refine z_bipush S (by decide +kernel) dX10_readsOne_120 ?_
          refine z_icmp_ne (tgt := 129) S dX10_readsOne_122 (by decide) (by omega) (fun c_122 => ?_) (fun c_122 => ?_)
          · skip
            refine lv_iload_n S.1 S.2.1 dX10_readsOne_129 rfl (lv_at hl 1 rfl) ?_
            refine z_bipush S (by decide +kernel) dX10_readsOne_130 ?_
            refine z_icmp_ne (tgt := 139) S dX10_readsOne_132 (by decide) (by omega) (fun c_132 => ?_) (fun c_132 => ?_)
            · skip
              refine z_iconst S dX10_readsOne_139 ?_
              refine z_iast S hK hP hD hS 6 rfl (by omega) dX10_readsOne_140 (fun H locs hP hD hS => ?_)
              have hP : zP E (mW E ad flt ppl kd vl nb fr tl (a + 1) rP (zu rk rP 2) rv rn rf rt can fw fs ss sl sh hd tr) H := hP
              have hD : va_D A (mW E ad flt ppl kd vl nb fr tl (a + 1) rP (zu rk rP 2) rv rn rf rt can fw fs ss sl sh hd tr) := hD
              exact HC_141 (a + 1) (zu rk rP 2) (by omega) (by omega) (zAllGo_next hga (zGo_0 ha (by have := hta a; omega))) (zu_cong (zKd_is ha (by have := hta a; omega))) _ _ hP hD hS ls (lv_sub hl [0, 2, 3, 4] rfl)
            · skip
              refine z_iconst S dX10_readsOne_135 ?_
              refine z_goto (tgt := 140) S dX10_readsOne_136 (by decide) ?_
              refine z_iast S hK hP hD hS 6 rfl (by omega) dX10_readsOne_140 (fun H locs hP hD hS => ?_)
              have hP : zP E (mW E ad flt ppl kd vl nb fr tl (a + 1) rP (zu rk rP 1) rv rn rf rt can fw fs ss sl sh hd tr) H := hP
              have hD : va_D A (mW E ad flt ppl kd vl nb fr tl (a + 1) rP (zu rk rP 1) rv rn rf rt can fw fs ss sl sh hd tr) := hD
              exact HC_141 (a + 1) (zu rk rP 1) (by omega) (by omega) (zAllGo_next hga (zGo_0 ha (by have := hta a; omega))) (zu_cong (zKd_is ha (by have := hta a; omega))) _ _ hP hD hS ls (lv_sub hl [0, 2, 3, 4] rfl)
          · skip
            refine z_iconst S dX10_readsOne_125 ?_
            refine z_goto (tgt := 140) S dX10_readsOne_126 (by decide) ?_
            refine z_iast S hK hP hD hS 6 rfl (by omega) dX10_readsOne_140 (fun H locs hP hD hS => ?_)
            have hP : zP E (mW E ad flt ppl kd vl nb fr tl (a + 1) rP (zu rk rP 0) rv rn rf rt can fw fs ss sl sh hd tr) H := hP
            have hD : va_D A (mW E ad flt ppl kd vl nb fr tl (a + 1) rP (zu rk rP 0) rv rn rf rt can fw fs ss sl sh hd tr) := hD
            exact HC_141 (a + 1) (zu rk rP 0) (by omega) (by omega) (zAllGo_next hga (zGo_0 ha (by have := hta a; omega))) (zu_cong (zKd_is ha (by have := hta a; omega))) _ _ hP hD hS ls (lv_sub hl [0, 2, 3, 4] rfl)
        · skip
          refine lv_iload_n S.1 S.2.1 dX10_readsOne_89 rfl (lv_at hl 0 rfl) ?_
          refine z_bipush S (by decide +kernel) dX10_readsOne_90 ?_
          refine z_icmp_eq (tgt := 97) S dX10_readsOne_92 (by decide) (by omega) (fun c_92 => ?_) (fun c_92 => ?_)
          · skip
            refine lv_aload_n S.1 S.2.1 dX10_readsOne_97 rfl (lv_at hl 1 rfl) ?_
            refine lv_dup S.1 S.2.1 dX10_readsOne_98 rfl ?_
            refine z_get S hK hP 0 rfl rfl 7 (by decide) i_X10_readsOne_10 q_X10_readsOne_2 rfl dX10_readsOne_99 ?_
            refine z_iconst S dX10_readsOne_102 ?_
            refine z_iadd S dX10_readsOne_103 ?_
            refine z_puti S hK hP hD hS 0 rfl rfl 7 (by decide) i_X10_readsOne_10 q_X10_readsOne_2 tyX10 tyX10_ok nmX10 rfl (by decide +kernel) (Nat.le_of_ble_eq_true rfl) dX10_readsOne_104 (fun H locs hP hD hS => ?_)
            have hP : zP E (mW E ad flt ppl kd vl nb fr tl (a + 1) rP rk rv rn rf rt can fw fs ss sl sh hd tr) H := hP
            have hD : va_D A (mW E ad flt ppl kd vl nb fr tl (a + 1) rP rk rv rn rf rt can fw fs ss sl sh hd tr) := hD
            refine lv_aload_n S.1 S.2.1 dX10_readsOne_107 rfl (lv_at hl 1 rfl) ?_
            refine z_get S hK hP 0 rfl rfl 8 (by decide) i_X10_readsOne_10 q_X10_readsOne_1 rfl dX10_readsOne_108 ?_
            refine lv_istore (lv' := [(4, .int (jI (rP))), (3, .int (jI (-9))), (0, .ref (ad 0)), (1, .int (jI (frm))), (2, .int (jI (n)))]) S.1 S.2.1 dX10_readsOne_111 hl (by decide) rfl (fun ls hl => ?_)
            refine lv_aload_n S.1 S.2.1 dX10_readsOne_113 rfl (lv_at hl 2 rfl) ?_
            refine z_get S hK hP 0 rfl rfl 9 (by decide) i_X10_readsOne_10 q_X10_readsOne_4 rfl dX10_readsOne_114 ?_
            refine lv_iload S.1 S.2.1 dX10_readsOne_117 (lv_at hl 0 rfl) ?_
            refine lv_iload_n S.1 S.2.1 dX10_readsOne_119 rfl (lv_at hl 1 rfl) ?_
            refine z_bipush S (by decide +kernel) dX10_readsOne_120 ?_
            refine z_icmp_ne (tgt := 129) S dX10_readsOne_122 (by decide) (by omega) (fun c_122 => ?_) (fun c_122 => ?_)
            · skip
              refine lv_iload_n S.1 S.2.1 dX10_readsOne_129 rfl (lv_at hl 1 rfl) ?_
              refine z_bipush S (by decide +kernel) dX10_readsOne_130 ?_
              refine z_icmp_ne (tgt := 139) S dX10_readsOne_132 (by decide) (by omega) (fun c_132 => ?_) (fun c_132 => ?_)
              · skip
                refine z_iconst S dX10_readsOne_139 ?_
                refine z_iast S hK hP hD hS 6 rfl (by omega) dX10_readsOne_140 (fun H locs hP hD hS => ?_)
                have hP : zP E (mW E ad flt ppl kd vl nb fr tl (a + 1) rP (zu rk rP 2) rv rn rf rt can fw fs ss sl sh hd tr) H := hP
                have hD : va_D A (mW E ad flt ppl kd vl nb fr tl (a + 1) rP (zu rk rP 2) rv rn rf rt can fw fs ss sl sh hd tr) := hD
                exact HC_141 (a + 1) (zu rk rP 2) (by omega) (by omega) (zAllGo_next hga (zGo_0 ha (by have := hta a; omega))) (zu_cong (zKd_is ha (by have := hta a; omega))) _ _ hP hD hS ls (lv_sub hl [0, 2, 3, 4] rfl)
              · skip
                refine z_iconst S dX10_readsOne_135 ?_
                refine z_goto (tgt := 140) S dX10_readsOne_136 (by decide) ?_
                refine z_iast S hK hP hD hS 6 rfl (by omega) dX10_readsOne_140 (fun H locs hP hD hS => ?_)
                have hP : zP E (mW E ad flt ppl kd vl nb fr tl (a + 1) rP (zu rk rP 1) rv rn rf rt can fw fs ss sl sh hd tr) H := hP
                have hD : va_D A (mW E ad flt ppl kd vl nb fr tl (a + 1) rP (zu rk rP 1) rv rn rf rt can fw fs ss sl sh hd tr) := hD
                exact HC_141 (a + 1) (zu rk rP 1) (by omega) (by omega) (zAllGo_next hga (zGo_0 ha (by have := hta a; omega))) (zu_cong (zKd_is ha (by have := hta a; omega))) _ _ hP hD hS ls (lv_sub hl [0, 2, 3, 4] rfl)
            · skip
              refine z_iconst S dX10_readsOne_125 ?_
              refine z_goto (tgt := 140) S dX10_readsOne_126 (by decide) ?_
              refine z_iast S hK hP hD hS 6 rfl (by omega) dX10_readsOne_140 (fun H locs hP hD hS => ?_)
              have hP : zP E (mW E ad flt ppl kd vl nb fr tl (a + 1) rP (zu rk rP 0) rv rn rf rt can fw fs ss sl sh hd tr) H := hP
              have hD : va_D A (mW E ad flt ppl kd vl nb fr tl (a + 1) rP (zu rk rP 0) rv rn rf rt can fw fs ss sl sh hd tr) := hD
              exact HC_141 (a + 1) (zu rk rP 0) (by omega) (by omega) (zAllGo_next hga (zGo_0 ha (by have := hta a; omega))) (zu_cong (zKd_is ha (by have := hta a; omega))) _ _ hP hD hS ls (lv_sub hl [0, 2, 3, 4] rfl)
          · skip
            refine z_iconst S dX10_readsOne_95 ?_
            exact hQ (0) ((a, (rP, (rk, (rv, (rn, (rf, rt))))))) _ _ (by omega) (Or.inr ⟨rfl, zPar_0 (t := t) (n := n) ha (by omega) (by omega) hga (fun q => ⟨show t a ≠ 110 by have := hta a; omega, show t a ≠ 108 by have := hta a; omega, show t a ≠ 102 by have := hta a; omega⟩)⟩) hP hD hS _ _ dX10_readsOne_96
    · skip
      refine lv_aload_n S.1 S.2.1 dX10_readsOne_60 rfl (lv_at hl 0 rfl) ?_
      refine z_get S hK hP 0 rfl rfl 19 (by decide) i_X10_readsOne_10 q_X10_readsOne_3 rfl dX10_readsOne_61 ?_
      refine lv_iload_n S.1 S.2.1 dX10_readsOne_64 rfl (lv_at hl 1 rfl) ?_
      refine lv_aload_n S.1 S.2.1 dX10_readsOne_65 rfl (lv_at hl 0 rfl) ?_
      refine z_get S hK hP 0 rfl rfl 7 (by decide) i_X10_readsOne_10 q_X10_readsOne_2 rfl dX10_readsOne_66 ?_
      refine z_iadd S dX10_readsOne_69 ?_
      refine z_iald S hK hP 16 rfl (by omega) dX10_readsOne_70 ?_
      have hf_6 := hcr ((frm + a))
      refine z_goto (tgt := 76) S dX10_readsOne_71 (by decide) ?_
      refine lv_istore_n (lv' := [(3, .int (jI (sh (frm + a)))), (0, .ref (ad 0)), (1, .int (jI (frm))), (2, .int (jI (n)))]) S.1 S.2.1 dX10_readsOne_76 rfl hl (by decide) rfl (fun ls hl => ?_)
      refine lv_iload_n S.1 S.2.1 dX10_readsOne_77 rfl (lv_at hl 0 rfl) ?_
      refine z_bipush S (by decide +kernel) dX10_readsOne_78 ?_
      refine z_icmp_eq (tgt := 97) S dX10_readsOne_80 (by decide) (by omega) (fun c_80 => ?_) (fun c_80 => ?_)
      · skip
        refine lv_aload_n S.1 S.2.1 dX10_readsOne_97 rfl (lv_at hl 1 rfl) ?_
        refine lv_dup S.1 S.2.1 dX10_readsOne_98 rfl ?_
        refine z_get S hK hP 0 rfl rfl 7 (by decide) i_X10_readsOne_10 q_X10_readsOne_2 rfl dX10_readsOne_99 ?_
        refine z_iconst S dX10_readsOne_102 ?_
        refine z_iadd S dX10_readsOne_103 ?_
        refine z_puti S hK hP hD hS 0 rfl rfl 7 (by decide) i_X10_readsOne_10 q_X10_readsOne_2 tyX10 tyX10_ok nmX10 rfl (by decide +kernel) (Nat.le_of_ble_eq_true rfl) dX10_readsOne_104 (fun H locs hP hD hS => ?_)
        have hP : zP E (mW E ad flt ppl kd vl nb fr tl (a + 1) rP rk rv rn rf rt can fw fs ss sl sh hd tr) H := hP
        have hD : va_D A (mW E ad flt ppl kd vl nb fr tl (a + 1) rP rk rv rn rf rt can fw fs ss sl sh hd tr) := hD
        refine lv_aload_n S.1 S.2.1 dX10_readsOne_107 rfl (lv_at hl 1 rfl) ?_
        refine z_get S hK hP 0 rfl rfl 8 (by decide) i_X10_readsOne_10 q_X10_readsOne_1 rfl dX10_readsOne_108 ?_
        refine lv_istore (lv' := [(4, .int (jI (rP))), (3, .int (jI (sh (frm + a)))), (0, .ref (ad 0)), (1, .int (jI (frm))), (2, .int (jI (n)))]) S.1 S.2.1 dX10_readsOne_111 hl (by decide) rfl (fun ls hl => ?_)
        refine lv_aload_n S.1 S.2.1 dX10_readsOne_113 rfl (lv_at hl 2 rfl) ?_
        refine z_get S hK hP 0 rfl rfl 9 (by decide) i_X10_readsOne_10 q_X10_readsOne_4 rfl dX10_readsOne_114 ?_
        refine lv_iload S.1 S.2.1 dX10_readsOne_117 (lv_at hl 0 rfl) ?_
        refine lv_iload_n S.1 S.2.1 dX10_readsOne_119 rfl (lv_at hl 1 rfl) ?_
        refine z_bipush S (by decide +kernel) dX10_readsOne_120 ?_
        refine z_icmp_ne (tgt := 129) S dX10_readsOne_122 (by decide) (by omega) (fun c_122 => ?_) (fun c_122 => ?_)
        · skip
          refine lv_iload_n S.1 S.2.1 dX10_readsOne_129 rfl (lv_at hl 1 rfl) ?_
          refine z_bipush S (by decide +kernel) dX10_readsOne_130 ?_
          refine z_icmp_ne (tgt := 139) S dX10_readsOne_132 (by decide) (by omega) (fun c_132 => ?_) (fun c_132 => ?_)
          · skip
            refine z_iconst S dX10_readsOne_139 ?_
            refine z_iast S hK hP hD hS 6 rfl (by omega) dX10_readsOne_140 (fun H locs hP hD hS => ?_)
            have hP : zP E (mW E ad flt ppl kd vl nb fr tl (a + 1) rP (zu rk rP 2) rv rn rf rt can fw fs ss sl sh hd tr) H := hP
            have hD : va_D A (mW E ad flt ppl kd vl nb fr tl (a + 1) rP (zu rk rP 2) rv rn rf rt can fw fs ss sl sh hd tr) := hD
            exact HC_141 (a + 1) (zu rk rP 2) (by omega) (by omega) (zAllGo_next hga (zGo_0 ha (by have := hta a; omega))) (zu_cong (zKd_is ha (by have := hta a; omega))) _ _ hP hD hS ls (lv_sub hl [0, 2, 3, 4] rfl)
          · skip
            refine z_iconst S dX10_readsOne_135 ?_
            refine z_goto (tgt := 140) S dX10_readsOne_136 (by decide) ?_
            refine z_iast S hK hP hD hS 6 rfl (by omega) dX10_readsOne_140 (fun H locs hP hD hS => ?_)
            have hP : zP E (mW E ad flt ppl kd vl nb fr tl (a + 1) rP (zu rk rP 1) rv rn rf rt can fw fs ss sl sh hd tr) H := hP
            have hD : va_D A (mW E ad flt ppl kd vl nb fr tl (a + 1) rP (zu rk rP 1) rv rn rf rt can fw fs ss sl sh hd tr) := hD
            exact HC_141 (a + 1) (zu rk rP 1) (by omega) (by omega) (zAllGo_next hga (zGo_0 ha (by have := hta a; omega))) (zu_cong (zKd_is ha (by have := hta a; omega))) _ _ hP hD hS ls (lv_sub hl [0, 2, 3, 4] rfl)
        · skip
          refine z_iconst S dX10_readsOne_125 ?_
          refine z_goto (tgt := 140) S dX10_readsOne_126 (by decide) ?_
          refine z_iast S hK hP hD hS 6 rfl (by omega) dX10_readsOne_140 (fun H locs hP hD hS => ?_)
          have hP : zP E (mW E ad flt ppl kd vl nb fr tl (a + 1) rP (zu rk rP 0) rv rn rf rt can fw fs ss sl sh hd tr) H := hP
          have hD : va_D A (mW E ad flt ppl kd vl nb fr tl (a + 1) rP (zu rk rP 0) rv rn rf rt can fw fs ss sl sh hd tr) := hD
          exact HC_141 (a + 1) (zu rk rP 0) (by omega) (by omega) (zAllGo_next hga (zGo_0 ha (by have := hta a; omega))) (zu_cong (zKd_is ha (by have := hta a; omega))) _ _ hP hD hS ls (lv_sub hl [0, 2, 3, 4] rfl)
      · skip
        refine lv_iload_n S.1 S.2.1 dX10_readsOne_83 rfl (lv_at hl 0 rfl) ?_
        refine z_bipush S (by decide +kernel) dX10_readsOne_84 ?_
        refine z_icmp_eq (tgt := 97) S dX10_readsOne_86 (by decide) (by omega) (fun c_86 => ?_) (fun c_86 => ?_)
        · skip
          refine lv_aload_n S.1 S.2.1 dX10_readsOne_97 rfl (lv_at hl 1 rfl) ?_
          refine lv_dup S.1 S.2.1 dX10_readsOne_98 rfl ?_
          refine z_get S hK hP 0 rfl rfl 7 (by decide) i_X10_readsOne_10 q_X10_readsOne_2 rfl dX10_readsOne_99 ?_
          refine z_iconst S dX10_readsOne_102 ?_
          refine z_iadd S dX10_readsOne_103 ?_
          refine z_puti S hK hP hD hS 0 rfl rfl 7 (by decide) i_X10_readsOne_10 q_X10_readsOne_2 tyX10 tyX10_ok nmX10 rfl (by decide +kernel) (Nat.le_of_ble_eq_true rfl) dX10_readsOne_104 (fun H locs hP hD hS => ?_)
          have hP : zP E (mW E ad flt ppl kd vl nb fr tl (a + 1) rP rk rv rn rf rt can fw fs ss sl sh hd tr) H := hP
          have hD : va_D A (mW E ad flt ppl kd vl nb fr tl (a + 1) rP rk rv rn rf rt can fw fs ss sl sh hd tr) := hD
          refine lv_aload_n S.1 S.2.1 dX10_readsOne_107 rfl (lv_at hl 1 rfl) ?_
          refine z_get S hK hP 0 rfl rfl 8 (by decide) i_X10_readsOne_10 q_X10_readsOne_1 rfl dX10_readsOne_108 ?_
          refine lv_istore (lv' := [(4, .int (jI (rP))), (3, .int (jI (sh (frm + a)))), (0, .ref (ad 0)), (1, .int (jI (frm))), (2, .int (jI (n)))]) S.1 S.2.1 dX10_readsOne_111 hl (by decide) rfl (fun ls hl => ?_)
          refine lv_aload_n S.1 S.2.1 dX10_readsOne_113 rfl (lv_at hl 2 rfl) ?_
          refine z_get S hK hP 0 rfl rfl 9 (by decide) i_X10_readsOne_10 q_X10_readsOne_4 rfl dX10_readsOne_114 ?_
          refine lv_iload S.1 S.2.1 dX10_readsOne_117 (lv_at hl 0 rfl) ?_
          refine lv_iload_n S.1 S.2.1 dX10_readsOne_119 rfl (lv_at hl 1 rfl) ?_
          refine z_bipush S (by decide +kernel) dX10_readsOne_120 ?_
          refine z_icmp_ne (tgt := 129) S dX10_readsOne_122 (by decide) (by omega) (fun c_122 => ?_) (fun c_122 => ?_)
          · skip
            refine lv_iload_n S.1 S.2.1 dX10_readsOne_129 rfl (lv_at hl 1 rfl) ?_
            refine z_bipush S (by decide +kernel) dX10_readsOne_130 ?_
            refine z_icmp_ne (tgt := 139) S dX10_readsOne_132 (by decide) (by omega) (fun c_132 => ?_) (fun c_132 => ?_)
            · skip
              refine z_iconst S dX10_readsOne_139 ?_
              refine z_iast S hK hP hD hS 6 rfl (by omega) dX10_readsOne_140 (fun H locs hP hD hS => ?_)
              have hP : zP E (mW E ad flt ppl kd vl nb fr tl (a + 1) rP (zu rk rP 2) rv rn rf rt can fw fs ss sl sh hd tr) H := hP
              have hD : va_D A (mW E ad flt ppl kd vl nb fr tl (a + 1) rP (zu rk rP 2) rv rn rf rt can fw fs ss sl sh hd tr) := hD
              exact HC_141 (a + 1) (zu rk rP 2) (by omega) (by omega) (zAllGo_next hga (zGo_0 ha (by have := hta a; omega))) (zu_cong (zKd_is ha (by have := hta a; omega))) _ _ hP hD hS ls (lv_sub hl [0, 2, 3, 4] rfl)
            · skip
              refine z_iconst S dX10_readsOne_135 ?_
              refine z_goto (tgt := 140) S dX10_readsOne_136 (by decide) ?_
              refine z_iast S hK hP hD hS 6 rfl (by omega) dX10_readsOne_140 (fun H locs hP hD hS => ?_)
              have hP : zP E (mW E ad flt ppl kd vl nb fr tl (a + 1) rP (zu rk rP 1) rv rn rf rt can fw fs ss sl sh hd tr) H := hP
              have hD : va_D A (mW E ad flt ppl kd vl nb fr tl (a + 1) rP (zu rk rP 1) rv rn rf rt can fw fs ss sl sh hd tr) := hD
              exact HC_141 (a + 1) (zu rk rP 1) (by omega) (by omega) (zAllGo_next hga (zGo_0 ha (by have := hta a; omega))) (zu_cong (zKd_is ha (by have := hta a; omega))) _ _ hP hD hS ls (lv_sub hl [0, 2, 3, 4] rfl)
          · skip
            refine z_iconst S dX10_readsOne_125 ?_
            refine z_goto (tgt := 140) S dX10_readsOne_126 (by decide) ?_
            refine z_iast S hK hP hD hS 6 rfl (by omega) dX10_readsOne_140 (fun H locs hP hD hS => ?_)
            have hP : zP E (mW E ad flt ppl kd vl nb fr tl (a + 1) rP (zu rk rP 0) rv rn rf rt can fw fs ss sl sh hd tr) H := hP
            have hD : va_D A (mW E ad flt ppl kd vl nb fr tl (a + 1) rP (zu rk rP 0) rv rn rf rt can fw fs ss sl sh hd tr) := hD
            exact HC_141 (a + 1) (zu rk rP 0) (by omega) (by omega) (zAllGo_next hga (zGo_0 ha (by have := hta a; omega))) (zu_cong (zKd_is ha (by have := hta a; omega))) _ _ hP hD hS ls (lv_sub hl [0, 2, 3, 4] rfl)
        · skip
          refine lv_iload_n S.1 S.2.1 dX10_readsOne_89 rfl (lv_at hl 0 rfl) ?_
          refine z_bipush S (by decide +kernel) dX10_readsOne_90 ?_
          refine z_icmp_eq (tgt := 97) S dX10_readsOne_92 (by decide) (by omega) (fun c_92 => ?_) (fun c_92 => ?_)
          · skip
            refine lv_aload_n S.1 S.2.1 dX10_readsOne_97 rfl (lv_at hl 1 rfl) ?_
            refine lv_dup S.1 S.2.1 dX10_readsOne_98 rfl ?_
            refine z_get S hK hP 0 rfl rfl 7 (by decide) i_X10_readsOne_10 q_X10_readsOne_2 rfl dX10_readsOne_99 ?_
            refine z_iconst S dX10_readsOne_102 ?_
            refine z_iadd S dX10_readsOne_103 ?_
            refine z_puti S hK hP hD hS 0 rfl rfl 7 (by decide) i_X10_readsOne_10 q_X10_readsOne_2 tyX10 tyX10_ok nmX10 rfl (by decide +kernel) (Nat.le_of_ble_eq_true rfl) dX10_readsOne_104 (fun H locs hP hD hS => ?_)
            have hP : zP E (mW E ad flt ppl kd vl nb fr tl (a + 1) rP rk rv rn rf rt can fw fs ss sl sh hd tr) H := hP
            have hD : va_D A (mW E ad flt ppl kd vl nb fr tl (a + 1) rP rk rv rn rf rt can fw fs ss sl sh hd tr) := hD
            refine lv_aload_n S.1 S.2.1 dX10_readsOne_107 rfl (lv_at hl 1 rfl) ?_
            refine z_get S hK hP 0 rfl rfl 8 (by decide) i_X10_readsOne_10 q_X10_readsOne_1 rfl dX10_readsOne_108 ?_
            refine lv_istore (lv' := [(4, .int (jI (rP))), (3, .int (jI (sh (frm + a)))), (0, .ref (ad 0)), (1, .int (jI (frm))), (2, .int (jI (n)))]) S.1 S.2.1 dX10_readsOne_111 hl (by decide) rfl (fun ls hl => ?_)
            refine lv_aload_n S.1 S.2.1 dX10_readsOne_113 rfl (lv_at hl 2 rfl) ?_
            refine z_get S hK hP 0 rfl rfl 9 (by decide) i_X10_readsOne_10 q_X10_readsOne_4 rfl dX10_readsOne_114 ?_
            refine lv_iload S.1 S.2.1 dX10_readsOne_117 (lv_at hl 0 rfl) ?_
            refine lv_iload_n S.1 S.2.1 dX10_readsOne_119 rfl (lv_at hl 1 rfl) ?_
            refine z_bipush S (by decide +kernel) dX10_readsOne_120 ?_
            refine z_icmp_ne (tgt := 129) S dX10_readsOne_122 (by decide) (by omega) (fun c_122 => ?_) (fun c_122 => ?_)
            · skip
              refine lv_iload_n S.1 S.2.1 dX10_readsOne_129 rfl (lv_at hl 1 rfl) ?_
              refine z_bipush S (by decide +kernel) dX10_readsOne_130 ?_
              refine z_icmp_ne (tgt := 139) S dX10_readsOne_132 (by decide) (by omega) (fun c_132 => ?_) (fun c_132 => ?_)
              · skip
                refine z_iconst S dX10_readsOne_139 ?_
                refine z_iast S hK hP hD hS 6 rfl (by omega) dX10_readsOne_140 (fun H locs hP hD hS => ?_)
                have hP : zP E (mW E ad flt ppl kd vl nb fr tl (a + 1) rP (zu rk rP 2) rv rn rf rt can fw fs ss sl sh hd tr) H := hP
                have hD : va_D A (mW E ad flt ppl kd vl nb fr tl (a + 1) rP (zu rk rP 2) rv rn rf rt can fw fs ss sl sh hd tr) := hD
                exact HC_141 (a + 1) (zu rk rP 2) (by omega) (by omega) (zAllGo_next hga (zGo_0 ha (by have := hta a; omega))) (zu_cong (zKd_is ha (by have := hta a; omega))) _ _ hP hD hS ls (lv_sub hl [0, 2, 3, 4] rfl)
              · skip
                refine z_iconst S dX10_readsOne_135 ?_
                refine z_goto (tgt := 140) S dX10_readsOne_136 (by decide) ?_
                refine z_iast S hK hP hD hS 6 rfl (by omega) dX10_readsOne_140 (fun H locs hP hD hS => ?_)
                have hP : zP E (mW E ad flt ppl kd vl nb fr tl (a + 1) rP (zu rk rP 1) rv rn rf rt can fw fs ss sl sh hd tr) H := hP
                have hD : va_D A (mW E ad flt ppl kd vl nb fr tl (a + 1) rP (zu rk rP 1) rv rn rf rt can fw fs ss sl sh hd tr) := hD
                exact HC_141 (a + 1) (zu rk rP 1) (by omega) (by omega) (zAllGo_next hga (zGo_0 ha (by have := hta a; omega))) (zu_cong (zKd_is ha (by have := hta a; omega))) _ _ hP hD hS ls (lv_sub hl [0, 2, 3, 4] rfl)
            · skip
              refine z_iconst S dX10_readsOne_125 ?_
              refine z_goto (tgt := 140) S dX10_readsOne_126 (by decide) ?_
              refine z_iast S hK hP hD hS 6 rfl (by omega) dX10_readsOne_140 (fun H locs hP hD hS => ?_)
              have hP : zP E (mW E ad flt ppl kd vl nb fr tl (a + 1) rP (zu rk rP 0) rv rn rf rt can fw fs ss sl sh hd tr) H := hP
              have hD : va_D A (mW E ad flt ppl kd vl nb fr tl (a + 1) rP (zu rk rP 0) rv rn rf rt can fw fs ss sl sh hd tr) := hD
              exact HC_141 (a + 1) (zu rk rP 0) (by omega) (by omega) (zAllGo_next hga (zGo_0 ha (by have := hta a; omega))) (zu_cong (zKd_is ha (by have := hta a; omega))) _ _ hP hD hS ls (lv_sub hl [0, 2, 3, 4] rfl)
          · skip
            refine z_iconst S dX10_readsOne_95 ?_
            exact hQ (0) ((a, (rP, (rk, (rv, (rn, (rf, rt))))))) _ _ (by omega) (Or.inr ⟨rfl, zPar_0 (t := t) (n := n) ha (by omega) (by omega) hga (fun q => ⟨show t a ≠ 110 by have := hta a; omega, show t a ≠ 108 by have := hta a; omega, show t a ≠ 102 by have := hta a; omega⟩)⟩) hP hD hS _ _ dX10_readsOne_96
  refine lv_aload_n S.1 S.2.1 dX10_readsOne_0 rfl (lv_at hl 0 rfl) ?_
  refine z_get S hK hP 0 rfl rfl 8 (by decide) i_X10_readsOne_10 q_X10_readsOne_1 rfl dX10_readsOne_1 ?_
  refine z_if_le (tgt := 52) S dX10_readsOne_4 (by decide) (by omega) (fun c_4 => ?_) (fun c_4 => ?_)
  · skip
    exact HC_52 rA (by omega) (by omega) (by first | (rw [show rA = 0 by omega]; exact zall_0) | exact zAllGo_next hgo (zGo_8 (x := rP) (by omega) (by omega) (by have := hta rA; omega))) _ _ hP hD hS ls (lv_sub hl [0, 1, 2] rfl)
  · skip
    refine lv_aload_n S.1 S.2.1 dX10_readsOne_7 rfl (lv_at hl 0 rfl) ?_
    refine z_get S hK hP 0 rfl rfl 8 (by decide) i_X10_readsOne_10 q_X10_readsOne_1 rfl dX10_readsOne_8 ?_
    refine z_bipush S (by decide +kernel) dX10_readsOne_11 ?_
    refine z_icmp_eq (tgt := 40) S dX10_readsOne_13 (by decide) (by omega) (fun c_13 => ?_) (fun c_13 => ?_)
    · skip
      refine z_iconst S dX10_readsOne_40 ?_
      exact hQ (0) ((rA, (rP, (rk, (rv, (rn, (rf, rt))))))) _ _ (by omega) (Or.inr ⟨rfl, zPar_8 (t := t) (n := n) (x := rP) (by omega) (by omega) (by omega) hgo (show t rA ≠ 59 ∨ rP = 10 by have := hta rA; omega)⟩) hP hD hS _ _ dX10_readsOne_41
    · skip
      refine lv_aload_n S.1 S.2.1 dX10_readsOne_16 rfl (lv_at hl 0 rfl) ?_
      refine z_get S hK hP 0 rfl rfl 7 (by decide) i_X10_readsOne_10 q_X10_readsOne_2 rfl dX10_readsOne_17 ?_
      refine lv_iload_n S.1 S.2.1 dX10_readsOne_20 rfl (lv_at hl 2 rfl) ?_
      refine z_icmp_ge (tgt := 40) S dX10_readsOne_21 (by decide) (by omega) (fun c_21 => ?_) (fun c_21 => ?_)
      · skip
        refine z_iconst S dX10_readsOne_40 ?_
        exact hQ (0) ((rA, (rP, (rk, (rv, (rn, (rf, rt))))))) _ _ (by omega) (Or.inr ⟨rfl, zPar_8 (t := t) (n := n) (x := rP) (by omega) (by omega) (by omega) hgo (show t rA ≠ 59 ∨ rP = 10 by have := hta rA; omega)⟩) hP hD hS _ _ dX10_readsOne_41
      · skip
        refine lv_aload_n S.1 S.2.1 dX10_readsOne_24 rfl (lv_at hl 0 rfl) ?_
        refine z_get S hK hP 0 rfl rfl 19 (by decide) i_X10_readsOne_10 q_X10_readsOne_3 rfl dX10_readsOne_25 ?_
        refine lv_iload_n S.1 S.2.1 dX10_readsOne_28 rfl (lv_at hl 1 rfl) ?_
        refine lv_aload_n S.1 S.2.1 dX10_readsOne_29 rfl (lv_at hl 0 rfl) ?_
        refine z_get S hK hP 0 rfl rfl 7 (by decide) i_X10_readsOne_10 q_X10_readsOne_2 rfl dX10_readsOne_30 ?_
        refine z_iadd S dX10_readsOne_33 ?_
        refine z_iald S hK hP 16 rfl (by omega) dX10_readsOne_34 ?_
        have hf_7 := hcr ((frm + rA))
        refine z_bipush S (by decide +kernel) dX10_readsOne_35 ?_
        refine z_icmp_eq (tgt := 42) S dX10_readsOne_37 (by decide) (by omega) (fun c_37 => ?_) (fun c_37 => ?_)
        · skip
          refine lv_aload_n S.1 S.2.1 dX10_readsOne_42 rfl (lv_at hl 0 rfl) ?_
          refine lv_dup S.1 S.2.1 dX10_readsOne_43 rfl ?_
          refine z_get S hK hP 0 rfl rfl 7 (by decide) i_X10_readsOne_10 q_X10_readsOne_2 rfl dX10_readsOne_44 ?_
          refine z_iconst S dX10_readsOne_47 ?_
          refine z_iadd S dX10_readsOne_48 ?_
          refine z_puti S hK hP hD hS 0 rfl rfl 7 (by decide) i_X10_readsOne_10 q_X10_readsOne_2 tyX10 tyX10_ok nmX10 rfl (by decide +kernel) (Nat.le_of_ble_eq_true rfl) dX10_readsOne_49 (fun H locs hP hD hS => ?_)
          have hP : zP E (mW E ad flt ppl kd vl nb fr tl (rA + 1) rP rk rv rn rf rt can fw fs ss sl sh hd tr) H := hP
          have hD : va_D A (mW E ad flt ppl kd vl nb fr tl (rA + 1) rP rk rv rn rf rt can fw fs ss sl sh hd tr) := hD
          exact HC_52 (rA + 1) (by omega) (by omega) (by first | (rw [show rA = 0 by omega]; exact zall_0) | exact zAllGo_next hgo (zGo_8 (x := rP) (by omega) (by omega) (by have := hta rA; omega))) _ _ hP hD hS ls (lv_sub hl [0, 1, 2] rfl)
        · skip
          refine z_iconst S dX10_readsOne_40 ?_
          exact hQ (0) ((rA, (rP, (rk, (rv, (rn, (rf, rt))))))) _ _ (by omega) (Or.inr ⟨rfl, zPar_8 (t := t) (n := n) (x := rP) (by omega) (by omega) (by omega) hgo (show t rA ≠ 59 ∨ rP = 10 by have := hta rA; omega)⟩) hP hD hS _ _ dX10_readsOne_41
