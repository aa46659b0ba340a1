theorem hs_X10_noSheet : yX10_noSheet.cls ≠ "java/lang/invoke/MethodHandle" ∧ yX10_noSheet.cls ≠ "java/lang/invoke/VarHandle" ∧ (parseMethodDescriptor yX10_noSheet.desc).map (fun d => d.parameters.length) = some 1 := by decide +kernel
theorem q_X10_barred_1 : Cond.constantLong RX10 80 (2) ∈ wsX10_barred := List.mem_of_getElem? (i := 1) rfl
theorem hv_X10_refused : yX10_refused.cls = RX10 ∧ yX10_refused.cls ≠ "java/lang/invoke/MethodHandle" ∧ yX10_refused.cls ≠ "java/lang/invoke/VarHandle" ∧ (parseMethodDescriptor yX10_refused.desc).map (fun d => d.parameters.length) = some 1 := by decide +kernel
theorem i_X10_barred_10 : ∀ w ∈ u_ws RX10 TX10 22, w ∈ wsX10_barred := fun w h => List.mem_cons_of_mem _ (List.mem_append_right _ h)
theorem q_X10_barred_2 : Cond.fieldLink RX10 50 "LivingNumbersModel" "sheetSize" "[I" ∈ wsX10_barred := List.mem_of_getElem? (i := 2) rfl
theorem hs_X10_isBeyond : yX10_isBeyond.cls ≠ "java/lang/invoke/MethodHandle" ∧ yX10_isBeyond.cls ≠ "java/lang/invoke/VarHandle" ∧ (parseMethodDescriptor yX10_isBeyond.desc).map (fun d => d.parameters.length) = some 3 := by decide +kernel
theorem hv_X10_failed : yX10_failed.cls = RX10 ∧ yX10_failed.cls ≠ "java/lang/invoke/MethodHandle" ∧ yX10_failed.cls ≠ "java/lang/invoke/VarHandle" ∧ (parseMethodDescriptor yX10_failed.desc).map (fun d => d.parameters.length) = some 1 := by decide +kernel
theorem q_X10_barred_3 : Cond.fieldLink RX10 53 "LivingNumbersModel" "sheetLane" "[I" ∈ wsX10_barred := List.mem_of_getElem? (i := 3) rfl
theorem i_X10_arePeople_10 : ∀ w ∈ u_ws RX10 TX10 22, w ∈ wsX10_arePeople := fun w h => List.mem_cons_of_mem _ (List.mem_append_right _ h)
theorem q_X10_arePeople_1 : Cond.fieldLink RX10 56 "LivingNumbersModel" "sheet" "[I" ∈ wsX10_arePeople := List.mem_of_getElem? (i := 1) rfl
theorem hv_X10_barred : yX10_barred.cls = RX10 ∧ yX10_barred.cls ≠ "java/lang/invoke/MethodHandle" ∧ yX10_barred.cls ≠ "java/lang/invoke/VarHandle" ∧ (parseMethodDescriptor yX10_barred.desc).map (fun d => d.parameters.length) = some 5 := by decide +kernel
theorem hv_X10_arePeople : yX10_arePeople.cls = RX10 ∧ yX10_arePeople.cls ≠ "java/lang/invoke/MethodHandle" ∧ yX10_arePeople.cls ≠ "java/lang/invoke/VarHandle" ∧ (parseMethodDescriptor yX10_arePeople.desc).map (fun d => d.parameters.length) = some 2 := by decide +kernel
theorem i_X10_meant_10 : ∀ w ∈ u_ws RX10 TX10 22, w ∈ wsX10_meant := fun w h => List.mem_cons_of_mem _ (List.mem_append_right _ h)
theorem q_X10_meant_1 : Cond.fieldLink RX10 56 "LivingNumbersModel" "sheet" "[I" ∈ wsX10_meant := List.mem_of_getElem? (i := 1) rfl
theorem q_X10_meant_2 : Cond.fieldLink RX10 16 "LivingNumbersModel" "numberOf" "[I" ∈ wsX10_meant := List.mem_of_getElem? (i := 2) rfl
theorem hv_X10_rowBarred : yX10_rowBarred.cls = RX10 ∧ yX10_rowBarred.cls ≠ "java/lang/invoke/MethodHandle" ∧ yX10_rowBarred.cls ≠ "java/lang/invoke/VarHandle" ∧ (parseMethodDescriptor yX10_rowBarred.desc).map (fun d => d.parameters.length) = some 6 := by decide +kernel
theorem hv_X10_meant : yX10_meant.cls = RX10 ∧ yX10_meant.cls ≠ "java/lang/invoke/MethodHandle" ∧ yX10_meant.cls ≠ "java/lang/invoke/VarHandle" ∧ (parseMethodDescriptor yX10_meant.desc).map (fun d => d.parameters.length) = some 4 := by decide +kernel
set_option maxHeartbeats 1000000 in
set_option maxRecDepth 20000 in
theorem c_X10_barred (l : Launch) (E : zE) (ad : Nat → Nat) (flt ppl : Int) (kd vl nb fr tl : Int → Int) (rA rP : Int) (rk rv rn rf rt can fw fs ss sl sh hd : Int → Int) (tr : Int) (k : Int) (lane : Int) (i : Int) (n : Int) (told : Int) (h_k : -2147483648 ≤ k ∧ k ≤ 2147483647) (h_lane : -2147483648 ≤ lane ∧ lane ≤ 2147483647) (h_i : -2147483648 ≤ i ∧ i ≤ 2147483647) (h_n : -2147483648 ≤ n ∧ n ≤ 2147483647) (ht : told = 0 ∨ told = 1) (hsh : zShe ss sl) : zMi l E yX10_barred wsX10_barred (zr 3 0 0) [.ref (ad 0), .int (jI (k)), .int (jI (lane)), .int (jI (i)), .long (jL (n)), .int (jI (told))] (mW E ad flt ppl kd vl nb fr tl rA rP rk rv rn rf rt can fw fs ss sl sh hd tr) (fun _ => True) (fun r (u : Int) => (r < 0 ∧ zBar ss sl k lane i n (told ≠ 0) r u) ∨ (r = 0 ∧ zBar ss sl k lane i n (told ≠ 0) 0 0 ∧ u = flt)) (fun (u : Int) => mW E ad u ppl kd vl nb fr tl rA rP rk rv rn rf rt can fw fs ss sl sh hd tr) 0 0 := by
  refine zMi_of (own := RX10) (cc := cX10_barred) (maxL := 7) (by decide) rfl (Nat.le_of_ble_eq_true rfl) rfl ?_
  intro p e s m args below meth c Q A S hK hA hS hP hD hAe hG hQ ls hl
  have hl : lv_has ls 7 [(0, .ref (ad 0)), (1, .int (jI (k))), (2, .int (jI (lane))), (3, .int (jI (i))), (4, .long (jL (n))), (6, .int (jI (told)))] := hl
  refine lv_iload_n S.1 S.2.1 dX10_barred_0 rfl (lv_at hl 1 rfl) ?_
  refine z_ri (z_rS S hK (c_X10_noSheet l E k (by omega)) gX10_barred_X10_noSheet rfl hs_X10_noSheet ⟨Nat.le_of_ble_eq_true rfl, Nat.le_of_ble_eq_true rfl⟩ trivial hl.1 rfl (Nat.le_of_ble_eq_true rfl) ⟨by decide, by decide⟩ rfl dX10_barred_1) (fun r_1 h_1 => ?_)
  refine z_if_eq (tgt := 13) S dX10_barred_4 (by decide) (by omega) (fun c_4 => ?_) (fun c_4 => ?_)
  · skip
    refine lv_iload_n S.1 S.2.1 dX10_barred_13 rfl (lv_at hl 2 rfl) ?_
    refine z_i2l S (by omega) dX10_barred_14 ?_
    refine z_lconst (z := 0) S (by decide +kernel) dX10_barred_15 ?_
    refine z_ldc2 (n := 2) S q_X10_barred_1 (by decide +kernel) dX10_barred_16 ?_
    refine z_ri (z_rS S hK (c_X10_in l E lane 0 2 (by omega) (by omega) (by omega)) gX10_barred_X10_in rfl hs_X10_in ⟨Nat.le_of_ble_eq_true rfl, Nat.le_of_ble_eq_true rfl⟩ trivial hl.1 rfl (Nat.le_of_ble_eq_true rfl) ⟨by decide, by decide⟩ rfl dX10_barred_19) (fun r_19 h_19 => ?_)
    refine z_if_eq (tgt := 30) S dX10_barred_22 (by decide) (by omega) (fun c_22 => ?_) (fun c_22 => ?_)
    · skip
      refine lv_aload_n S.1 S.2.1 dX10_barred_30 rfl (lv_at hl 0 rfl) ?_
      refine z_bipush S (by decide +kernel) dX10_barred_31 ?_
      refine z_miw (z_mV S hK (c_X10_refused l E ad flt ppl kd vl nb fr tl rA rP rk rv rn rf rt can fw fs ss sl sh hd tr (-2) _) gX10_barred_X10_refused rfl hv_X10_refused ⟨Nat.le_of_ble_eq_true rfl, Nat.le_of_ble_eq_true rfl⟩ (va_recv hK hP (ci := 10) (q0 := 0) rfl rfl) hP hD trivial hl.1 rfl (Nat.le_of_ble_eq_true rfl) ⟨by decide, by decide⟩ rfl dX10_barred_33) hD hS hA (fun r_33 u H locs h_33 hP hD hS => ?_)
      rw [h_33]
      have hP : zP E (mW E ad 0 ppl kd vl nb fr tl rA rP rk rv rn rf rt can fw fs ss sl sh hd tr) H := hP
      have hD : va_D A (mW E ad 0 ppl kd vl nb fr tl rA rP rk rv rn rf rt can fw fs ss sl sh hd tr) := hD
      exact hQ (((-2))) (0) _ _ (Or.inl ⟨by omega, zBar_o (by omega) (by omega)⟩) hP hD hS _ _ dX10_barred_36
    · skip
      refine lv_iload S.1 S.2.1 dX10_barred_25 (lv_at hl 5 rfl) ?_
      refine z_if_ne (tgt := 37) S dX10_barred_27 (by decide) (by omega) (fun c_27 => ?_) (fun c_27 => ?_)
      · skip
        refine lv_aload_n S.1 S.2.1 dX10_barred_37 rfl (lv_at hl 0 rfl) ?_
        refine z_get S hK hP 0 rfl rfl 17 (by decide) i_X10_barred_10 q_X10_barred_2 rfl dX10_barred_38 ?_
        refine lv_iload_n S.1 S.2.1 dX10_barred_41 rfl (lv_at hl 1 rfl) ?_
        refine z_iald S hK hP 14 rfl (by omega) dX10_barred_42 ?_
        have hf_1 := hsh (k) (by omega) (by omega)
        refine z_if_lt (tgt := 62) S dX10_barred_43 (by decide) (by omega) (fun c_43 => ?_) (fun c_43 => ?_)
        · skip
          refine lv_aload_n S.1 S.2.1 dX10_barred_62 rfl (lv_at hl 0 rfl) ?_
          refine z_get S hK hP 0 rfl rfl 17 (by decide) i_X10_barred_10 q_X10_barred_2 rfl dX10_barred_63 ?_
          refine lv_iload_n S.1 S.2.1 dX10_barred_66 rfl (lv_at hl 1 rfl) ?_
          refine z_iald S hK hP 14 rfl (by omega) dX10_barred_67 ?_
          have hf_2 := hsh (k) (by omega) (by omega)
          refine z_if_ge (tgt := 77) S dX10_barred_68 (by decide) (by omega) (fun c_68 => ?_) (fun c_68 => ?_)
          · skip
            refine lv_lload S.1 S.2.1 dX10_barred_77 (lv_at hl 4 rfl) ?_
            refine z_lconst (z := 0) S (by decide +kernel) dX10_barred_79 ?_
            refine z_lcmp S (by omega) dX10_barred_80 (fun v_3 hv_4 => ?_)
            refine z_if_ge (tgt := 90) S dX10_barred_81 (by decide) (by omega) (fun c_81 => ?_) (fun c_81 => ?_)
            · skip
              refine lv_iload_n S.1 S.2.1 dX10_barred_90 rfl (lv_at hl 3 rfl) ?_
              refine lv_lload S.1 S.2.1 dX10_barred_91 (lv_at hl 4 rfl) ?_
              refine lv_aload_n S.1 S.2.1 dX10_barred_93 rfl (lv_at hl 0 rfl) ?_
              refine z_get S hK hP 0 rfl rfl 17 (by decide) i_X10_barred_10 q_X10_barred_2 rfl dX10_barred_94 ?_
              refine lv_iload_n S.1 S.2.1 dX10_barred_97 rfl (lv_at hl 1 rfl) ?_
              refine z_iald S hK hP 14 rfl (by omega) dX10_barred_98 ?_
              have hf_5 := hsh (k) (by omega) (by omega)
              refine z_ri (z_rS S hK (c_X10_isBeyond l E i n (ss (k)) (by omega) (by omega) (by omega)) gX10_barred_X10_isBeyond rfl hs_X10_isBeyond ⟨Nat.le_of_ble_eq_true rfl, Nat.le_of_ble_eq_true rfl⟩ trivial hl.1 rfl (Nat.le_of_ble_eq_true rfl) ⟨by decide, by decide⟩ rfl dX10_barred_99) (fun r_99 h_99 => ?_)
              refine z_if_eq (tgt := 113) S dX10_barred_102 (by decide) (by omega) (fun c_102 => ?_) (fun c_102 => ?_)
              · skip
                refine z_iconst S dX10_barred_113 ?_
                exact hQ (0) (flt) _ _ (by first | exact Or.inr ⟨rfl, zBar_0 (by omega) (by omega) (by omega) (by omega) (by omega), rfl⟩ | exact Or.inl ⟨by omega, zBar_i (by omega) (by omega) (by omega) (by omega) (by omega)⟩) hP hD hS _ _ dX10_barred_114
              · skip
                refine lv_aload_n S.1 S.2.1 dX10_barred_105 rfl (lv_at hl 0 rfl) ?_
                refine z_iconst S dX10_barred_106 ?_
                refine z_miw (z_mV S hK (c_X10_failed l E ad flt ppl kd vl nb fr tl rA rP rk rv rn rf rt can fw fs ss sl sh hd tr 3 _) gX10_barred_X10_failed rfl hv_X10_failed ⟨Nat.le_of_ble_eq_true rfl, Nat.le_of_ble_eq_true rfl⟩ (va_recv hK hP (ci := 10) (q0 := 0) rfl rfl) hP hD trivial hl.1 rfl (Nat.le_of_ble_eq_true rfl) ⟨by decide, by decide⟩ rfl dX10_barred_107) hD hS hA (fun r_107 u H locs h_107 hP hD hS => ?_)
                rw [h_107]
                have hP : zP E (mW E ad 3 ppl kd vl nb fr tl rA rP rk rv rn rf rt can fw fs ss sl sh hd tr) H := hP
                have hD : va_D A (mW E ad 3 ppl kd vl nb fr tl rA rP rk rv rn rf rt can fw fs ss sl sh hd tr) := hD
                refine z_goto (tgt := 114) S dX10_barred_110 (by decide) ?_
                exact hQ (-10 - 3) (3) _ _ (by first | exact Or.inr ⟨rfl, zBar_0 (by omega) (by omega) (by omega) (by omega) (by omega), rfl⟩ | exact Or.inl ⟨by omega, zBar_i (by omega) (by omega) (by omega) (by omega) (by omega)⟩) hP hD hS _ _ dX10_barred_114
            · skip
              refine lv_aload_n S.1 S.2.1 dX10_barred_84 rfl (lv_at hl 0 rfl) ?_
              refine z_iconst S dX10_barred_85 ?_
              refine z_miw (z_mV S hK (c_X10_failed l E ad flt ppl kd vl nb fr tl rA rP rk rv rn rf rt can fw fs ss sl sh hd tr 4 _) gX10_barred_X10_failed rfl hv_X10_failed ⟨Nat.le_of_ble_eq_true rfl, Nat.le_of_ble_eq_true rfl⟩ (va_recv hK hP (ci := 10) (q0 := 0) rfl rfl) hP hD trivial hl.1 rfl (Nat.le_of_ble_eq_true rfl) ⟨by decide, by decide⟩ rfl dX10_barred_86) hD hS hA (fun r_86 u H locs h_86 hP hD hS => ?_)
              rw [h_86]
              have hP : zP E (mW E ad 4 ppl kd vl nb fr tl rA rP rk rv rn rf rt can fw fs ss sl sh hd tr) H := hP
              have hD : va_D A (mW E ad 4 ppl kd vl nb fr tl rA rP rk rv rn rf rt can fw fs ss sl sh hd tr) := hD
              exact hQ (-10 - 4) (4) _ _ (Or.inl ⟨by omega, zBar_s (by omega) (by omega) (by omega) (by omega) (by omega)⟩) hP hD hS _ _ dX10_barred_89
          · skip
            refine lv_aload_n S.1 S.2.1 dX10_barred_71 rfl (lv_at hl 0 rfl) ?_
            refine z_iconst S dX10_barred_72 ?_
            refine z_miw (z_mV S hK (c_X10_failed l E ad flt ppl kd vl nb fr tl rA rP rk rv rn rf rt can fw fs ss sl sh hd tr 1 _) gX10_barred_X10_failed rfl hv_X10_failed ⟨Nat.le_of_ble_eq_true rfl, Nat.le_of_ble_eq_true rfl⟩ (va_recv hK hP (ci := 10) (q0 := 0) rfl rfl) hP hD trivial hl.1 rfl (Nat.le_of_ble_eq_true rfl) ⟨by decide, by decide⟩ rfl dX10_barred_73) hD hS hA (fun r_73 u H locs h_73 hP hD hS => ?_)
            rw [h_73]
            have hP : zP E (mW E ad 1 ppl kd vl nb fr tl rA rP rk rv rn rf rt can fw fs ss sl sh hd tr) H := hP
            have hD : va_D A (mW E ad 1 ppl kd vl nb fr tl rA rP rk rv rn rf rt can fw fs ss sl sh hd tr) := hD
            exact hQ (-10 - 1) (1) _ _ (Or.inl ⟨by omega, zBar_n (by omega) (by omega) (by omega) (by omega)⟩) hP hD hS _ _ dX10_barred_76
        · skip
          refine lv_aload_n S.1 S.2.1 dX10_barred_46 rfl (lv_at hl 0 rfl) ?_
          refine z_get S hK hP 0 rfl rfl 18 (by decide) i_X10_barred_10 q_X10_barred_3 rfl dX10_barred_47 ?_
          refine lv_iload_n S.1 S.2.1 dX10_barred_50 rfl (lv_at hl 1 rfl) ?_
          refine z_iald S hK hP 15 rfl (by omega) dX10_barred_51 ?_
          have hf_6 := hsh (k) (by omega) (by omega)
          refine lv_iload_n S.1 S.2.1 dX10_barred_52 rfl (lv_at hl 2 rfl) ?_
          refine z_icmp_eq (tgt := 62) S dX10_barred_53 (by decide) (by omega) (fun c_53 => ?_) (fun c_53 => ?_)
          · skip
            refine lv_aload_n S.1 S.2.1 dX10_barred_62 rfl (lv_at hl 0 rfl) ?_
            refine z_get S hK hP 0 rfl rfl 17 (by decide) i_X10_barred_10 q_X10_barred_2 rfl dX10_barred_63 ?_
            refine lv_iload_n S.1 S.2.1 dX10_barred_66 rfl (lv_at hl 1 rfl) ?_
            refine z_iald S hK hP 14 rfl (by omega) dX10_barred_67 ?_
            have hf_7 := hsh (k) (by omega) (by omega)
            refine z_if_ge (tgt := 77) S dX10_barred_68 (by decide) (by omega) (fun c_68 => ?_) (fun c_68 => ?_)
            · skip
              refine lv_lload S.1 S.2.1 dX10_barred_77 (lv_at hl 4 rfl) ?_
              refine z_lconst (z := 0) S (by decide +kernel) dX10_barred_79 ?_
              refine z_lcmp S (by omega) dX10_barred_80 (fun v_8 hv_9 => ?_)
              refine z_if_ge (tgt := 90) S dX10_barred_81 (by decide) (by omega) (fun c_81 => ?_) (fun c_81 => ?_)
              · skip
                refine lv_iload_n S.1 S.2.1 dX10_barred_90 rfl (lv_at hl 3 rfl) ?_
                refine lv_lload S.1 S.2.1 dX10_barred_91 (lv_at hl 4 rfl) ?_
                refine lv_aload_n S.1 S.2.1 dX10_barred_93 rfl (lv_at hl 0 rfl) ?_
                refine z_get S hK hP 0 rfl rfl 17 (by decide) i_X10_barred_10 q_X10_barred_2 rfl dX10_barred_94 ?_
                refine lv_iload_n S.1 S.2.1 dX10_barred_97 rfl (lv_at hl 1 rfl) ?_
                refine z_iald S hK hP 14 rfl (by omega) dX10_barred_98 ?_
                have hf_10 := hsh (k) (by omega) (by omega)
                refine z_ri (z_rS S hK (c_X10_isBeyond l E i n (ss (k)) (by omega) (by omega) (by omega)) gX10_barred_X10_isBeyond rfl hs_X10_isBeyond ⟨Nat.le_of_ble_eq_true rfl, Nat.le_of_ble_eq_true rfl⟩ trivial hl.1 rfl (Nat.le_of_ble_eq_true rfl) ⟨by decide, by decide⟩ rfl dX10_barred_99) (fun r_99 h_99 => ?_)
                refine z_if_eq (tgt := 113) S dX10_barred_102 (by decide) (by omega) (fun c_102 => ?_) (fun c_102 => ?_)
                · skip
                  refine z_iconst S dX10_barred_113 ?_
                  exact hQ (0) (flt) _ _ (by first | exact Or.inr ⟨rfl, zBar_0 (by omega) (by omega) (by omega) (by omega) (by omega), rfl⟩ | exact Or.inl ⟨by omega, zBar_i (by omega) (by omega) (by omega) (by omega) (by omega)⟩) hP hD hS _ _ dX10_barred_114
                · skip
                  refine lv_aload_n S.1 S.2.1 dX10_barred_105 rfl (lv_at hl 0 rfl) ?_
                  refine z_iconst S dX10_barred_106 ?_
                  refine z_miw (z_mV S hK (c_X10_failed l E ad flt ppl kd vl nb fr tl rA rP rk rv rn rf rt can fw fs ss sl sh hd tr 3 _) gX10_barred_X10_failed rfl hv_X10_failed ⟨Nat.le_of_ble_eq_true rfl, Nat.le_of_ble_eq_true rfl⟩ (va_recv hK hP (ci := 10) (q0 := 0) rfl rfl) hP hD trivial hl.1 rfl (Nat.le_of_ble_eq_true rfl) ⟨by decide, by decide⟩ rfl dX10_barred_107) hD hS hA (fun r_107 u H locs h_107 hP hD hS => ?_)
                  rw [h_107]
                  have hP : zP E (mW E ad 3 ppl kd vl nb fr tl rA rP rk rv rn rf rt can fw fs ss sl sh hd tr) H := hP
                  have hD : va_D A (mW E ad 3 ppl kd vl nb fr tl rA rP rk rv rn rf rt can fw fs ss sl sh hd tr) := hD
                  refine z_goto (tgt := 114) S dX10_barred_110 (by decide) ?_
                  exact hQ (-10 - 3) (3) _ _ (by first | exact Or.inr ⟨rfl, zBar_0 (by omega) (by omega) (by omega) (by omega) (by omega), rfl⟩ | exact Or.inl ⟨by omega, zBar_i (by omega) (by omega) (by omega) (by omega) (by omega)⟩) hP hD hS _ _ dX10_barred_114
              · skip
                refine lv_aload_n S.1 S.2.1 dX10_barred_84 rfl (lv_at hl 0 rfl) ?_
                refine z_iconst S dX10_barred_85 ?_
                refine z_miw (z_mV S hK (c_X10_failed l E ad flt ppl kd vl nb fr tl rA rP rk rv rn rf rt can fw fs ss sl sh hd tr 4 _) gX10_barred_X10_failed rfl hv_X10_failed ⟨Nat.le_of_ble_eq_true rfl, Nat.le_of_ble_eq_true rfl⟩ (va_recv hK hP (ci := 10) (q0 := 0) rfl rfl) hP hD trivial hl.1 rfl (Nat.le_of_ble_eq_true rfl) ⟨by decide, by decide⟩ rfl dX10_barred_86) hD hS hA (fun r_86 u H locs h_86 hP hD hS => ?_)
                rw [h_86]
                have hP : zP E (mW E ad 4 ppl kd vl nb fr tl rA rP rk rv rn rf rt can fw fs ss sl sh hd tr) H := hP
                have hD : va_D A (mW E ad 4 ppl kd vl nb fr tl rA rP rk rv rn rf rt can fw fs ss sl sh hd tr) := hD
                exact hQ (-10 - 4) (4) _ _ (Or.inl ⟨by omega, zBar_s (by omega) (by omega) (by omega) (by omega) (by omega)⟩) hP hD hS _ _ dX10_barred_89
            · skip
              refine lv_aload_n S.1 S.2.1 dX10_barred_71 rfl (lv_at hl 0 rfl) ?_
              refine z_iconst S dX10_barred_72 ?_
              refine z_miw (z_mV S hK (c_X10_failed l E ad flt ppl kd vl nb fr tl rA rP rk rv rn rf rt can fw fs ss sl sh hd tr 1 _) gX10_barred_X10_failed rfl hv_X10_failed ⟨Nat.le_of_ble_eq_true rfl, Nat.le_of_ble_eq_true rfl⟩ (va_recv hK hP (ci := 10) (q0 := 0) rfl rfl) hP hD trivial hl.1 rfl (Nat.le_of_ble_eq_true rfl) ⟨by decide, by decide⟩ rfl dX10_barred_73) hD hS hA (fun r_73 u H locs h_73 hP hD hS => ?_)
              rw [h_73]
              have hP : zP E (mW E ad 1 ppl kd vl nb fr tl rA rP rk rv rn rf rt can fw fs ss sl sh hd tr) H := hP
              have hD : va_D A (mW E ad 1 ppl kd vl nb fr tl rA rP rk rv rn rf rt can fw fs ss sl sh hd tr) := hD
              exact hQ (-10 - 1) (1) _ _ (Or.inl ⟨by omega, zBar_n (by omega) (by omega) (by omega) (by omega)⟩) hP hD hS _ _ dX10_barred_76
          · skip
            refine lv_aload_n S.1 S.2.1 dX10_barred_56 rfl (lv_at hl 0 rfl) ?_
            refine z_iconst S dX10_barred_57 ?_
            refine z_miw (z_mV S hK (c_X10_failed l E ad flt ppl kd vl nb fr tl rA rP rk rv rn rf rt can fw fs ss sl sh hd tr 2 _) gX10_barred_X10_failed rfl hv_X10_failed ⟨Nat.le_of_ble_eq_true rfl, Nat.le_of_ble_eq_true rfl⟩ (va_recv hK hP (ci := 10) (q0 := 0) rfl rfl) hP hD trivial hl.1 rfl (Nat.le_of_ble_eq_true rfl) ⟨by decide, by decide⟩ rfl dX10_barred_58) hD hS hA (fun r_58 u H locs h_58 hP hD hS => ?_)
            rw [h_58]
            have hP : zP E (mW E ad 2 ppl kd vl nb fr tl rA rP rk rv rn rf rt can fw fs ss sl sh hd tr) H := hP
            have hD : va_D A (mW E ad 2 ppl kd vl nb fr tl rA rP rk rv rn rf rt can fw fs ss sl sh hd tr) := hD
            exact hQ (-10 - 2) (2) _ _ (Or.inl ⟨by omega, zBar_c (by omega) (by omega) (by omega) (by omega)⟩) hP hD hS _ _ dX10_barred_61
      · skip
        refine lv_aload_n S.1 S.2.1 dX10_barred_30 rfl (lv_at hl 0 rfl) ?_
        refine z_bipush S (by decide +kernel) dX10_barred_31 ?_
        refine z_miw (z_mV S hK (c_X10_refused l E ad flt ppl kd vl nb fr tl rA rP rk rv rn rf rt can fw fs ss sl sh hd tr (-2) _) gX10_barred_X10_refused rfl hv_X10_refused ⟨Nat.le_of_ble_eq_true rfl, Nat.le_of_ble_eq_true rfl⟩ (va_recv hK hP (ci := 10) (q0 := 0) rfl rfl) hP hD trivial hl.1 rfl (Nat.le_of_ble_eq_true rfl) ⟨by decide, by decide⟩ rfl dX10_barred_33) hD hS hA (fun r_33 u H locs h_33 hP hD hS => ?_)
        rw [h_33]
        have hP : zP E (mW E ad 0 ppl kd vl nb fr tl rA rP rk rv rn rf rt can fw fs ss sl sh hd tr) H := hP
        have hD : va_D A (mW E ad 0 ppl kd vl nb fr tl rA rP rk rv rn rf rt can fw fs ss sl sh hd tr) := hD
        exact hQ (((-2))) (0) _ _ (Or.inl ⟨by omega, zBar_o (by omega) (by omega)⟩) hP hD hS _ _ dX10_barred_36
  · skip
    refine lv_aload_n S.1 S.2.1 dX10_barred_7 rfl (lv_at hl 0 rfl) ?_
    refine z_iconst S dX10_barred_8 ?_
    refine z_miw (z_mV S hK (c_X10_refused l E ad flt ppl kd vl nb fr tl rA rP rk rv rn rf rt can fw fs ss sl sh hd tr (-1) _) gX10_barred_X10_refused rfl hv_X10_refused ⟨Nat.le_of_ble_eq_true rfl, Nat.le_of_ble_eq_true rfl⟩ (va_recv hK hP (ci := 10) (q0 := 0) rfl rfl) hP hD trivial hl.1 rfl (Nat.le_of_ble_eq_true rfl) ⟨by decide, by decide⟩ rfl dX10_barred_9) hD hS hA (fun r_9 u H locs h_9 hP hD hS => ?_)
    rw [h_9]
    have hP : zP E (mW E ad 0 ppl kd vl nb fr tl rA rP rk rv rn rf rt can fw fs ss sl sh hd tr) H := hP
    have hD : va_D A (mW E ad 0 ppl kd vl nb fr tl rA rP rk rv rn rf rt can fw fs ss sl sh hd tr) := hD
    exact hQ (((-1))) (0) _ _ (Or.inl ⟨by omega, zBar_k (by omega)⟩) hP hD hS _ _ dX10_barred_12

set_option maxHeartbeats 1000000 in
set_option maxRecDepth 20000 in
theorem c_X10_arePeople (l : Launch) (E : zE) (ad : Nat → Nat) (flt ppl : Int) (kd vl nb fr tl : Int → Int) (rA rP : Int) (rk rv rn rf rt can fw fs ss sl sh hd : Int → Int) (tr : Int) (frm : Int) (n : Int) (hf : 0 ≤ frm ∧ 0 ≤ n ∧ frm + n ≤ 400) (hp : 0 ≤ ppl ∧ ppl ≤ 10) (hcr : zRg sh) : zRi l E yX10_arePeople wsX10_arePeople (zr 3 0 0) [.ref (ad 0), .int (jI (frm)), .int (jI (n))] (fun H => zP E (mW E ad flt ppl kd vl nb fr tl rA rP rk rv rn rf rt can fw fs ss sl sh hd tr) H) (fun r => (r = 1 ∧ (zPpl ppl (fun j => sh (frm + j)) n)) ∨ (r = 0 ∧ ¬ (zPpl ppl (fun j => sh (frm + j)) n))) := by
  refine zRz_of (own := RX10) (cc := cX10_arePeople) (maxL := 5) (by decide) rfl (Nat.le_of_ble_eq_true rfl) rfl ?_
  intro p e s m args below meth c Q S hK hP hQ ls hl
  have hl : lv_has ls 5 [(0, .ref (ad 0)), (1, .int (jI (frm))), (2, .int (jI (n)))] := hl
  refine z_iconst S dX10_arePeople_0 ?_
  refine lv_istore_n (lv' := [(3, .int (jI (1))), (0, .ref (ad 0)), (1, .int (jI (frm))), (2, .int (jI (n)))]) S.1 S.2.1 dX10_arePeople_1 rfl hl (by decide) rfl (fun ls hl => ?_)
  refine z_iconst S dX10_arePeople_2 ?_
  refine lv_istore (lv' := [(4, .int (jI (0))), (3, .int (jI (1))), (0, .ref (ad 0)), (1, .int (jI (frm))), (2, .int (jI (n)))]) S.1 S.2.1 dX10_arePeople_3 hl (by decide) rfl (fun ls hl => ?_)
  suffices HL_1 : ∀ (n_2 : Nat) (j : Int) (a : Int), (n - j).toNat < n_2 → (0 ≤ j ∧ j ≤ n) → ((a = 1 ∧ zPpl ppl (fun j => sh (frm + j)) j) ∨ (a = 0 ∧ ¬ zPpl ppl (fun j => sh (frm + j)) j)) → ∀ (ls : Array Slot), lv_has ls 5 [(4, .int (jI (j))), (3, .int (jI (a))), (0, .ref (ad 0)), (1, .int (jI (frm))), (2, .int (jI (n)))] → W p l e (zr 3 0 0) s m args below meth c s.heap [] 0 0 Q (F0 m 5 ls []) from
    HL_1 _ 0 1 (Nat.lt_succ_self _) (by omega) (Or.inl ⟨rfl, zall_0⟩) ls (lv_sub hl [0, 1, 2, 3, 4] rfl)
  intro n_2
  induction n_2 with
  | zero => intro j a hm hj ha; exact absurd hm (Nat.not_lt_zero _)
  | succ n_2 ih_3 =>
    intro j a hm hj ha ls hl
    refine lv_iload S.1 S.2.1 dX10_arePeople_5 (lv_at hl 0 rfl) ?_
    refine lv_iload_n S.1 S.2.1 dX10_arePeople_7 rfl (lv_at hl 4 rfl) ?_
    refine z_icmp_ge (tgt := 43) S dX10_arePeople_8 (by decide) (by omega) (fun c_8 => ?_) (fun c_8 => ?_)
    · skip
      refine lv_iload_n S.1 S.2.1 dX10_arePeople_43 rfl (lv_at hl 1 rfl) ?_
      exact hQ (a) (by omega) (by rw [show n = j by omega]; exact ha) _ _ dX10_arePeople_44
    · skip
      refine lv_iload_n S.1 S.2.1 dX10_arePeople_11 rfl (lv_at hl 1 rfl) ?_
      refine z_if_eq (tgt := 35) S dX10_arePeople_12 (by decide) (by omega) (fun c_12 => ?_) (fun c_12 => ?_)
      · skip
        refine z_iconst S dX10_arePeople_35 ?_
        refine lv_istore_n (lv' := [(3, .int (jI (0))), (4, .int (jI (j))), (0, .ref (ad 0)), (1, .int (jI (frm))), (2, .int (jI (n)))]) S.1 S.2.1 dX10_arePeople_36 rfl hl (by decide) rfl (fun ls hl => ?_)
        refine z_iinc (lv' := [(4, .int (jI (j + 1))), (3, .int (jI (0))), (0, .ref (ad 0)), (1, .int (jI (frm))), (2, .int (jI (n)))]) S hl (k := 1) rfl (by decide) rfl dX10_arePeople_37 (fun ls hl => ?_)
        refine z_goto (tgt := 5) S dX10_arePeople_40 (by decide) ?_
        exact ih_3 (j + 1) 0 (by omega) (by omega) (by first | exact Or.inl ⟨rfl, zall_step (zB_t ha (by omega)) (show 0 ≤ sh (frm + j) ∧ sh (frm + j) < ppl by omega)⟩ | exact Or.inr ⟨rfl, fun z => zB_f ha (by omega) (fun y q1 q2 => z y q1 (by omega))⟩ | exact Or.inr ⟨rfl, fun z => absurd (show 0 ≤ sh (frm + j) ∧ sh (frm + j) < ppl from z j (by omega) (by omega)) (by omega)⟩) ls (lv_sub hl [0, 1, 2, 3, 4] rfl)
      · skip
        refine lv_aload_n S.1 S.2.1 dX10_arePeople_15 rfl (lv_at hl 2 rfl) ?_
        refine lv_aload_n S.1 S.2.1 dX10_arePeople_16 rfl (lv_at hl 2 rfl) ?_
        refine z_get S hK hP 0 rfl rfl 19 (by decide) i_X10_arePeople_10 q_X10_arePeople_1 rfl dX10_arePeople_17 ?_
        refine lv_iload_n S.1 S.2.1 dX10_arePeople_20 rfl (lv_at hl 3 rfl) ?_
        refine lv_iload S.1 S.2.1 dX10_arePeople_21 (lv_at hl 0 rfl) ?_
        refine z_iadd S dX10_arePeople_23 ?_
        refine z_iald S hK hP 16 rfl (by omega) dX10_arePeople_24 ?_
        have hf_4 := hcr ((frm + j))
        refine z_ri (z_rV S hK (c_X10_noOne l E ad flt ppl kd vl nb fr tl rA rP rk rv rn rf rt can fw fs ss sl sh hd tr (sh (frm + j)) (by omega) (by omega)) gX10_arePeople_X10_noOne rfl hv_X10_noOne ⟨Nat.le_of_ble_eq_true rfl, Nat.le_of_ble_eq_true rfl⟩ (va_recv hK hP (ci := 10) (q0 := 0) rfl rfl) hP hl.1 rfl (Nat.le_of_ble_eq_true rfl) ⟨by decide, by decide⟩ rfl dX10_arePeople_25) (fun r_25 h_25 => ?_)
        refine z_if_ne (tgt := 35) S dX10_arePeople_28 (by decide) (by omega) (fun c_28 => ?_) (fun c_28 => ?_)
        · skip
          refine z_iconst S dX10_arePeople_35 ?_
          refine lv_istore_n (lv' := [(3, .int (jI (0))), (4, .int (jI (j))), (0, .ref (ad 0)), (1, .int (jI (frm))), (2, .int (jI (n)))]) S.1 S.2.1 dX10_arePeople_36 rfl hl (by decide) rfl (fun ls hl => ?_)
          refine z_iinc (lv' := [(4, .int (jI (j + 1))), (3, .int (jI (0))), (0, .ref (ad 0)), (1, .int (jI (frm))), (2, .int (jI (n)))]) S hl (k := 1) rfl (by decide) rfl dX10_arePeople_37 (fun ls hl => ?_)
          refine z_goto (tgt := 5) S dX10_arePeople_40 (by decide) ?_
          exact ih_3 (j + 1) 0 (by omega) (by omega) (by first | exact Or.inl ⟨rfl, zall_step (zB_t ha (by omega)) (show 0 ≤ sh (frm + j) ∧ sh (frm + j) < ppl by omega)⟩ | exact Or.inr ⟨rfl, fun z => zB_f ha (by omega) (fun y q1 q2 => z y q1 (by omega))⟩ | exact Or.inr ⟨rfl, fun z => absurd (show 0 ≤ sh (frm + j) ∧ sh (frm + j) < ppl from z j (by omega) (by omega)) (by omega)⟩) ls (lv_sub hl [0, 1, 2, 3, 4] rfl)
        · skip
          refine z_iconst S dX10_arePeople_31 ?_
          refine z_goto (tgt := 36) S dX10_arePeople_32 (by decide) ?_
          refine lv_istore_n (lv' := [(3, .int (jI (1))), (4, .int (jI (j))), (0, .ref (ad 0)), (1, .int (jI (frm))), (2, .int (jI (n)))]) S.1 S.2.1 dX10_arePeople_36 rfl hl (by decide) rfl (fun ls hl => ?_)
          refine z_iinc (lv' := [(4, .int (jI (j + 1))), (3, .int (jI (1))), (0, .ref (ad 0)), (1, .int (jI (frm))), (2, .int (jI (n)))]) S hl (k := 1) rfl (by decide) rfl dX10_arePeople_37 (fun ls hl => ?_)
          refine z_goto (tgt := 5) S dX10_arePeople_40 (by decide) ?_
          exact ih_3 (j + 1) 1 (by omega) (by omega) (by first | exact Or.inl ⟨rfl, zall_step (zB_t ha (by omega)) (show 0 ≤ sh (frm + j) ∧ sh (frm + j) < ppl by omega)⟩ | exact Or.inr ⟨rfl, fun z => zB_f ha (by omega) (fun y q1 q2 => z y q1 (by omega))⟩ | exact Or.inr ⟨rfl, fun z => absurd (show 0 ≤ sh (frm + j) ∧ sh (frm + j) < ppl from z j (by omega) (by omega)) (by omega)⟩) ls (lv_sub hl [0, 1, 2, 3, 4] rfl)

set_option maxHeartbeats 1000000 in
set_option maxRecDepth 20000 in
theorem c_X10_rowBarred (l : Launch) (E : zE) (ad : Nat → Nat) (flt ppl : Int) (kd vl nb fr tl : Int → Int) (rA rP : Int) (rk rv rn rf rt can fw fs ss sl sh hd : Int → Int) (tr : Int) (v : Int) (k : Int) (lane : Int) (i : Int) (n : Int) (told : Int) (h_v : -2147483648 ≤ v ∧ v ≤ 2147483647) (h_k : -2147483648 ≤ k ∧ k ≤ 2147483647) (h_lane : -2147483648 ≤ lane ∧ lane ≤ 2147483647) (h_i : -2147483648 ≤ i ∧ i ≤ 2147483647) (h_n : -2147483648 ≤ n ∧ n ≤ 2147483647) (ht : told = 0 ∨ told = 1) (hp : 0 ≤ ppl ∧ ppl ≤ 10) (hsh : zShe ss sl) (hcr : zRg sh) : zMi l E yX10_rowBarred wsX10_rowBarred (zr 4 0 0) [.ref (ad 0), .int (jI (v)), .int (jI (k)), .int (jI (lane)), .int (jI (i)), .int (jI (n)), .int (jI (told))] (mW E ad flt ppl kd vl nb fr tl rA rP rk rv rn rf rt can fw fs ss sl sh hd tr) (fun _ => True) (fun r (u : Int) => (r < 0 ∧ zRow ppl ss sl sh v k lane i n (told ≠ 0) r u) ∨ (r = 0 ∧ zRow ppl ss sl sh v k lane i n (told ≠ 0) 0 0 ∧ u = flt)) (fun (u : Int) => mW E ad u ppl kd vl nb fr tl rA rP rk rv rn rf rt can fw fs ss sl sh hd tr) 0 0 := by
  refine zMi_of (own := RX10) (cc := cX10_rowBarred) (maxL := 8) (by decide) rfl (Nat.le_of_ble_eq_true rfl) rfl ?_
  intro p e s m args below meth c Q A S hK hA hS hP hD hAe hG hQ ls hl
  have hl : lv_has ls 8 [(0, .ref (ad 0)), (1, .int (jI (v))), (2, .int (jI (k))), (3, .int (jI (lane))), (4, .int (jI (i))), (5, .int (jI (n))), (6, .int (jI (told)))] := hl
  refine lv_iload_n S.1 S.2.1 dX10_rowBarred_0 rfl (lv_at hl 1 rfl) ?_
  refine z_ri (z_rS S hK (c_X10_noVillage l E v (by omega)) gX10_rowBarred_X10_noVillage rfl hs_X10_noVillage ⟨Nat.le_of_ble_eq_true rfl, Nat.le_of_ble_eq_true rfl⟩ trivial hl.1 rfl (Nat.le_of_ble_eq_true rfl) ⟨by decide, by decide⟩ rfl dX10_rowBarred_1) (fun r_1 h_1 => ?_)
  refine z_if_eq (tgt := 13) S dX10_rowBarred_4 (by decide) (by omega) (fun c_4 => ?_) (fun c_4 => ?_)
  · skip
    refine lv_aload_n S.1 S.2.1 dX10_rowBarred_13 rfl (lv_at hl 0 rfl) ?_
    refine lv_iload_n S.1 S.2.1 dX10_rowBarred_14 rfl (lv_at hl 2 rfl) ?_
    refine lv_iload_n S.1 S.2.1 dX10_rowBarred_15 rfl (lv_at hl 3 rfl) ?_
    refine lv_iload S.1 S.2.1 dX10_rowBarred_16 (lv_at hl 4 rfl) ?_
    refine lv_iload S.1 S.2.1 dX10_rowBarred_18 (lv_at hl 5 rfl) ?_
    refine z_i2l S (by omega) dX10_rowBarred_20 ?_
    refine lv_iload S.1 S.2.1 dX10_rowBarred_21 (lv_at hl 6 rfl) ?_
    refine z_miw (z_mV S hK (c_X10_barred l E ad flt ppl kd vl nb fr tl rA rP rk rv rn rf rt can fw fs ss sl sh hd tr k lane i n told (by omega) (by omega) (by omega) (by omega) (by omega) (hsh) _) gX10_rowBarred_X10_barred rfl hv_X10_barred ⟨Nat.le_of_ble_eq_true rfl, Nat.le_of_ble_eq_true rfl⟩ (va_recv hK hP (ci := 10) (q0 := 0) rfl rfl) hP hD trivial hl.1 rfl (Nat.le_of_ble_eq_true rfl) ⟨by decide, by decide⟩ rfl dX10_rowBarred_23) hD hS hA (fun r_23 u H locs h_23 hP hD hS => ?_)
    obtain ⟨u23_flt, u23_flt_e⟩ : ∃ z, z = u := ⟨_, rfl⟩
    subst u23_flt_e
    try dsimp only at h_23
    have hP : zP E (mW E ad u23_flt ppl kd vl nb fr tl rA rP rk rv rn rf rt can fw fs ss sl sh hd tr) H := hP
    have hD : va_D A (mW E ad u23_flt ppl kd vl nb fr tl rA rP rk rv rn rf rt can fw fs ss sl sh hd tr) := hD
    have h_23b := zBar_r2 h_23
    refine lv_istore (lv' := [(7, .int (jI (r_23))), (0, .ref (ad 0)), (1, .int (jI (v))), (2, .int (jI (k))), (3, .int (jI (lane))), (4, .int (jI (i))), (5, .int (jI (n))), (6, .int (jI (told)))]) S.1 S.2.1 dX10_rowBarred_26 hl (by decide) rfl (fun ls hl => ?_)
    refine lv_iload S.1 S.2.1 dX10_rowBarred_28 (lv_at hl 0 rfl) ?_
    refine z_if_ge (tgt := 36) S dX10_rowBarred_30 (by decide) (by omega) (fun c_30 => ?_) (fun c_30 => ?_)
    · skip
      refine lv_iload S.1 S.2.1 dX10_rowBarred_36 (lv_at hl 6 rfl) ?_
      refine z_bipush S (by decide +kernel) dX10_rowBarred_38 ?_
      refine z_icmp_le (tgt := 50) S dX10_rowBarred_40 (by decide) (by omega) (fun c_40 => ?_) (fun c_40 => ?_)
      · skip
        have hb0 := h_23.elim (fun q => absurd q.1 (by omega)) (fun q => q.2.1)
        have hbr : (0 ≤ k ∧ k ≤ 3) ∧ 0 ≤ n ∧ 0 ≤ i ∧ i + n ≤ 100 := by have q := hsh k; unfold zBar at hb0; omega
        refine lv_aload_n S.1 S.2.1 dX10_rowBarred_50 rfl (lv_at hl 1 rfl) ?_
        refine z_bipush S (by decide +kernel) dX10_rowBarred_51 ?_
        refine lv_iload_n S.1 S.2.1 dX10_rowBarred_53 rfl (lv_at hl 3 rfl) ?_
        refine z_imul S dX10_rowBarred_54 ?_
        refine lv_iload S.1 S.2.1 dX10_rowBarred_55 (lv_at hl 5 rfl) ?_
        refine z_iadd S dX10_rowBarred_57 ?_
        refine lv_iload S.1 S.2.1 dX10_rowBarred_58 (lv_at hl 6 rfl) ?_
        refine z_ri (z_rV S hK (c_X10_arePeople l E ad u23_flt ppl kd vl nb fr tl rA rP rk rv rn rf rt can fw fs ss sl sh hd tr ((100 * k) + i) n (by omega) (by omega) (hcr)) gX10_rowBarred_X10_arePeople rfl hv_X10_arePeople ⟨Nat.le_of_ble_eq_true rfl, Nat.le_of_ble_eq_true rfl⟩ (va_recv hK hP (ci := 10) (q0 := 0) rfl rfl) hP hl.1 rfl (Nat.le_of_ble_eq_true rfl) ⟨by decide, by decide⟩ rfl dX10_rowBarred_60) (fun r_60 h_60 => ?_)
        refine z_if_eq (tgt := 70) S dX10_rowBarred_63 (by decide) (by omega) (fun c_63 => ?_) (fun c_63 => ?_)
        · skip
          refine lv_aload_n S.1 S.2.1 dX10_rowBarred_70 rfl (lv_at hl 1 rfl) ?_
          refine z_iconst S dX10_rowBarred_71 ?_
          refine z_miw (z_mV S hK (c_X10_refused l E ad u23_flt ppl kd vl nb fr tl rA rP rk rv rn rf rt can fw fs ss sl sh hd tr (-1) _) gX10_rowBarred_X10_refused rfl hv_X10_refused ⟨Nat.le_of_ble_eq_true rfl, Nat.le_of_ble_eq_true rfl⟩ (va_recv hK hP (ci := 10) (q0 := 0) rfl rfl) hP hD trivial hl.1 rfl (Nat.le_of_ble_eq_true rfl) ⟨by decide, by decide⟩ rfl dX10_rowBarred_72) hD hS hA (fun r_72 u H locs h_72 hP hD hS => ?_)
          rw [h_72]
          have hP : zP E (mW E ad 0 ppl kd vl nb fr tl rA rP rk rv rn rf rt can fw fs ss sl sh hd tr) H := hP
          have hD : va_D A (mW E ad 0 ppl kd vl nb fr tl rA rP rk rv rn rf rt can fw fs ss sl sh hd tr) := hD
          exact hQ (((-1))) (0) _ _ (by first | exact Or.inr ⟨rfl, Or.inr ⟨by omega, Or.inr ⟨hb0, Or.inr ⟨by omega, Or.inl ⟨zB_t h_60 (by omega), rfl, rfl⟩⟩⟩⟩, by omega⟩ | exact Or.inl ⟨by omega, Or.inr ⟨by omega, Or.inr ⟨hb0, Or.inr ⟨by omega, Or.inr ⟨zB_f h_60 (by omega), by omega, rfl⟩⟩⟩⟩⟩) hP hD hS _ _ dX10_rowBarred_75
        · skip
          refine z_iconst S dX10_rowBarred_66 ?_
          refine z_goto (tgt := 75) S dX10_rowBarred_67 (by decide) ?_
          exact hQ (0) (u23_flt) _ _ (by first | exact Or.inr ⟨rfl, Or.inr ⟨by omega, Or.inr ⟨hb0, Or.inr ⟨by omega, Or.inl ⟨zB_t h_60 (by omega), rfl, rfl⟩⟩⟩⟩, by omega⟩ | exact Or.inl ⟨by omega, Or.inr ⟨by omega, Or.inr ⟨hb0, Or.inr ⟨by omega, Or.inr ⟨zB_f h_60 (by omega), by omega, rfl⟩⟩⟩⟩⟩) hP hD hS _ _ dX10_rowBarred_75
      · skip
        refine lv_aload_n S.1 S.2.1 dX10_rowBarred_43 rfl (lv_at hl 1 rfl) ?_
        refine z_bipush S (by decide +kernel) dX10_rowBarred_44 ?_
        refine z_miw (z_mV S hK (c_X10_refused l E ad u23_flt ppl kd vl nb fr tl rA rP rk rv rn rf rt can fw fs ss sl sh hd tr (-2) _) gX10_rowBarred_X10_refused rfl hv_X10_refused ⟨Nat.le_of_ble_eq_true rfl, Nat.le_of_ble_eq_true rfl⟩ (va_recv hK hP (ci := 10) (q0 := 0) rfl rfl) hP hD trivial hl.1 rfl (Nat.le_of_ble_eq_true rfl) ⟨by decide, by decide⟩ rfl dX10_rowBarred_46) hD hS hA (fun r_46 u H locs h_46 hP hD hS => ?_)
        rw [h_46]
        have hP : zP E (mW E ad 0 ppl kd vl nb fr tl rA rP rk rv rn rf rt can fw fs ss sl sh hd tr) H := hP
        have hD : va_D A (mW E ad 0 ppl kd vl nb fr tl rA rP rk rv rn rf rt can fw fs ss sl sh hd tr) := hD
        exact hQ (((-2))) (0) _ _ (Or.inl ⟨by omega, Or.inr ⟨by omega, Or.inr ⟨h_23.elim (fun q => absurd q.1 (by omega)) (fun q => q.2.1), Or.inl ⟨by omega, by omega, rfl⟩⟩⟩⟩) hP hD hS _ _ dX10_rowBarred_49
    · skip
      refine lv_iload S.1 S.2.1 dX10_rowBarred_33 (lv_at hl 0 rfl) ?_
      exact hQ (r_23) (u23_flt) _ _ (Or.inl ⟨by omega, Or.inr ⟨by omega, Or.inl ⟨by omega, h_23.elim (fun q => q.2) (fun q => absurd q.1 (by omega))⟩⟩⟩) hP hD hS _ _ dX10_rowBarred_35
  · skip
    refine lv_aload_n S.1 S.2.1 dX10_rowBarred_7 rfl (lv_at hl 0 rfl) ?_
    refine z_iconst S dX10_rowBarred_8 ?_
    refine z_miw (z_mV S hK (c_X10_refused l E ad flt ppl kd vl nb fr tl rA rP rk rv rn rf rt can fw fs ss sl sh hd tr (-1) _) gX10_rowBarred_X10_refused rfl hv_X10_refused ⟨Nat.le_of_ble_eq_true rfl, Nat.le_of_ble_eq_true rfl⟩ (va_recv hK hP (ci := 10) (q0 := 0) rfl rfl) hP hD trivial hl.1 rfl (Nat.le_of_ble_eq_true rfl) ⟨by decide, by decide⟩ rfl dX10_rowBarred_9) hD hS hA (fun r_9 u H locs h_9 hP hD hS => ?_)
    rw [h_9]
    have hP : zP E (mW E ad 0 ppl kd vl nb fr tl rA rP rk rv rn rf rt can fw fs ss sl sh hd tr) H := hP
    have hD : va_D A (mW E ad 0 ppl kd vl nb fr tl rA rP rk rv rn rf rt can fw fs ss sl sh hd tr) := hD
    exact hQ (((-1))) (0) _ _ (Or.inl ⟨by omega, Or.inl ⟨by omega, by omega, rfl⟩⟩) hP hD hS _ _ dX10_rowBarred_12

set_option maxHeartbeats 1000000 in
set_option maxRecDepth 20000 in
theorem c_X10_meant (l : Launch) (E : zE) (ad : Nat → Nat) (flt ppl : Int) (kd vl nb fr tl : Int → Int) (rA rP : Int) (rk rv rn rf rt can fw fs ss sl sh hd : Int → Int) (tr : Int) (v : Int) (d : Int) (frm : Int) (n : Int) (h_v : -2147483648 ≤ v ∧ v ≤ 2147483647) (h_d : -2147483648 ≤ d ∧ d ≤ 2147483647) (hf : 0 ≤ frm ∧ 0 ≤ n ∧ n ≤ 20 ∧ frm + n ≤ 400) (hpl : zPpl ppl (fun j => sh (frm + j)) n) (hp : 0 ≤ ppl ∧ ppl ≤ 10) (hpe : zPeo ppl kd vl nb fr tl) : zRi l E yX10_meant wsX10_meant (zr 2 0 0) [.ref (ad 0), .int (jI (v)), .int (jI (d)), .int (jI (frm)), .int (jI (n))] (fun H => zP E (mW E ad flt ppl kd vl nb fr tl rA rP rk rv rn rf rt can fw fs ss sl sh hd tr) H) (fun r => zMean nb (fun x => zlive kd vl fr tl x v d) (fun j => sh (frm + j)) n r (zsum (fun j => nb (sh (frm + j))) n.toNat)) := by
  refine zRi_of (own := RX10) (cc := cX10_meant) (maxL := 7) (by decide) rfl (Nat.le_of_ble_eq_true rfl) rfl ?_
  intro p e s m args below meth c Q S hK hP hQ ls hl
  have hl : lv_has ls 7 [(0, .ref (ad 0)), (1, .int (jI (v))), (2, .int (jI (d))), (3, .int (jI (frm))), (4, .int (jI (n)))] := hl
  refine z_iconst S dX10_meant_0 ?_
  refine lv_istore (lv' := [(5, .int (jI (0))), (0, .ref (ad 0)), (1, .int (jI (v))), (2, .int (jI (d))), (3, .int (jI (frm))), (4, .int (jI (n)))]) S.1 S.2.1 dX10_meant_1 hl (by decide) rfl (fun ls hl => ?_)
  refine z_iconst S dX10_meant_3 ?_
  refine lv_istore (lv' := [(6, .int (jI (0))), (5, .int (jI (0))), (0, .ref (ad 0)), (1, .int (jI (v))), (2, .int (jI (d))), (3, .int (jI (frm))), (4, .int (jI (n)))]) S.1 S.2.1 dX10_meant_4 hl (by decide) rfl (fun ls hl => ?_)
  suffices HL_1 : ∀ (n_2 : Nat) (j : Int) (sm : Int), (n - j).toNat < n_2 → (0 ≤ j ∧ j ≤ n) → (sm = zsum (fun j => nb (sh (frm + j))) j.toNat) → (0 ≤ sm ∧ sm ≤ 99 * j) → (∀ y, 0 ≤ y → y < j → zlive kd vl fr tl (sh (frm + y)) v d) → ∀ (ls : Array Slot), lv_has ls 7 [(6, .int (jI (j))), (5, .int (jI (sm))), (0, .ref (ad 0)), (1, .int (jI (v))), (2, .int (jI (d))), (3, .int (jI (frm))), (4, .int (jI (n)))] → W p l e (zr 2 0 0) s m args below meth c s.heap [] 0 0 Q (F0 m 6 ls []) from
    HL_1 _ 0 0 (Nat.lt_succ_self _) (by omega) (rfl) (by omega) (zall_0) ls (lv_sub hl [0, 1, 2, 3, 4, 5, 6] rfl)
  intro n_2
  induction n_2 with
  | zero => intro j sm hm hj hm2 hmr hall; exact absurd hm (Nat.not_lt_zero _)
  | succ n_2 ih_3 =>
    intro j sm hm hj hm2 hmr hall ls hl
    refine lv_iload S.1 S.2.1 dX10_meant_6 (lv_at hl 0 rfl) ?_
    refine lv_iload S.1 S.2.1 dX10_meant_8 (lv_at hl 6 rfl) ?_
    refine z_icmp_ge (tgt := 62) S dX10_meant_10 (by decide) (by omega) (fun c_10 => ?_) (fun c_10 => ?_)
    · skip
      refine lv_iload S.1 S.2.1 dX10_meant_62 (lv_at hl 1 rfl) ?_
      exact hQ (sm) (by first | exact Or.inl ⟨j, by omega, zB_f h_25 (by omega), hall, by omega⟩ | exact Or.inr ⟨fun y q1 q2 => hall y q1 (by omega), by rw [hm2, show n = j by omega]⟩) _ _ dX10_meant_64
    · skip
      have hj2 : 0 ≤ sh (frm + j) ∧ sh (frm + j) < ppl := hpl j (by omega) (by omega)
      have hx2 := hpe (sh (frm + j)) (by omega) (by omega)
      refine lv_aload_n S.1 S.2.1 dX10_meant_13 rfl (lv_at hl 2 rfl) ?_
      refine lv_aload_n S.1 S.2.1 dX10_meant_14 rfl (lv_at hl 2 rfl) ?_
      refine z_get S hK hP 0 rfl rfl 19 (by decide) i_X10_meant_10 q_X10_meant_1 rfl dX10_meant_15 ?_
      refine lv_iload_n S.1 S.2.1 dX10_meant_18 rfl (lv_at hl 5 rfl) ?_
      refine lv_iload S.1 S.2.1 dX10_meant_19 (lv_at hl 0 rfl) ?_
      refine z_iadd S dX10_meant_21 ?_
      refine z_iald S hK hP 16 rfl (by omega) dX10_meant_22 ?_
      refine lv_iload_n S.1 S.2.1 dX10_meant_23 rfl (lv_at hl 3 rfl) ?_
      refine lv_iload_n S.1 S.2.1 dX10_meant_24 rfl (lv_at hl 4 rfl) ?_
      refine z_ri (z_rV S hK (c_X10_doesLive l E ad flt ppl kd vl nb fr tl rA rP rk rv rn rf rt can fw fs ss sl sh hd tr (sh (frm + j)) v d (by omega) (by omega) (by omega) (by omega) (hpe)) gX10_meant_X10_doesLive rfl hv_X10_doesLive ⟨Nat.le_of_ble_eq_true rfl, Nat.le_of_ble_eq_true rfl⟩ (va_recv hK hP (ci := 10) (q0 := 0) rfl rfl) hP hl.1 rfl (Nat.le_of_ble_eq_true rfl) ⟨by decide, by decide⟩ rfl dX10_meant_25) (fun r_25 h_25 => ?_)
      refine z_if_ne (tgt := 37) S dX10_meant_28 (by decide) (by omega) (fun c_28 => ?_) (fun c_28 => ?_)
      · skip
        refine lv_iload S.1 S.2.1 dX10_meant_37 (lv_at hl 1 rfl) ?_
        refine lv_aload_n S.1 S.2.1 dX10_meant_39 rfl (lv_at hl 2 rfl) ?_
        refine z_get S hK hP 0 rfl rfl 4 (by decide) i_X10_meant_10 q_X10_meant_2 rfl dX10_meant_40 ?_
        refine lv_aload_n S.1 S.2.1 dX10_meant_43 rfl (lv_at hl 2 rfl) ?_
        refine z_get S hK hP 0 rfl rfl 19 (by decide) i_X10_meant_10 q_X10_meant_1 rfl dX10_meant_44 ?_
        refine lv_iload_n S.1 S.2.1 dX10_meant_47 rfl (lv_at hl 5 rfl) ?_
        refine lv_iload S.1 S.2.1 dX10_meant_48 (lv_at hl 0 rfl) ?_
        refine z_iadd S dX10_meant_50 ?_
        refine z_iald S hK hP 16 rfl (by omega) dX10_meant_51 ?_
        refine z_iald S hK hP 3 rfl (by omega) dX10_meant_52 ?_
        refine z_iadd S dX10_meant_53 ?_
        refine lv_istore (lv' := [(5, .int (jI (sm + (nb (sh (frm + j)))))), (6, .int (jI (j))), (0, .ref (ad 0)), (1, .int (jI (v))), (2, .int (jI (d))), (3, .int (jI (frm))), (4, .int (jI (n)))]) S.1 S.2.1 dX10_meant_54 hl (by decide) rfl (fun ls hl => ?_)
        refine z_iinc (lv' := [(6, .int (jI (j + 1))), (5, .int (jI (sm + (nb (sh (frm + j)))))), (0, .ref (ad 0)), (1, .int (jI (v))), (2, .int (jI (d))), (3, .int (jI (frm))), (4, .int (jI (n)))]) S hl (k := 1) rfl (by decide) rfl dX10_meant_56 (fun ls hl => ?_)
        refine z_goto (tgt := 6) S dX10_meant_59 (by decide) ?_
        exact ih_3 (j + 1) (sm + (nb (sh (frm + j)))) (by omega) (by omega) (by rw [zsum_next (by omega), ← hm2]) (by omega) (zall_step hall (zB_t h_25 (by omega))) ls (lv_sub hl [0, 1, 2, 3, 4, 5, 6] rfl)
      · skip
        refine z_bipush S (by decide +kernel) dX10_meant_31 ?_
        refine lv_iload S.1 S.2.1 dX10_meant_33 (lv_at hl 0 rfl) ?_
        refine z_isub S dX10_meant_35 ?_
        exact hQ ((-100) - j) (by first | exact Or.inl ⟨j, by omega, zB_f h_25 (by omega), hall, by omega⟩ | exact Or.inr ⟨fun y q1 q2 => hall y q1 (by omega), by rw [hm2, show n = j by omega]⟩) _ _ dX10_meant_36

set_option maxHeartbeats 1000000 in
set_option maxRecDepth 20000 in
theorem c_X10_means (l : Launch) (E : zE) (ad : Nat → Nat) (flt ppl : Int) (kd vl nb fr tl : Int → Int) (rA rP : Int) (rk rv rn rf rt can fw fs ss sl sh hd : Int → Int) (tr : Int) (v : Int) (d : Int) (k : Int) (lane : Int) (i : Int) (n : Int) (h_v : -2147483648 ≤ v ∧ v ≤ 2147483647) (h_d : -2147483648 ≤ d ∧ d ≤ 2147483647) (h_k : -2147483648 ≤ k ∧ k ≤ 2147483647) (h_lane : -2147483648 ≤ lane ∧ lane ≤ 2147483647) (h_i : -2147483648 ≤ i ∧ i ≤ 2147483647) (h_n : -2147483648 ≤ n ∧ n ≤ 2147483647) (hp : 0 ≤ ppl ∧ ppl ≤ 10) (hpe : zPeo ppl kd vl nb fr tl) (hsh : zShe ss sl) (hcr : zRg sh) : zMi l E yX10_means wsX10_means (zr 5 0 0) [.ref (ad 0), .int (jI (v)), .int (jI (d)), .int (jI (k)), .int (jI (lane)), .int (jI (i)), .int (jI (n))] (mW E ad flt ppl kd vl nb fr tl rA rP rk rv rn rf rt can fw fs ss sl sh hd tr) (fun _ => True) (fun r (u : Int) => zA_means ppl kd vl nb fr tl ss sl sh v d k lane i n r u) (fun (u : Int) => mW E ad u ppl kd vl nb fr tl rA rP rk rv rn rf rt can fw fs ss sl sh hd tr) 0 0 := by
  refine zMi_of (own := RX10) (cc := cX10_means) (maxL := 8) (by decide) rfl (Nat.le_of_ble_eq_true rfl) rfl ?_
  intro p e s m args below meth c Q A S hK hA hS hP hD hAe hG hQ ls hl
  have hl : lv_has ls 8 [(0, .ref (ad 0)), (1, .int (jI (v))), (2, .int (jI (d))), (3, .int (jI (k))), (4, .int (jI (lane))), (5, .int (jI (i))), (6, .int (jI (n)))] := hl
  refine lv_aload_n S.1 S.2.1 dX10_means_0 rfl (lv_at hl 0 rfl) ?_
  refine lv_iload_n S.1 S.2.1 dX10_means_1 rfl (lv_at hl 1 rfl) ?_
  refine lv_iload_n S.1 S.2.1 dX10_means_2 rfl (lv_at hl 3 rfl) ?_
  refine lv_iload S.1 S.2.1 dX10_means_3 (lv_at hl 4 rfl) ?_
  refine lv_iload S.1 S.2.1 dX10_means_5 (lv_at hl 5 rfl) ?_
  refine lv_iload S.1 S.2.1 dX10_means_7 (lv_at hl 6 rfl) ?_
  refine lv_iload_n S.1 S.2.1 dX10_means_9 rfl (lv_at hl 2 rfl) ?_
  refine z_ri (z_rS S hK (c_X10_isDay l E d (by omega)) gX10_means_X10_isDay rfl hs_X10_isDay ⟨Nat.le_of_ble_eq_true rfl, Nat.le_of_ble_eq_true rfl⟩ trivial hl.1 rfl (Nat.le_of_ble_eq_true rfl) ⟨by decide, by decide⟩ rfl dX10_means_10) (fun r_10 h_10 => ?_)
  refine z_miw (z_mV S hK (c_X10_rowBarred l E ad flt ppl kd vl nb fr tl rA rP rk rv rn rf rt can fw fs ss sl sh hd tr v k lane i n r_10 (by omega) (by omega) (by omega) (by omega) (by omega) (by omega) (by omega) (hsh) (hcr) _) gX10_means_X10_rowBarred rfl hv_X10_rowBarred ⟨Nat.le_of_ble_eq_true rfl, Nat.le_of_ble_eq_true rfl⟩ (va_recv hK hP (ci := 10) (q0 := 0) rfl rfl) hP hD trivial hl.1 rfl (Nat.le_of_ble_eq_true rfl) ⟨by decide, by decide⟩ rfl dX10_means_13) hD hS hA (fun r_13 u H locs h_13 hP hD hS => ?_)
  obtain ⟨u13_flt, u13_flt_e⟩ : ∃ z, z = u := ⟨_, rfl⟩
  subst u13_flt_e
  try dsimp only at h_13
  have hP : zP E (mW E ad u13_flt ppl kd vl nb fr tl rA rP rk rv rn rf rt can fw fs ss sl sh hd tr) H := hP
  have hD : va_D A (mW E ad u13_flt ppl kd vl nb fr tl rA rP rk rv rn rf rt can fw fs ss sl sh hd tr) := hD
  have h_13b := zRow_r2 h_13
  refine lv_istore (lv' := [(7, .int (jI (r_13))), (0, .ref (ad 0)), (1, .int (jI (v))), (2, .int (jI (d))), (3, .int (jI (k))), (4, .int (jI (lane))), (5, .int (jI (i))), (6, .int (jI (n)))]) S.1 S.2.1 dX10_means_16 hl (by decide) rfl (fun ls hl => ?_)
  refine lv_iload S.1 S.2.1 dX10_means_18 (lv_at hl 0 rfl) ?_
  refine z_if_ge (tgt := 28) S dX10_means_20 (by decide) (by omega) (fun c_20 => ?_) (fun c_20 => ?_)
  · skip
    have ok2 := zRow_ok (h_13.elim (fun q => absurd q.1 (by omega)) (fun q => q.2.1))
    have hss := hsh k (by omega) (by omega)
    refine lv_aload_n S.1 S.2.1 dX10_means_28 rfl (lv_at hl 1 rfl) ?_
    refine lv_aload_n S.1 S.2.1 dX10_means_29 rfl (lv_at hl 1 rfl) ?_
    refine lv_iload_n S.1 S.2.1 dX10_means_30 rfl (lv_at hl 2 rfl) ?_
    refine lv_iload_n S.1 S.2.1 dX10_means_31 rfl (lv_at hl 3 rfl) ?_
    refine z_bipush S (by decide +kernel) dX10_means_32 ?_
    refine lv_iload_n S.1 S.2.1 dX10_means_34 rfl (lv_at hl 4 rfl) ?_
    refine z_imul S dX10_means_35 ?_
    refine lv_iload S.1 S.2.1 dX10_means_36 (lv_at hl 6 rfl) ?_
    refine z_iadd S dX10_means_38 ?_
    refine lv_iload S.1 S.2.1 dX10_means_39 (lv_at hl 7 rfl) ?_
    refine z_ri (z_rV S hK (c_X10_meant l E ad u13_flt ppl kd vl nb fr tl rA rP rk rv rn rf rt can fw fs ss sl sh hd tr v d ((100 * k) + i) n (by omega) (by omega) (by omega) (ok2.2.2.1) (by omega) (hpe)) gX10_means_X10_meant rfl hv_X10_meant ⟨Nat.le_of_ble_eq_true rfl, Nat.le_of_ble_eq_true rfl⟩ (va_recv hK hP (ci := 10) (q0 := 0) rfl rfl) hP hl.1 rfl (Nat.le_of_ble_eq_true rfl) ⟨by decide, by decide⟩ rfl dX10_means_41) (fun r_41 h_41 => ?_)
    refine z_miw (z_mV S hK (c_X10_refused l E ad u13_flt ppl kd vl nb fr tl rA rP rk rv rn rf rt can fw fs ss sl sh hd tr r_41 _) gX10_means_X10_refused rfl hv_X10_refused ⟨Nat.le_of_ble_eq_true rfl, Nat.le_of_ble_eq_true rfl⟩ (va_recv hK hP (ci := 10) (q0 := 0) rfl rfl) hP hD trivial hl.1 rfl (Nat.le_of_ble_eq_true rfl) ⟨by decide, by decide⟩ rfl dX10_means_44) hD hS hA (fun r_44 u H locs h_44 hP hD hS => ?_)
    rw [h_44]
    have hP : zP E (mW E ad 0 ppl kd vl nb fr tl rA rP rk rv rn rf rt can fw fs ss sl sh hd tr) H := hP
    have hD : va_D A (mW E ad 0 ppl kd vl nb fr tl rA rP rk rv rn rf rt can fw fs ss sl sh hd tr) := hD
    exact hQ (r_41) (0) _ _ (by first | (refine ⟨_, _, zRow_cong (h_13.elim (fun q => q.2) (fun q => absurd q.1 (by omega))) (by omega), Or.inl ⟨by omega, rfl, rfl⟩⟩) | (exact ⟨_, _, zRow_cong (h_13.elim (fun q => absurd q.1 (by omega)) (fun q => q.2.1)) (by omega), Or.inr ⟨rfl, rfl, h_41⟩⟩)) hP hD hS _ _ dX10_means_47
  · skip
    refine lv_iload S.1 S.2.1 dX10_means_23 (lv_at hl 0 rfl) ?_
    refine z_goto (tgt := 47) S dX10_means_25 (by decide) ?_
    exact hQ (r_13) (u13_flt) _ _ (by first | (refine ⟨_, _, zRow_cong (h_13.elim (fun q => q.2) (fun q => absurd q.1 (by omega))) (by omega), Or.inl ⟨by omega, rfl, rfl⟩⟩) | (exact ⟨_, _, zRow_cong (h_13.elim (fun q => absurd q.1 (by omega)) (fun q => q.2.1)) (by omega), Or.inr ⟨rfl, rfl, h_41⟩⟩)) hP hD hS _ _ dX10_means_47
