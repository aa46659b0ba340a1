theorem q_X10_turned_1 : Cond.constantLong RX10 167 (999) ∈ wsX10_turned := List.mem_of_getElem? (i := 1) rfl
theorem hv_X10_laySaid : yX10_laySaid.cls = RX10 ∧ yX10_laySaid.cls ≠ "java/lang/invoke/MethodHandle" ∧ yX10_laySaid.cls ≠ "java/lang/invoke/VarHandle" ∧ (parseMethodDescriptor yX10_laySaid.desc).map (fun d => d.parameters.length) = some 3 := by decide +kernel
theorem i_X10_turned_10 : ∀ w ∈ u_ws RX10 TX10 22, w ∈ wsX10_turned := fun w h => List.mem_cons_of_mem _ (List.mem_append_right _ h)
theorem q_X10_turned_2 : Cond.fieldLink RX10 44 "LivingNumbersModel" "fewest" "[I" ∈ wsX10_turned := List.mem_of_getElem? (i := 2) rfl
theorem q_X10_written_1 : Cond.constantLong RX10 80 (2) ∈ wsX10_written := List.mem_of_getElem? (i := 1) rfl
theorem q_X10_both_1 : Cond.constantLong RX10 167 (999) ∈ wsX10_both := List.mem_of_getElem? (i := 1) rfl
theorem hs_X10_isFew : yX10_isFew.cls ≠ "java/lang/invoke/MethodHandle" ∧ yX10_isFew.cls ≠ "java/lang/invoke/VarHandle" ∧ (parseMethodDescriptor yX10_isFew.desc).map (fun d => d.parameters.length) = some 1 := by decide +kernel
theorem i_X10_both_10 : ∀ w ∈ u_ws RX10 TX10 22, w ∈ wsX10_both := fun w h => List.mem_cons_of_mem _ (List.mem_append_right _ h)
theorem q_X10_both_2 : Cond.fieldLink RX10 47 "LivingNumbersModel" "first" "[Z" ∈ wsX10_both := List.mem_of_getElem? (i := 2) rfl
theorem q_X10_both_3 : Cond.fieldLink RX10 44 "LivingNumbersModel" "fewest" "[I" ∈ wsX10_both := List.mem_of_getElem? (i := 3) rfl
theorem hv_X10_saidOf : yX10_saidOf.cls = RX10 ∧ yX10_saidOf.cls ≠ "java/lang/invoke/MethodHandle" ∧ yX10_saidOf.cls ≠ "java/lang/invoke/VarHandle" ∧ (parseMethodDescriptor yX10_saidOf.desc).map (fun d => d.parameters.length) = some 1 := by decide +kernel
theorem hs_X10_nothing : yX10_nothing.cls ≠ "java/lang/invoke/MethodHandle" ∧ yX10_nothing.cls ≠ "java/lang/invoke/VarHandle" ∧ (parseMethodDescriptor yX10_nothing.desc).map (fun d => d.parameters.length) = some 0 := by decide +kernel
theorem q_X10_told_1 : Cond.constantLong RX10 140 (99) ∈ wsX10_told := List.mem_of_getElem? (i := 1) rfl
theorem hs_X10_shared : yX10_shared.cls ≠ "java/lang/invoke/MethodHandle" ∧ yX10_shared.cls ≠ "java/lang/invoke/VarHandle" ∧ (parseMethodDescriptor yX10_shared.desc).map (fun d => d.parameters.length) = some 3 := by decide +kernel
theorem q_X10_say_1 : Cond.constantLong RX10 167 (999) ∈ wsX10_say := List.mem_of_getElem? (i := 1) rfl
theorem i_X10_say_10 : ∀ w ∈ u_ws RX10 TX10 22, w ∈ wsX10_say := fun w h => List.mem_cons_of_mem _ (List.mem_append_right _ h)
theorem q_X10_say_2 : Cond.fieldLink RX10 44 "LivingNumbersModel" "fewest" "[I" ∈ wsX10_say := List.mem_of_getElem? (i := 2) rfl
theorem q_X10_say_3 : Cond.fieldLink RX10 40 "LivingNumbersModel" "can" "[Z" ∈ wsX10_say := List.mem_of_getElem? (i := 3) rfl
set_option maxHeartbeats 1000000 in
set_option maxRecDepth 20000 in
theorem c_X10_turned (l : Launch) (E : zE) (ad : Nat → Nat) (flt ppl : Int) (kd vl nb fr tl : Int → Int) (rA rP : Int) (rk rv rn rf rt can fw fs ss sl sh hd : Int → Int) (tr : Int) (v : Int) (d : Int) (o : Int) (k : Int) (lane : Int) (i : Int) (n : Int) (h_v : -2147483648 ≤ v ∧ v ≤ 2147483647) (h_d : -2147483648 ≤ d ∧ d ≤ 2147483647) (h_o : -2147483648 ≤ o ∧ o ≤ 2147483647) (h_k : -2147483648 ≤ k ∧ k ≤ 2147483647) (h_lane : -2147483648 ≤ lane ∧ lane ≤ 2147483647) (h_i : -2147483648 ≤ i ∧ i ≤ 2147483647) (h_n : -2147483648 ≤ n ∧ n ≤ 2147483647) (hp : 0 ≤ ppl ∧ ppl ≤ 10) (hpe : zPeo ppl kd vl nb fr tl) (hsh : zShe ss sl) (hcr : zRg sh) : zMi l E yX10_turned wsX10_turned (zr 5 0 0) [.ref (ad 0), .int (jI (v)), .int (jI (d)), .int (jI (o)), .int (jI (k)), .int (jI (lane)), .int (jI (i)), .int (jI (n))] (mW E ad flt ppl kd vl nb fr tl rA rP rk rv rn rf rt can fw fs ss sl sh hd tr) (fun _ => True) (fun r (u : Int × ((Int → Int) × (Int → Int))) => zA_turned ppl kd vl nb fr tl ss sl sh v d o k lane i n r u.1) (fun (u : Int × ((Int → Int) × (Int → Int))) => mW E ad u.1 ppl kd vl nb fr tl rA rP rk rv rn rf rt u.2.1 u.2.2 fs ss sl sh hd tr) 0 0 := by
  refine zMi_of (own := RX10) (cc := cX10_turned) (maxL := 10) (by decide) rfl (Nat.le_of_ble_eq_true rfl) rfl ?_
  intro p e s m args below meth c Q A S hK hA hS hP hD hAe hG hQ ls hl
  have hl : lv_has ls 10 [(0, .ref (ad 0)), (1, .int (jI (v))), (2, .int (jI (d))), (3, .int (jI (o))), (4, .int (jI (k))), (5, .int (jI (lane))), (6, .int (jI (i))), (7, .int (jI (n)))] := hl
  refine lv_aload_n S.1 S.2.1 dX10_turned_0 rfl (lv_at hl 0 rfl) ?_
  refine lv_iload_n S.1 S.2.1 dX10_turned_1 rfl (lv_at hl 1 rfl) ?_
  refine lv_iload S.1 S.2.1 dX10_turned_2 (lv_at hl 4 rfl) ?_
  refine lv_iload S.1 S.2.1 dX10_turned_4 (lv_at hl 5 rfl) ?_
  refine lv_iload S.1 S.2.1 dX10_turned_6 (lv_at hl 6 rfl) ?_
  refine lv_iload S.1 S.2.1 dX10_turned_8 (lv_at hl 7 rfl) ?_
  refine lv_iload_n S.1 S.2.1 dX10_turned_10 rfl (lv_at hl 2 rfl) ?_
  refine z_ri (z_rS S hK (c_X10_isDay l E d (by omega)) gX10_turned_X10_isDay rfl hs_X10_isDay ⟨Nat.le_of_ble_eq_true rfl, Nat.le_of_ble_eq_true rfl⟩ trivial hl.1 rfl (Nat.le_of_ble_eq_true rfl) ⟨by decide, by decide⟩ rfl dX10_turned_11) (fun r_11 h_11 => ?_)
  refine z_if_eq (tgt := 28) S dX10_turned_14 (by decide) (by omega) (fun c_14 => ?_) (fun c_14 => ?_)
  · skip
    refine z_iconst S dX10_turned_28 ?_
    refine z_miw (z_mV S hK (c_X10_rowBarred l E ad flt ppl kd vl nb fr tl rA rP rk rv rn rf rt can fw fs ss sl sh hd tr v k lane i n 0 (by omega) (by omega) (by omega) (by omega) (by omega) (by omega) (by omega) (hsh) (hcr) _) gX10_turned_X10_rowBarred rfl hv_X10_rowBarred ⟨Nat.le_of_ble_eq_true rfl, Nat.le_of_ble_eq_true rfl⟩ (va_recv hK hP (ci := 10) (q0 := 0) rfl rfl) hP hD trivial hl.1 rfl (Nat.le_of_ble_eq_true rfl) ⟨by decide, by decide⟩ rfl dX10_turned_29) hD hS hA (fun r_29 u H locs h_29 hP hD hS => ?_)
    obtain ⟨u29_flt, u29_flt_e⟩ : ∃ z, z = u := ⟨_, rfl⟩
    subst u29_flt_e
    try dsimp only at h_29
    have hP : zP E (mW E ad u29_flt ppl kd vl nb fr tl rA rP rk rv rn rf rt can fw fs ss sl sh hd tr) H := hP
    have hD : va_D A (mW E ad u29_flt ppl kd vl nb fr tl rA rP rk rv rn rf rt can fw fs ss sl sh hd tr) := hD
    have h_29b := zRow_r2 h_29
    refine lv_istore (lv' := [(8, .int (jI (r_29))), (0, .ref (ad 0)), (1, .int (jI (v))), (2, .int (jI (d))), (3, .int (jI (o))), (4, .int (jI (k))), (5, .int (jI (lane))), (6, .int (jI (i))), (7, .int (jI (n)))]) S.1 S.2.1 dX10_turned_32 hl (by decide) rfl (fun ls hl => ?_)
    refine lv_iload S.1 S.2.1 dX10_turned_34 (lv_at hl 0 rfl) ?_
    refine z_if_ge (tgt := 42) S dX10_turned_36 (by decide) (by omega) (fun c_36 => ?_) (fun c_36 => ?_)
    · exact absurd rfl (zRow_ok (h_29.elim (fun q => absurd q.1 (by omega)) (fun q => q.2.1))).2.1
    · skip
      refine lv_iload S.1 S.2.1 dX10_turned_39 (lv_at hl 0 rfl) ?_
      exact hQ (r_29) ((u29_flt, (can, fw))) _ _ (⟨_, _, zRow_cong (h_29.elim (fun q => q.2) (fun q => absurd q.1 (by omega))) (by omega), Or.inl ⟨by omega, rfl, rfl⟩⟩) hP hD hS _ _ dX10_turned_41
  · skip
    refine lv_iload_n S.1 S.2.1 dX10_turned_17 rfl (lv_at hl 3 rfl) ?_
    refine z_ri (z_rS S hK (c_X10_isDay l E o (by omega)) gX10_turned_X10_isDay rfl hs_X10_isDay ⟨Nat.le_of_ble_eq_true rfl, Nat.le_of_ble_eq_true rfl⟩ trivial hl.1 rfl (Nat.le_of_ble_eq_true rfl) ⟨by decide, by decide⟩ rfl dX10_turned_18) (fun r_18 h_18 => ?_)
    refine z_if_eq (tgt := 28) S dX10_turned_21 (by decide) (by omega) (fun c_21 => ?_) (fun c_21 => ?_)
    · skip
      refine z_iconst S dX10_turned_28 ?_
      refine z_miw (z_mV S hK (c_X10_rowBarred l E ad flt ppl kd vl nb fr tl rA rP rk rv rn rf rt can fw fs ss sl sh hd tr v k lane i n 0 (by omega) (by omega) (by omega) (by omega) (by omega) (by omega) (by omega) (hsh) (hcr) _) gX10_turned_X10_rowBarred rfl hv_X10_rowBarred ⟨Nat.le_of_ble_eq_true rfl, Nat.le_of_ble_eq_true rfl⟩ (va_recv hK hP (ci := 10) (q0 := 0) rfl rfl) hP hD trivial hl.1 rfl (Nat.le_of_ble_eq_true rfl) ⟨by decide, by decide⟩ rfl dX10_turned_29) hD hS hA (fun r_29 u H locs h_29 hP hD hS => ?_)
      obtain ⟨u29_flt, u29_flt_e⟩ : ∃ z, z = u := ⟨_, rfl⟩
      subst u29_flt_e
      try dsimp only at h_29
      have hP : zP E (mW E ad u29_flt ppl kd vl nb fr tl rA rP rk rv rn rf rt can fw fs ss sl sh hd tr) H := hP
      have hD : va_D A (mW E ad u29_flt ppl kd vl nb fr tl rA rP rk rv rn rf rt can fw fs ss sl sh hd tr) := hD
      have h_29b := zRow_r2 h_29
      refine lv_istore (lv' := [(8, .int (jI (r_29))), (0, .ref (ad 0)), (1, .int (jI (v))), (2, .int (jI (d))), (3, .int (jI (o))), (4, .int (jI (k))), (5, .int (jI (lane))), (6, .int (jI (i))), (7, .int (jI (n)))]) S.1 S.2.1 dX10_turned_32 hl (by decide) rfl (fun ls hl => ?_)
      refine lv_iload S.1 S.2.1 dX10_turned_34 (lv_at hl 0 rfl) ?_
      refine z_if_ge (tgt := 42) S dX10_turned_36 (by decide) (by omega) (fun c_36 => ?_) (fun c_36 => ?_)
      · exact absurd rfl (zRow_ok (h_29.elim (fun q => absurd q.1 (by omega)) (fun q => q.2.1))).2.1
      · skip
        refine lv_iload S.1 S.2.1 dX10_turned_39 (lv_at hl 0 rfl) ?_
        exact hQ (r_29) ((u29_flt, (can, fw))) _ _ (⟨_, _, zRow_cong (h_29.elim (fun q => q.2) (fun q => absurd q.1 (by omega))) (by omega), Or.inl ⟨by omega, rfl, rfl⟩⟩) hP hD hS _ _ dX10_turned_41
    · skip
      refine z_iconst S dX10_turned_24 ?_
      refine z_goto (tgt := 29) S dX10_turned_25 (by decide) ?_
      refine z_miw (z_mV S hK (c_X10_rowBarred l E ad flt ppl kd vl nb fr tl rA rP rk rv rn rf rt can fw fs ss sl sh hd tr v k lane i n 1 (by omega) (by omega) (by omega) (by omega) (by omega) (by omega) (by omega) (hsh) (hcr) _) gX10_turned_X10_rowBarred rfl hv_X10_rowBarred ⟨Nat.le_of_ble_eq_true rfl, Nat.le_of_ble_eq_true rfl⟩ (va_recv hK hP (ci := 10) (q0 := 0) rfl rfl) hP hD trivial hl.1 rfl (Nat.le_of_ble_eq_true rfl) ⟨by decide, by decide⟩ rfl dX10_turned_29) hD hS hA (fun r_29 u H locs h_29 hP hD hS => ?_)
      obtain ⟨u29_flt, u29_flt_e⟩ : ∃ z, z = u := ⟨_, rfl⟩
      subst u29_flt_e
      try dsimp only at h_29
      have hP : zP E (mW E ad u29_flt ppl kd vl nb fr tl rA rP rk rv rn rf rt can fw fs ss sl sh hd tr) H := hP
      have hD : va_D A (mW E ad u29_flt ppl kd vl nb fr tl rA rP rk rv rn rf rt can fw fs ss sl sh hd tr) := hD
      have h_29b := zRow_r2 h_29
      refine lv_istore (lv' := [(8, .int (jI (r_29))), (0, .ref (ad 0)), (1, .int (jI (v))), (2, .int (jI (d))), (3, .int (jI (o))), (4, .int (jI (k))), (5, .int (jI (lane))), (6, .int (jI (i))), (7, .int (jI (n)))]) S.1 S.2.1 dX10_turned_32 hl (by decide) rfl (fun ls hl => ?_)
      refine lv_iload S.1 S.2.1 dX10_turned_34 (lv_at hl 0 rfl) ?_
      refine z_if_ge (tgt := 42) S dX10_turned_36 (by decide) (by omega) (fun c_36 => ?_) (fun c_36 => ?_)
      · skip
        have ok2 := zRow_ok (h_29.elim (fun q => absurd q.1 (by omega)) (fun q => q.2.1))
        have hss := hsh k (by omega) (by omega)
        refine lv_aload_n S.1 S.2.1 dX10_turned_42 rfl (lv_at hl 1 rfl) ?_
        refine lv_iload_n S.1 S.2.1 dX10_turned_43 rfl (lv_at hl 2 rfl) ?_
        refine lv_iload_n S.1 S.2.1 dX10_turned_44 rfl (lv_at hl 3 rfl) ?_
        refine z_bipush S (by decide +kernel) dX10_turned_45 ?_
        refine lv_iload S.1 S.2.1 dX10_turned_47 (lv_at hl 5 rfl) ?_
        refine z_imul S dX10_turned_49 ?_
        refine lv_iload S.1 S.2.1 dX10_turned_50 (lv_at hl 7 rfl) ?_
        refine z_iadd S dX10_turned_52 ?_
        refine lv_iload S.1 S.2.1 dX10_turned_53 (lv_at hl 8 rfl) ?_
        refine z_ri (z_rV S hK (c_X10_meant l E ad u29_flt ppl kd vl nb fr tl rA rP rk rv rn rf rt can fw fs ss sl sh hd tr v d ((100 * k) + i) n (by omega) (by omega) (by omega) (ok2.2.2.1) (by omega) (hpe)) gX10_turned_X10_meant rfl hv_X10_meant ⟨Nat.le_of_ble_eq_true rfl, Nat.le_of_ble_eq_true rfl⟩ (va_recv hK hP (ci := 10) (q0 := 0) rfl rfl) hP hl.1 rfl (Nat.le_of_ble_eq_true rfl) ⟨by decide, by decide⟩ rfl dX10_turned_55) (fun r_55 h_55 => ?_)
        have hmr := zMean_rng h_55 (by omega) (fun j q1 q2 => (hpe _ (ok2.2.2.1 j q1 q2).1 (ok2.2.2.1 j q1 q2).2).2.2.1)
        refine lv_istore (lv' := [(9, .int (jI (r_55))), (8, .int (jI (r_29))), (0, .ref (ad 0)), (1, .int (jI (v))), (2, .int (jI (d))), (3, .int (jI (o))), (4, .int (jI (k))), (5, .int (jI (lane))), (6, .int (jI (i))), (7, .int (jI (n)))]) S.1 S.2.1 dX10_turned_58 hl (by decide) rfl (fun ls hl => ?_)
        refine lv_iload S.1 S.2.1 dX10_turned_60 (lv_at hl 0 rfl) ?_
        refine z_i2l S (by omega) dX10_turned_62 ?_
        refine z_lconst (z := 0) S (by decide +kernel) dX10_turned_63 ?_
        refine z_ldc2 (n := 999) S q_X10_turned_1 (by decide +kernel) dX10_turned_64 ?_
        refine z_ri (z_rS S hK (c_X10_in l E r_55 0 999 (by omega) (by omega) (by omega)) gX10_turned_X10_in rfl hs_X10_in ⟨Nat.le_of_ble_eq_true rfl, Nat.le_of_ble_eq_true rfl⟩ trivial hl.1 rfl (Nat.le_of_ble_eq_true rfl) ⟨by decide, by decide⟩ rfl dX10_turned_67) (fun r_67 h_67 => ?_)
        refine z_if_ne (tgt := 80) S dX10_turned_70 (by decide) (by omega) (fun c_70 => ?_) (fun c_70 => ?_)
        · skip
          refine lv_aload_n S.1 S.2.1 dX10_turned_80 rfl (lv_at hl 2 rfl) ?_
          refine lv_iload_n S.1 S.2.1 dX10_turned_81 rfl (lv_at hl 3 rfl) ?_
          refine lv_iload_n S.1 S.2.1 dX10_turned_82 rfl (lv_at hl 5 rfl) ?_
          refine lv_iload S.1 S.2.1 dX10_turned_83 (lv_at hl 0 rfl) ?_
          refine z_mvw (z_mV S hK (c_X10_laySaid l E ad u29_flt ppl kd vl nb fr tl rA rP rk rv rn rf rt can fw fs ss sl sh hd tr v o r_55 (by omega) (by omega) (by omega) (by omega) (hpe) _) gX10_turned_X10_laySaid rfl hv_X10_laySaid ⟨Nat.le_of_ble_eq_true rfl, Nat.le_of_ble_eq_true rfl⟩ (va_recv hK hP (ci := 10) (q0 := 0) rfl rfl) hP hD trivial hl.1 rfl (Nat.le_of_ble_eq_true rfl) ⟨by decide, by decide⟩ rfl dX10_turned_85) hD hS hA (fun u H locs h_85 hP hD hS => ?_)
          obtain ⟨u85_can, u85_fw⟩ := u
          try dsimp only at h_85
          have hP : zP E (mW E ad u29_flt ppl kd vl nb fr tl rA rP rk rv rn rf rt u85_can u85_fw fs ss sl sh hd tr) H := hP
          have hD : va_D A (mW E ad u29_flt ppl kd vl nb fr tl rA rP rk rv rn rf rt u85_can u85_fw fs ss sl sh hd tr) := hD
          have hfr := zTab_rng h_85.2 (q := r_55) (by omega) (by omega)
          refine lv_aload_n S.1 S.2.1 dX10_turned_88 rfl (lv_at hl 2 rfl) ?_
          refine lv_aload_n S.1 S.2.1 dX10_turned_89 rfl (lv_at hl 2 rfl) ?_
          refine z_get S hK hP 0 rfl rfl 15 (by decide) i_X10_turned_10 q_X10_turned_2 rfl dX10_turned_90 ?_
          refine lv_iload S.1 S.2.1 dX10_turned_93 (lv_at hl 0 rfl) ?_
          refine z_iald S hK hP 12 rfl (by omega) dX10_turned_95 ?_
          refine z_sipush S (by decide +kernel) dX10_turned_96 ?_
          refine z_icmp_lt (tgt := 107) S dX10_turned_99 (by decide) (by omega) (fun c_99 => ?_) (fun c_99 => ?_)
          · skip
            refine lv_aload_n S.1 S.2.1 dX10_turned_107 rfl (lv_at hl 2 rfl) ?_
            refine z_get S hK hP 0 rfl rfl 15 (by decide) i_X10_turned_10 q_X10_turned_2 rfl dX10_turned_108 ?_
            refine lv_iload S.1 S.2.1 dX10_turned_111 (lv_at hl 0 rfl) ?_
            refine z_iald S hK hP 12 rfl (by omega) dX10_turned_113 ?_
            refine z_miw (z_mV S hK (c_X10_refused l E ad u29_flt ppl kd vl nb fr tl rA rP rk rv rn rf rt u85_can u85_fw fs ss sl sh hd tr (u85_fw (r_55)) _) gX10_turned_X10_refused rfl hv_X10_refused ⟨Nat.le_of_ble_eq_true rfl, Nat.le_of_ble_eq_true rfl⟩ (va_recv hK hP (ci := 10) (q0 := 0) rfl rfl) hP hD trivial hl.1 rfl (Nat.le_of_ble_eq_true rfl) ⟨by decide, by decide⟩ rfl dX10_turned_114) hD hS hA (fun r_114 u H locs h_114 hP hD hS => ?_)
            rw [h_114]
            have hP : zP E (mW E ad 0 ppl kd vl nb fr tl rA rP rk rv rn rf rt u85_can u85_fw fs ss sl sh hd tr) H := hP
            have hD : va_D A (mW E ad 0 ppl kd vl nb fr tl rA rP rk rv rn rf rt u85_can u85_fw fs ss sl sh hd tr) := hD
            exact hQ (((u85_fw (r_55)))) ((0, (u85_can, u85_fw))) _ _ (⟨_, _, zRow_cong (h_29.elim (fun q => absurd q.1 (by omega)) (fun q => q.2.1)) (by omega), Or.inr ⟨rfl, rfl, ⟨r_55, h_55, Or.inr ⟨by omega, zFewest_of h_85.2 (by omega) (by omega) (by omega)⟩⟩⟩⟩) hP hD hS _ _ dX10_turned_117
          · skip
            refine z_bipush S (by decide +kernel) dX10_turned_102 ?_
            refine z_goto (tgt := 114) S dX10_turned_104 (by decide) ?_
            refine z_miw (z_mV S hK (c_X10_refused l E ad u29_flt ppl kd vl nb fr tl rA rP rk rv rn rf rt u85_can u85_fw fs ss sl sh hd tr (-9) _) gX10_turned_X10_refused rfl hv_X10_refused ⟨Nat.le_of_ble_eq_true rfl, Nat.le_of_ble_eq_true rfl⟩ (va_recv hK hP (ci := 10) (q0 := 0) rfl rfl) hP hD trivial hl.1 rfl (Nat.le_of_ble_eq_true rfl) ⟨by decide, by decide⟩ rfl dX10_turned_114) hD hS hA (fun r_114 u H locs h_114 hP hD hS => ?_)
            rw [h_114]
            have hP : zP E (mW E ad 0 ppl kd vl nb fr tl rA rP rk rv rn rf rt u85_can u85_fw fs ss sl sh hd tr) H := hP
            have hD : va_D A (mW E ad 0 ppl kd vl nb fr tl rA rP rk rv rn rf rt u85_can u85_fw fs ss sl sh hd tr) := hD
            exact hQ (((-9))) ((0, (u85_can, u85_fw))) _ _ (⟨_, _, zRow_cong (h_29.elim (fun q => absurd q.1 (by omega)) (fun q => q.2.1)) (by omega), Or.inr ⟨rfl, rfl, ⟨r_55, h_55, Or.inr ⟨by omega, zFewest_of h_85.2 (by omega) (by omega) (by omega)⟩⟩⟩⟩) hP hD hS _ _ dX10_turned_117
        · skip
          refine lv_aload_n S.1 S.2.1 dX10_turned_73 rfl (lv_at hl 2 rfl) ?_
          refine z_bipush S (by decide +kernel) dX10_turned_74 ?_
          refine z_miw (z_mV S hK (c_X10_refused l E ad u29_flt ppl kd vl nb fr tl rA rP rk rv rn rf rt can fw fs ss sl sh hd tr (-9) _) gX10_turned_X10_refused rfl hv_X10_refused ⟨Nat.le_of_ble_eq_true rfl, Nat.le_of_ble_eq_true rfl⟩ (va_recv hK hP (ci := 10) (q0 := 0) rfl rfl) hP hD trivial hl.1 rfl (Nat.le_of_ble_eq_true rfl) ⟨by decide, by decide⟩ rfl dX10_turned_76) hD hS hA (fun r_76 u H locs h_76 hP hD hS => ?_)
          rw [h_76]
          have hP : zP E (mW E ad 0 ppl kd vl nb fr tl rA rP rk rv rn rf rt can fw fs ss sl sh hd tr) H := hP
          have hD : va_D A (mW E ad 0 ppl kd vl nb fr tl rA rP rk rv rn rf rt can fw fs ss sl sh hd tr) := hD
          exact hQ (((-9))) ((0, (can, fw))) _ _ (⟨_, _, zRow_cong (h_29.elim (fun q => absurd q.1 (by omega)) (fun q => q.2.1)) (by omega), Or.inr ⟨rfl, rfl, ⟨r_55, h_55, Or.inl ⟨by omega, rfl⟩⟩⟩⟩) hP hD hS _ _ dX10_turned_79
      · skip
        refine lv_iload S.1 S.2.1 dX10_turned_39 (lv_at hl 0 rfl) ?_
        exact hQ (r_29) ((u29_flt, (can, fw))) _ _ (⟨_, _, zRow_cong (h_29.elim (fun q => q.2) (fun q => absurd q.1 (by omega))) (by omega), Or.inl ⟨by omega, rfl, rfl⟩⟩) hP hD hS _ _ dX10_turned_41

set_option maxHeartbeats 1000000 in
set_option maxRecDepth 20000 in
theorem c_X10_written (l : Launch) (E : zE) (ad : Nat → Nat) (flt ppl : Int) (kd vl nb fr tl : Int → Int) (rA rP : Int) (rk rv rn rf rt can fw fs ss sl sh hd : Int → Int) (tr : Int) (v : Int) (k : Int) (lane : Int) (i : Int) (n : Int) (what : Int) (h_v : -2147483648 ≤ v ∧ v ≤ 2147483647) (h_k : -2147483648 ≤ k ∧ k ≤ 2147483647) (h_lane : -2147483648 ≤ lane ∧ lane ≤ 2147483647) (h_i : -2147483648 ≤ i ∧ i ≤ 2147483647) (h_n : -2147483648 ≤ n ∧ n ≤ 2147483647) (h_what : -2147483648 ≤ what ∧ what ≤ 2147483647) (hp : 0 ≤ ppl ∧ ppl ≤ 10) (hpe : zPeo ppl kd vl nb fr tl) (hsh : zShe ss sl) (hcr : zRg sh) : zMi l E yX10_written wsX10_written (zr 5 0 0) [.ref (ad 0), .int (jI (v)), .int (jI (k)), .int (jI (lane)), .int (jI (i)), .int (jI (n)), .int (jI (what))] (mW E ad flt ppl kd vl nb fr tl rA rP rk rv rn rf rt can fw fs ss sl sh hd tr) (fun _ => True) (fun r (u : Int) => zA_written ppl kd vl nb fr tl ss sl sh v k lane i n what r u) (fun (u : Int) => mW E ad u ppl kd vl nb fr tl rA rP rk rv rn rf rt can fw fs ss sl sh hd tr) 0 0 := by
  refine zMi_of (own := RX10) (cc := cX10_written) (maxL := 12) (by decide) rfl (Nat.le_of_ble_eq_true rfl) rfl ?_
  intro p e s m args below meth c Q A S hK hA hS hP hD hAe hG hQ ls hl
  have hl : lv_has ls 12 [(0, .ref (ad 0)), (1, .int (jI (v))), (2, .int (jI (k))), (3, .int (jI (lane))), (4, .int (jI (i))), (5, .int (jI (n))), (6, .int (jI (what)))] := hl
  refine lv_aload_n S.1 S.2.1 dX10_written_0 rfl (lv_at hl 0 rfl) ?_
  refine lv_iload_n S.1 S.2.1 dX10_written_1 rfl (lv_at hl 1 rfl) ?_
  refine lv_iload_n S.1 S.2.1 dX10_written_2 rfl (lv_at hl 2 rfl) ?_
  refine lv_iload_n S.1 S.2.1 dX10_written_3 rfl (lv_at hl 3 rfl) ?_
  refine lv_iload S.1 S.2.1 dX10_written_4 (lv_at hl 4 rfl) ?_
  refine lv_iload S.1 S.2.1 dX10_written_6 (lv_at hl 5 rfl) ?_
  refine lv_iload S.1 S.2.1 dX10_written_8 (lv_at hl 6 rfl) ?_
  refine z_i2l S (by omega) dX10_written_10 ?_
  refine z_lconst (z := 0) S (by decide +kernel) dX10_written_11 ?_
  refine z_ldc2 (n := 2) S q_X10_written_1 (by decide +kernel) dX10_written_12 ?_
  refine z_ri (z_rS S hK (c_X10_in l E what 0 2 (by omega) (by omega) (by omega)) gX10_written_X10_in rfl hs_X10_in ⟨Nat.le_of_ble_eq_true rfl, Nat.le_of_ble_eq_true rfl⟩ trivial hl.1 rfl (Nat.le_of_ble_eq_true rfl) ⟨by decide, by decide⟩ rfl dX10_written_15) (fun r_15 h_15 => ?_)
  refine z_miw (z_mV S hK (c_X10_rowBarred l E ad flt ppl kd vl nb fr tl rA rP rk rv rn rf rt can fw fs ss sl sh hd tr v k lane i n r_15 (by omega) (by omega) (by omega) (by omega) (by omega) (by omega) (by omega) (hsh) (hcr) _) gX10_written_X10_rowBarred rfl hv_X10_rowBarred ⟨Nat.le_of_ble_eq_true rfl, Nat.le_of_ble_eq_true rfl⟩ (va_recv hK hP (ci := 10) (q0 := 0) rfl rfl) hP hD trivial hl.1 rfl (Nat.le_of_ble_eq_true rfl) ⟨by decide, by decide⟩ rfl dX10_written_18) hD hS hA (fun r_18 u H locs h_18 hP hD hS => ?_)
  obtain ⟨u18_flt, u18_flt_e⟩ : ∃ z, z = u := ⟨_, rfl⟩
  subst u18_flt_e
  try dsimp only at h_18
  have hP : zP E (mW E ad u18_flt ppl kd vl nb fr tl rA rP rk rv rn rf rt can fw fs ss sl sh hd tr) H := hP
  have hD : va_D A (mW E ad u18_flt ppl kd vl nb fr tl rA rP rk rv rn rf rt can fw fs ss sl sh hd tr) := hD
  have h_18b := zRow_r2 h_18
  refine lv_istore (lv' := [(7, .int (jI (r_18))), (0, .ref (ad 0)), (1, .int (jI (v))), (2, .int (jI (k))), (3, .int (jI (lane))), (4, .int (jI (i))), (5, .int (jI (n))), (6, .int (jI (what)))]) S.1 S.2.1 dX10_written_21 hl (by decide) rfl (fun ls hl => ?_)
  refine lv_iload S.1 S.2.1 dX10_written_23 (lv_at hl 0 rfl) ?_
  refine z_if_ge (tgt := 31) S dX10_written_25 (by decide) (by omega) (fun c_25 => ?_) (fun c_25 => ?_)
  · skip
    have ok2 := zRow_ok (h_18.elim (fun q => absurd q.1 (by omega)) (fun q => q.2.1))
    have hss := hsh k (by omega) (by omega)
    refine z_iconst S dX10_written_31 ?_
    refine lv_istore (lv' := [(8, .int (jI (0))), (7, .int (jI (r_18))), (0, .ref (ad 0)), (1, .int (jI (v))), (2, .int (jI (k))), (3, .int (jI (lane))), (4, .int (jI (i))), (5, .int (jI (n))), (6, .int (jI (what)))]) S.1 S.2.1 dX10_written_32 hl (by decide) rfl (fun ls hl => ?_)
    refine z_bipush S (by decide +kernel) dX10_written_34 ?_
    refine lv_istore (lv' := [(9, .int (jI (-9))), (8, .int (jI (0))), (7, .int (jI (r_18))), (0, .ref (ad 0)), (1, .int (jI (v))), (2, .int (jI (k))), (3, .int (jI (lane))), (4, .int (jI (i))), (5, .int (jI (n))), (6, .int (jI (what)))]) S.1 S.2.1 dX10_written_36 hl (by decide) rfl (fun ls hl => ?_)
    refine z_bipush S (by decide +kernel) dX10_written_38 ?_
    refine lv_istore (lv' := [(10, .int (jI (-9))), (9, .int (jI (-9))), (8, .int (jI (0))), (7, .int (jI (r_18))), (0, .ref (ad 0)), (1, .int (jI (v))), (2, .int (jI (k))), (3, .int (jI (lane))), (4, .int (jI (i))), (5, .int (jI (n))), (6, .int (jI (what)))]) S.1 S.2.1 dX10_written_40 hl (by decide) rfl (fun ls hl => ?_)
    refine z_iconst S dX10_written_42 ?_
    refine lv_istore (lv' := [(11, .int (jI (0))), (10, .int (jI (-9))), (9, .int (jI (-9))), (8, .int (jI (0))), (7, .int (jI (r_18))), (0, .ref (ad 0)), (1, .int (jI (v))), (2, .int (jI (k))), (3, .int (jI (lane))), (4, .int (jI (i))), (5, .int (jI (n))), (6, .int (jI (what)))]) S.1 S.2.1 dX10_written_43 hl (by decide) rfl (fun ls hl => ?_)
    suffices HL_1 : ∀ (n_2 : Nat) (dy : Int) (mn : Int) (so : Int) (la : Int), (110 - dy).toNat < n_2 → (0 ≤ dy ∧ dy ≤ 110) → (mn = zcnt (fun x => (fun d => ∀ j, 0 ≤ j → j < n → zlive kd vl fr tl (sh (100 * k + i + j)) v d) (x - 1)) dy.toNat) → ((0 ≤ mn ∧ mn ≤ dy) ∧ (-9 ≤ so ∧ so ≤ 110) ∧ (-9 ≤ la ∧ la ≤ 110)) → (zFst (fun d => ∀ j, 0 ≤ j → j < n → zlive kd vl fr tl (sh (100 * k + i + j)) v d) dy so) → (zLst (fun d => ∀ j, 0 ≤ j → j < n → zlive kd vl fr tl (sh (100 * k + i + j)) v d) dy la) → ∀ (H : Heap) (locs : List Loc), zP E (mW E ad u18_flt ppl kd vl nb fr tl rA rP rk rv rn rf rt can fw fs ss sl sh hd tr) H → va_D A (mW E ad u18_flt ppl kd vl nb fr tl rA rP rk rv rn rf rt can fw fs ss sl sh hd tr) → va_S A s.heap H locs → ∀ (ls : Array Slot), lv_has ls 12 [(11, .int (jI (dy))), (8, .int (jI (mn))), (9, .int (jI (so))), (10, .int (jI (la))), (0, .ref (ad 0)), (1, .int (jI (v))), (2, .int (jI (k))), (3, .int (jI (lane))), (4, .int (jI (i))), (5, .int (jI (n))), (6, .int (jI (what)))] → W p l e (zr 5 0 0) s m args below meth c H locs 0 0 Q (F0 m 45 ls []) from
      HL_1 _ 0 0 (-9) (-9) (Nat.lt_succ_self _) (by omega) (rfl) (by omega) (zFst_0) (zLst_0) _ _ hP hD hS ls (lv_sub hl [0, 3, 2, 1, 5, 6, 7, 8, 9, 10, 11] rfl)
    intro n_2
    induction n_2 with
    | zero => intro dy mn so la hm hdy hmn hr3 hso hla; exact absurd hm (Nat.not_lt_zero _)
    | succ n_2 ih_3 =>
      intro dy mn so la hm hdy hmn hr3 hso hla H locs hP hD hS ls hl
      refine lv_iload S.1 S.2.1 dX10_written_45 (lv_at hl 0 rfl) ?_
      refine z_bipush S (by decide +kernel) dX10_written_47 ?_
      refine z_icmp_ge (tgt := 98) S dX10_written_49 (by decide) (by omega) (fun c_49 => ?_) (fun c_49 => ?_)
      · skip
        refine lv_aload_n S.1 S.2.1 dX10_written_98 rfl (lv_at hl 4 rfl) ?_
        refine lv_iload S.1 S.2.1 dX10_written_99 (lv_at hl 10 rfl) ?_
        refine z_if_ne (tgt := 109) S dX10_written_101 (by decide) (by omega) (fun c_101 => ?_) (fun c_101 => ?_)
        · skip
          refine lv_iload S.1 S.2.1 dX10_written_109 (lv_at hl 10 rfl) ?_
          refine z_iconst S dX10_written_111 ?_
          refine z_icmp_ne (tgt := 120) S dX10_written_112 (by decide) (by omega) (fun c_112 => ?_) (fun c_112 => ?_)
          · skip
            refine lv_iload S.1 S.2.1 dX10_written_120 (lv_at hl 3 rfl) ?_
            refine z_miw (z_mV S hK (c_X10_refused l E ad u18_flt ppl kd vl nb fr tl rA rP rk rv rn rf rt can fw fs ss sl sh hd tr la _) gX10_written_X10_refused rfl hv_X10_refused ⟨Nat.le_of_ble_eq_true rfl, Nat.le_of_ble_eq_true rfl⟩ (va_recv hK hP (ci := 10) (q0 := 0) rfl rfl) hP hD trivial hl.1 rfl (Nat.le_of_ble_eq_true rfl) ⟨by decide, by decide⟩ rfl dX10_written_122) hD hS hA (fun r_122 u H locs h_122 hP hD hS => ?_)
            rw [h_122]
            have hP : zP E (mW E ad 0 ppl kd vl nb fr tl rA rP rk rv rn rf rt can fw fs ss sl sh hd tr) H := hP
            have hD : va_D A (mW E ad 0 ppl kd vl nb fr tl rA rP rk rv rn rf rt can fw fs ss sl sh hd tr) := hD
            exact hQ (la) (0) _ _ (⟨_, _, zRow_cong (h_18.elim (fun q => absurd q.1 (by omega)) (fun q => q.2.1)) (by omega), Or.inr ⟨rfl, rfl, by first | exact Or.inl ⟨by omega, by rw [hmn, show dy = 110 by omega]; rfl⟩ | exact Or.inr (Or.inl ⟨by omega, by rw [show dy = 110 by omega] at hso; exact hso⟩) | exact Or.inr (Or.inr ⟨by omega, by rw [show dy = 110 by omega] at hla; exact hla⟩)⟩⟩) hP hD hS _ _ dX10_written_125
          · skip
            refine lv_iload S.1 S.2.1 dX10_written_115 (lv_at hl 2 rfl) ?_
            refine z_goto (tgt := 122) S dX10_written_117 (by decide) ?_
            refine z_miw (z_mV S hK (c_X10_refused l E ad u18_flt ppl kd vl nb fr tl rA rP rk rv rn rf rt can fw fs ss sl sh hd tr so _) gX10_written_X10_refused rfl hv_X10_refused ⟨Nat.le_of_ble_eq_true rfl, Nat.le_of_ble_eq_true rfl⟩ (va_recv hK hP (ci := 10) (q0 := 0) rfl rfl) hP hD trivial hl.1 rfl (Nat.le_of_ble_eq_true rfl) ⟨by decide, by decide⟩ rfl dX10_written_122) hD hS hA (fun r_122 u H locs h_122 hP hD hS => ?_)
            rw [h_122]
            have hP : zP E (mW E ad 0 ppl kd vl nb fr tl rA rP rk rv rn rf rt can fw fs ss sl sh hd tr) H := hP
            have hD : va_D A (mW E ad 0 ppl kd vl nb fr tl rA rP rk rv rn rf rt can fw fs ss sl sh hd tr) := hD
            exact hQ (so) (0) _ _ (⟨_, _, zRow_cong (h_18.elim (fun q => absurd q.1 (by omega)) (fun q => q.2.1)) (by omega), Or.inr ⟨rfl, rfl, by first | exact Or.inl ⟨by omega, by rw [hmn, show dy = 110 by omega]; rfl⟩ | exact Or.inr (Or.inl ⟨by omega, by rw [show dy = 110 by omega] at hso; exact hso⟩) | exact Or.inr (Or.inr ⟨by omega, by rw [show dy = 110 by omega] at hla; exact hla⟩)⟩⟩) hP hD hS _ _ dX10_written_125
        · skip
          refine lv_iload S.1 S.2.1 dX10_written_104 (lv_at hl 1 rfl) ?_
          refine z_goto (tgt := 122) S dX10_written_106 (by decide) ?_
          refine z_miw (z_mV S hK (c_X10_refused l E ad u18_flt ppl kd vl nb fr tl rA rP rk rv rn rf rt can fw fs ss sl sh hd tr mn _) gX10_written_X10_refused rfl hv_X10_refused ⟨Nat.le_of_ble_eq_true rfl, Nat.le_of_ble_eq_true rfl⟩ (va_recv hK hP (ci := 10) (q0 := 0) rfl rfl) hP hD trivial hl.1 rfl (Nat.le_of_ble_eq_true rfl) ⟨by decide, by decide⟩ rfl dX10_written_122) hD hS hA (fun r_122 u H locs h_122 hP hD hS => ?_)
          rw [h_122]
          have hP : zP E (mW E ad 0 ppl kd vl nb fr tl rA rP rk rv rn rf rt can fw fs ss sl sh hd tr) H := hP
          have hD : va_D A (mW E ad 0 ppl kd vl nb fr tl rA rP rk rv rn rf rt can fw fs ss sl sh hd tr) := hD
          exact hQ (mn) (0) _ _ (⟨_, _, zRow_cong (h_18.elim (fun q => absurd q.1 (by omega)) (fun q => q.2.1)) (by omega), Or.inr ⟨rfl, rfl, by first | exact Or.inl ⟨by omega, by rw [hmn, show dy = 110 by omega]; rfl⟩ | exact Or.inr (Or.inl ⟨by omega, by rw [show dy = 110 by omega] at hso; exact hso⟩) | exact Or.inr (Or.inr ⟨by omega, by rw [show dy = 110 by omega] at hla; exact hla⟩)⟩⟩) hP hD hS _ _ dX10_written_125
      · skip
        refine lv_aload_n S.1 S.2.1 dX10_written_52 rfl (lv_at hl 4 rfl) ?_
        refine lv_iload_n S.1 S.2.1 dX10_written_53 rfl (lv_at hl 5 rfl) ?_
        refine lv_iload S.1 S.2.1 dX10_written_54 (lv_at hl 0 rfl) ?_
        refine z_bipush S (by decide +kernel) dX10_written_56 ?_
        refine lv_iload_n S.1 S.2.1 dX10_written_58 rfl (lv_at hl 6 rfl) ?_
        refine z_imul S dX10_written_59 ?_
        refine lv_iload S.1 S.2.1 dX10_written_60 (lv_at hl 8 rfl) ?_
        refine z_iadd S dX10_written_62 ?_
        refine lv_iload S.1 S.2.1 dX10_written_63 (lv_at hl 9 rfl) ?_
        refine z_ri (z_rV S hK (c_X10_meant l E ad u18_flt ppl kd vl nb fr tl rA rP rk rv rn rf rt can fw fs ss sl sh hd tr v dy ((100 * k) + i) n (by omega) (by omega) (by omega) (ok2.2.2.1) (by omega) (hpe)) gX10_written_X10_meant rfl hv_X10_meant ⟨Nat.le_of_ble_eq_true rfl, Nat.le_of_ble_eq_true rfl⟩ (va_recv hK hP (ci := 10) (q0 := 0) rfl rfl) hP hl.1 rfl (Nat.le_of_ble_eq_true rfl) ⟨by decide, by decide⟩ rfl dX10_written_65) (fun r_65 h_65 => ?_)
        have hsg := zMean_sg h_65 (by omega) (fun j q1 q2 => (hpe _ (ok2.2.2.1 j q1 q2).1 (ok2.2.2.1 j q1 q2).2).2.2.1)
        have hmr := zMean_rng h_65 (by omega) (fun j q1 q2 => (hpe _ (ok2.2.2.1 j q1 q2).1 (ok2.2.2.1 j q1 q2).2).2.2.1)
        refine z_if_lt (tgt := 92) S dX10_written_68 (by decide) (by omega) (fun c_68 => ?_) (fun c_68 => ?_)
        · skip
          refine z_iinc (lv' := [(11, .int (jI (dy + 1))), (8, .int (jI (mn))), (9, .int (jI (so))), (10, .int (jI (la))), (0, .ref (ad 0)), (1, .int (jI (v))), (2, .int (jI (k))), (3, .int (jI (lane))), (4, .int (jI (i))), (5, .int (jI (n))), (6, .int (jI (what)))]) S hl (k := 0) rfl (by decide) rfl dX10_written_92 (fun ls hl => ?_)
          refine z_goto (tgt := 45) S dX10_written_95 (by decide) ?_
          exact ih_3 (dy + 1) mn so la (by omega) (by omega) (by first | exact hmn.trans (zcnt0_f (P := (fun d => ∀ j, 0 ≤ j → j < n → zlive kd vl fr tl (sh (100 * k + i + j)) v d)) (by omega) (hsg.elim (fun q => absurd q.1 (by omega)) (fun q => q.2))).symm | rw [zcnt0_t (P := (fun d => ∀ j, 0 ≤ j → j < n → zlive kd vl fr tl (sh (100 * k + i + j)) v d)) (by omega) (hsg.elim (fun q => q.2) (fun q => absurd q.1 (by omega))), ← hmn]) (by omega) (by first | exact zFst_no hso (hsg.elim (fun q => absurd q.1 (by omega)) (fun q => q.2)) | exact zFst_keep hso (by omega) | exact zFst_new hso (by omega) (by omega) (hsg.elim (fun q => q.2) (fun q => absurd q.1 (by omega)))) (by first | exact zLst_no hla (hsg.elim (fun q => absurd q.1 (by omega)) (fun q => q.2)) | exact zLst_yes (by omega) (hsg.elim (fun q => q.2) (fun q => absurd q.1 (by omega)))) _ _ hP hD hS ls (lv_sub hl [0, 1, 2, 3, 4, 5, 6, 7, 8, 9, 10] rfl)
        · skip
          refine z_iinc (lv' := [(8, .int (jI (mn + 1))), (11, .int (jI (dy))), (9, .int (jI (so))), (10, .int (jI (la))), (0, .ref (ad 0)), (1, .int (jI (v))), (2, .int (jI (k))), (3, .int (jI (lane))), (4, .int (jI (i))), (5, .int (jI (n))), (6, .int (jI (what)))]) S hl (k := 1) rfl (by decide) rfl dX10_written_71 (fun ls hl => ?_)
          refine lv_iload S.1 S.2.1 dX10_written_74 (lv_at hl 2 rfl) ?_
          refine z_if_ge (tgt := 84) S dX10_written_76 (by decide) (by omega) (fun c_76 => ?_) (fun c_76 => ?_)
          · skip
            refine lv_iload S.1 S.2.1 dX10_written_84 (lv_at hl 2 rfl) ?_
            refine lv_istore (lv' := [(9, .int (jI (so))), (8, .int (jI (mn + 1))), (11, .int (jI (dy))), (10, .int (jI (la))), (0, .ref (ad 0)), (1, .int (jI (v))), (2, .int (jI (k))), (3, .int (jI (lane))), (4, .int (jI (i))), (5, .int (jI (n))), (6, .int (jI (what)))]) S.1 S.2.1 dX10_written_86 hl (by decide) rfl (fun ls hl => ?_)
            refine lv_iload S.1 S.2.1 dX10_written_88 (lv_at hl 2 rfl) ?_
            refine lv_istore (lv' := [(10, .int (jI (dy))), (9, .int (jI (so))), (8, .int (jI (mn + 1))), (11, .int (jI (dy))), (0, .ref (ad 0)), (1, .int (jI (v))), (2, .int (jI (k))), (3, .int (jI (lane))), (4, .int (jI (i))), (5, .int (jI (n))), (6, .int (jI (what)))]) S.1 S.2.1 dX10_written_90 hl (by decide) rfl (fun ls hl => ?_)
            refine z_iinc (lv' := [(11, .int (jI (dy + 1))), (10, .int (jI (dy))), (9, .int (jI (so))), (8, .int (jI (mn + 1))), (0, .ref (ad 0)), (1, .int (jI (v))), (2, .int (jI (k))), (3, .int (jI (lane))), (4, .int (jI (i))), (5, .int (jI (n))), (6, .int (jI (what)))]) S hl (k := 3) rfl (by decide) rfl dX10_written_92 (fun ls hl => ?_)
            refine z_goto (tgt := 45) S dX10_written_95 (by decide) ?_
            exact ih_3 (dy + 1) (mn + 1) so dy (by omega) (by omega) (by first | exact hmn.trans (zcnt0_f (P := (fun d => ∀ j, 0 ≤ j → j < n → zlive kd vl fr tl (sh (100 * k + i + j)) v d)) (by omega) (hsg.elim (fun q => absurd q.1 (by omega)) (fun q => q.2))).symm | rw [zcnt0_t (P := (fun d => ∀ j, 0 ≤ j → j < n → zlive kd vl fr tl (sh (100 * k + i + j)) v d)) (by omega) (hsg.elim (fun q => q.2) (fun q => absurd q.1 (by omega))), ← hmn]) (by omega) (by first | exact zFst_no hso (hsg.elim (fun q => absurd q.1 (by omega)) (fun q => q.2)) | exact zFst_keep hso (by omega) | exact zFst_new hso (by omega) (by omega) (hsg.elim (fun q => q.2) (fun q => absurd q.1 (by omega)))) (by first | exact zLst_no hla (hsg.elim (fun q => absurd q.1 (by omega)) (fun q => q.2)) | exact zLst_yes (by omega) (hsg.elim (fun q => q.2) (fun q => absurd q.1 (by omega)))) _ _ hP hD hS ls (lv_sub hl [0, 3, 2, 1, 4, 5, 6, 7, 8, 9, 10] rfl)
          · skip
            refine lv_iload S.1 S.2.1 dX10_written_79 (lv_at hl 1 rfl) ?_
            refine z_goto (tgt := 86) S dX10_written_81 (by decide) ?_
            refine lv_istore (lv' := [(9, .int (jI (dy))), (8, .int (jI (mn + 1))), (11, .int (jI (dy))), (10, .int (jI (la))), (0, .ref (ad 0)), (1, .int (jI (v))), (2, .int (jI (k))), (3, .int (jI (lane))), (4, .int (jI (i))), (5, .int (jI (n))), (6, .int (jI (what)))]) S.1 S.2.1 dX10_written_86 hl (by decide) rfl (fun ls hl => ?_)
            refine lv_iload S.1 S.2.1 dX10_written_88 (lv_at hl 2 rfl) ?_
            refine lv_istore (lv' := [(10, .int (jI (dy))), (9, .int (jI (dy))), (8, .int (jI (mn + 1))), (11, .int (jI (dy))), (0, .ref (ad 0)), (1, .int (jI (v))), (2, .int (jI (k))), (3, .int (jI (lane))), (4, .int (jI (i))), (5, .int (jI (n))), (6, .int (jI (what)))]) S.1 S.2.1 dX10_written_90 hl (by decide) rfl (fun ls hl => ?_)
            refine z_iinc (lv' := [(11, .int (jI (dy + 1))), (10, .int (jI (dy))), (9, .int (jI (dy))), (8, .int (jI (mn + 1))), (0, .ref (ad 0)), (1, .int (jI (v))), (2, .int (jI (k))), (3, .int (jI (lane))), (4, .int (jI (i))), (5, .int (jI (n))), (6, .int (jI (what)))]) S hl (k := 3) rfl (by decide) rfl dX10_written_92 (fun ls hl => ?_)
            refine z_goto (tgt := 45) S dX10_written_95 (by decide) ?_
            exact ih_3 (dy + 1) (mn + 1) dy dy (by omega) (by omega) (by first | exact hmn.trans (zcnt0_f (P := (fun d => ∀ j, 0 ≤ j → j < n → zlive kd vl fr tl (sh (100 * k + i + j)) v d)) (by omega) (hsg.elim (fun q => absurd q.1 (by omega)) (fun q => q.2))).symm | rw [zcnt0_t (P := (fun d => ∀ j, 0 ≤ j → j < n → zlive kd vl fr tl (sh (100 * k + i + j)) v d)) (by omega) (hsg.elim (fun q => q.2) (fun q => absurd q.1 (by omega))), ← hmn]) (by omega) (by first | exact zFst_no hso (hsg.elim (fun q => absurd q.1 (by omega)) (fun q => q.2)) | exact zFst_keep hso (by omega) | exact zFst_new hso (by omega) (by omega) (hsg.elim (fun q => q.2) (fun q => absurd q.1 (by omega)))) (by first | exact zLst_no hla (hsg.elim (fun q => absurd q.1 (by omega)) (fun q => q.2)) | exact zLst_yes (by omega) (hsg.elim (fun q => q.2) (fun q => absurd q.1 (by omega)))) _ _ hP hD hS ls (lv_sub hl [0, 3, 2, 1, 4, 5, 6, 7, 8, 9, 10] rfl)
  · skip
    refine lv_iload S.1 S.2.1 dX10_written_28 (lv_at hl 0 rfl) ?_
    exact hQ (r_18) (u18_flt) _ _ (⟨_, _, zRow_cong (h_18.elim (fun q => q.2) (fun q => absurd q.1 (by omega))) (by omega), Or.inl ⟨by omega, rfl, rfl⟩⟩) hP hD hS _ _ dX10_written_30

set_option maxHeartbeats 1000000 in
set_option maxRecDepth 20000 in
theorem c_X10_both (l : Launch) (E : zE) (ad : Nat → Nat) (flt ppl : Int) (kd vl nb fr tl : Int → Int) (rA rP : Int) (rk rv rn rf rt can fw fs ss sl sh hd : Int → Int) (tr : Int) (q : Int) (w : Int) (d : Int) (h_q : -2147483648 ≤ q ∧ q ≤ 2147483647) (h_w : -2147483648 ≤ w ∧ w ≤ 2147483647) (h_d : -2147483648 ≤ d ∧ d ≤ 2147483647) (hp : 0 ≤ ppl ∧ ppl ≤ 10) (hpe : zPeo ppl kd vl nb fr tl) : zMi l E yX10_both wsX10_both (zr 4 0 0) [.ref (ad 0), .int (jI (q)), .int (jI (w)), .int (jI (d))] (mW E ad flt ppl kd vl nb fr tl rA rP rk rv rn rf rt can fw fs ss sl sh hd tr) (fun _ => True) (fun r (u : (Int → Int) × ((Int → Int) × (Int → Int))) => zA_both ppl kd vl nb fr tl q w d r) (fun (u : (Int → Int) × ((Int → Int) × (Int → Int))) => mW E ad flt ppl kd vl nb fr tl rA rP rk rv rn rf rt u.1 u.2.1 u.2.2 ss sl sh hd tr) 0 0 := by
  refine zMi_of (own := RX10) (cc := cX10_both) (maxL := 5) (by decide) rfl (Nat.le_of_ble_eq_true rfl) rfl ?_
  intro p e s m args below meth c Q A S hK hA hS hP hD hAe hG hQ ls hl
  have hl : lv_has ls 5 [(0, .ref (ad 0)), (1, .int (jI (q))), (2, .int (jI (w))), (3, .int (jI (d)))] := hl
  refine lv_iload_n S.1 S.2.1 dX10_both_0 rfl (lv_at hl 1 rfl) ?_
  refine z_i2l S (by omega) dX10_both_1 ?_
  refine z_lconst (z := 0) S (by decide +kernel) dX10_both_2 ?_
  refine z_ldc2 (n := 999) S q_X10_both_1 (by decide +kernel) dX10_both_3 ?_
  refine z_ri (z_rS S hK (c_X10_in l E q 0 999 (by omega) (by omega) (by omega)) gX10_both_X10_in rfl hs_X10_in ⟨Nat.le_of_ble_eq_true rfl, Nat.le_of_ble_eq_true rfl⟩ trivial hl.1 rfl (Nat.le_of_ble_eq_true rfl) ⟨by decide, by decide⟩ rfl dX10_both_6) (fun r_6 h_6 => ?_)
  refine z_if_eq (tgt := 26) S dX10_both_9 (by decide) (by omega) (fun c_9 => ?_) (fun c_9 => ?_)
  · skip
    refine z_bipush S (by decide +kernel) dX10_both_26 ?_
    exact hQ (-2) ((can, (fw, fs))) _ _ (Or.inl ⟨by omega, rfl⟩) hP hD hS _ _ dX10_both_28
  · skip
    refine lv_iload_n S.1 S.2.1 dX10_both_12 rfl (lv_at hl 2 rfl) ?_
    refine z_ri (z_rS S hK (c_X10_isFew l E w (by omega)) gX10_both_X10_isFew rfl hs_X10_isFew ⟨Nat.le_of_ble_eq_true rfl, Nat.le_of_ble_eq_true rfl⟩ trivial hl.1 rfl (Nat.le_of_ble_eq_true rfl) ⟨by decide, by decide⟩ rfl dX10_both_13) (fun r_13 h_13 => ?_)
    refine z_if_eq (tgt := 26) S dX10_both_16 (by decide) (by omega) (fun c_16 => ?_) (fun c_16 => ?_)
    · skip
      refine z_bipush S (by decide +kernel) dX10_both_26 ?_
      exact hQ (-2) ((can, (fw, fs))) _ _ (Or.inl ⟨by omega, rfl⟩) hP hD hS _ _ dX10_both_28
    · skip
      refine lv_iload_n S.1 S.2.1 dX10_both_19 rfl (lv_at hl 3 rfl) ?_
      refine z_ri (z_rS S hK (c_X10_isDay l E d (by omega)) gX10_both_X10_isDay rfl hs_X10_isDay ⟨Nat.le_of_ble_eq_true rfl, Nat.le_of_ble_eq_true rfl⟩ trivial hl.1 rfl (Nat.le_of_ble_eq_true rfl) ⟨by decide, by decide⟩ rfl dX10_both_20) (fun r_20 h_20 => ?_)
      refine z_if_ne (tgt := 29) S dX10_both_23 (by decide) (by omega) (fun c_23 => ?_) (fun c_23 => ?_)
      · skip
        refine lv_aload_n S.1 S.2.1 dX10_both_29 rfl (lv_at hl 0 rfl) ?_
        refine z_iconst S dX10_both_30 ?_
        refine lv_iload_n S.1 S.2.1 dX10_both_31 rfl (lv_at hl 3 rfl) ?_
        refine z_sipush S (by decide +kernel) dX10_both_32 ?_
        refine z_mvw (z_mV S hK (c_X10_laySaid l E ad flt ppl kd vl nb fr tl rA rP rk rv rn rf rt can fw fs ss sl sh hd tr 0 d 999 (by omega) (by omega) (by omega) (by omega) (hpe) _) gX10_both_X10_laySaid rfl hv_X10_laySaid ⟨Nat.le_of_ble_eq_true rfl, Nat.le_of_ble_eq_true rfl⟩ (va_recv hK hP (ci := 10) (q0 := 0) rfl rfl) hP hD trivial hl.1 rfl (Nat.le_of_ble_eq_true rfl) ⟨by decide, by decide⟩ rfl dX10_both_35) hD hS hA (fun u H locs h_35 hP hD hS => ?_)
        obtain ⟨u35_can, u35_fw⟩ := u
        try dsimp only at h_35
        have hP : zP E (mW E ad flt ppl kd vl nb fr tl rA rP rk rv rn rf rt u35_can u35_fw fs ss sl sh hd tr) H := hP
        have hD : va_D A (mW E ad flt ppl kd vl nb fr tl rA rP rk rv rn rf rt u35_can u35_fw fs ss sl sh hd tr) := hD
        refine z_iconst S dX10_both_38 ?_
        refine lv_istore (lv' := [(4, .int (jI (0))), (0, .ref (ad 0)), (1, .int (jI (q))), (2, .int (jI (w))), (3, .int (jI (d)))]) S.1 S.2.1 dX10_both_39 hl (by decide) rfl (fun ls hl => ?_)
        suffices HL_1 : ∀ (n_2 : Nat) (x : Int) (g : Int → Int), (1000 - x).toNat < n_2 → (0 ≤ x ∧ x ≤ 1000) → (∀ y, 0 ≤ y → y < x → (g y = 1 ↔ zIn (zCan nb (fun x => zlive kd vl fr tl x 0 d) ppl) w y) ∧ (g y = 0 ∨ g y = 1)) → ∀ (H : Heap) (locs : List Loc), zP E (mW E ad flt ppl kd vl nb fr tl rA rP rk rv rn rf rt u35_can u35_fw g ss sl sh hd tr) H → va_D A (mW E ad flt ppl kd vl nb fr tl rA rP rk rv rn rf rt u35_can u35_fw g ss sl sh hd tr) → va_S A s.heap H locs → ∀ (ls : Array Slot), lv_has ls 5 [(4, .int (jI (x))), (0, .ref (ad 0)), (1, .int (jI (q))), (2, .int (jI (w))), (3, .int (jI (d)))] → W p l e (zr 4 0 0) s m args below meth c H locs 0 0 Q (F0 m 41 ls []) from
          HL_1 _ 0 fs (Nat.lt_succ_self _) (by omega) (zall_0) _ _ hP hD hS ls (lv_sub hl [0, 1, 2, 3, 4] rfl)
        intro n_2
        induction n_2 with
        | zero => intro x g hm hx hg; exact absurd hm (Nat.not_lt_zero _)
        | succ n_2 ih_3 =>
          intro x g hm hx hg H locs hP hD hS ls hl
          refine lv_iload S.1 S.2.1 dX10_both_41 (lv_at hl 0 rfl) ?_
          refine z_sipush S (by decide +kernel) dX10_both_43 ?_
          refine z_icmp_gt (tgt := 78) S dX10_both_46 (by decide) (by omega) (fun c_46 => ?_) (fun c_46 => ?_)
          · skip
            refine lv_aload_n S.1 S.2.1 dX10_both_78 rfl (lv_at hl 1 rfl) ?_
            refine z_iconst S dX10_both_79 ?_
            refine lv_iload_n S.1 S.2.1 dX10_both_80 rfl (lv_at hl 4 rfl) ?_
            refine z_sipush S (by decide +kernel) dX10_both_81 ?_
            refine z_mvw (z_mV S hK (c_X10_laySaid l E ad flt ppl kd vl nb fr tl rA rP rk rv rn rf rt u35_can u35_fw g ss sl sh hd tr 1 d 999 (by omega) (by omega) (by omega) (by omega) (hpe) _) gX10_both_X10_laySaid rfl hv_X10_laySaid ⟨Nat.le_of_ble_eq_true rfl, Nat.le_of_ble_eq_true rfl⟩ (va_recv hK hP (ci := 10) (q0 := 0) rfl rfl) hP hD trivial hl.1 rfl (Nat.le_of_ble_eq_true rfl) ⟨by decide, by decide⟩ rfl dX10_both_84) hD hS hA (fun u H locs h_84 hP hD hS => ?_)
            obtain ⟨u84_can, u84_fw⟩ := u
            try dsimp only at h_84
            have hP : zP E (mW E ad flt ppl kd vl nb fr tl rA rP rk rv rn rf rt u84_can u84_fw g ss sl sh hd tr) H := hP
            have hD : va_D A (mW E ad flt ppl kd vl nb fr tl rA rP rk rv rn rf rt u84_can u84_fw g ss sl sh hd tr) := hD
            refine lv_iload_n S.1 S.2.1 dX10_both_87 rfl (lv_at hl 2 rfl) ?_
            refine lv_istore (lv' := [(4, .int (jI (q))), (0, .ref (ad 0)), (1, .int (jI (q))), (2, .int (jI (w))), (3, .int (jI (d)))]) S.1 S.2.1 dX10_both_88 hl (by decide) rfl (fun ls hl => ?_)
            suffices HL_4 : ∀ (n_5 : Nat) (x2 : Int), (1000 - x2).toNat < n_5 → (q ≤ x2 ∧ x2 ≤ 1000) → (∀ y, q ≤ y → y < x2 → ¬ (zIn (zCan nb (fun x => zlive kd vl fr tl x 0 d) ppl) w y ∧ zIn (zCan nb (fun x => zlive kd vl fr tl x 1 d) ppl) w y)) → ∀ (H : Heap) (locs : List Loc), zP E (mW E ad flt ppl kd vl nb fr tl rA rP rk rv rn rf rt u84_can u84_fw g ss sl sh hd tr) H → va_D A (mW E ad flt ppl kd vl nb fr tl rA rP rk rv rn rf rt u84_can u84_fw g ss sl sh hd tr) → va_S A s.heap H locs → ∀ (ls : Array Slot), lv_has ls 5 [(4, .int (jI (x2))), (0, .ref (ad 0)), (1, .int (jI (q))), (2, .int (jI (w))), (3, .int (jI (d)))] → W p l e (zr 4 0 0) s m args below meth c H locs 0 0 Q (F0 m 90 ls []) from
              HL_4 _ q (Nat.lt_succ_self _) (by omega) (zall_0) _ _ hP hD hS ls (lv_sub hl [0, 1, 2, 3, 4] rfl)
            intro n_5
            induction n_5 with
            | zero => intro x2 hm hx2 hno; exact absurd hm (Nat.not_lt_zero _)
            | succ n_5 ih_6 =>
              intro x2 hm hx2 hno H locs hP hD hS ls hl
              refine lv_iload S.1 S.2.1 dX10_both_90 (lv_at hl 0 rfl) ?_
              refine z_sipush S (by decide +kernel) dX10_both_92 ?_
              refine z_icmp_gt (tgt := 128) S dX10_both_95 (by decide) (by omega) (fun c_95 => ?_) (fun c_95 => ?_)
              · skip
                refine z_bipush S (by decide +kernel) dX10_both_128 ?_
                exact hQ (-9) ((u84_can, (u84_fw, g))) _ _ (Or.inr ⟨by omega, Or.inr ⟨rfl, fun y q1 q2 => hno y q1 (by omega)⟩⟩) hP hD hS _ _ dX10_both_130
              · skip
                have hI0 := (hg x2 (by omega) (by omega)).1
                have hI01 := (hg x2 (by omega) (by omega)).2
                have hfr := zTab_rng h_84.2 (q := x2) (by omega) (by omega)
                have hI1 := zTab_le h_84.2 (q := x2) (w := w) (by omega) (by omega) (by omega)
                refine lv_aload_n S.1 S.2.1 dX10_both_98 rfl (lv_at hl 1 rfl) ?_
                refine z_get S hK hP 0 rfl rfl 16 (by decide) i_X10_both_10 q_X10_both_2 rfl dX10_both_99 ?_
                refine lv_iload S.1 S.2.1 dX10_both_102 (lv_at hl 0 rfl) ?_
                refine z_zald S hK hP 13 rfl (by omega) dX10_both_104 ?_
                refine z_if_eq (tgt := 122) S dX10_both_105 (by decide) (by omega) (fun c_105 => ?_) (fun c_105 => ?_)
                · skip
                  refine z_iinc (lv' := [(4, .int (jI (x2 + 1))), (0, .ref (ad 0)), (1, .int (jI (q))), (2, .int (jI (w))), (3, .int (jI (d)))]) S hl (k := 0) rfl (by decide) rfl dX10_both_122 (fun ls hl => ?_)
                  refine z_goto (tgt := 90) S dX10_both_125 (by decide) ?_
                  exact ih_6 (x2 + 1) (by omega) (by omega) (zall_step hno (fun z => by first | exact absurd (hI0.mpr z.1) (by omega) | exact absurd (hI1.mpr z.2) (by omega))) _ _ hP hD hS ls (lv_sub hl [0, 1, 2, 3, 4] rfl)
                · skip
                  refine lv_aload_n S.1 S.2.1 dX10_both_108 rfl (lv_at hl 1 rfl) ?_
                  refine z_get S hK hP 0 rfl rfl 15 (by decide) i_X10_both_10 q_X10_both_3 rfl dX10_both_109 ?_
                  refine lv_iload S.1 S.2.1 dX10_both_112 (lv_at hl 0 rfl) ?_
                  refine z_iald S hK hP 12 rfl (by omega) dX10_both_114 ?_
                  refine lv_iload_n S.1 S.2.1 dX10_both_115 rfl (lv_at hl 3 rfl) ?_
                  refine z_icmp_gt (tgt := 122) S dX10_both_116 (by decide) (by omega) (fun c_116 => ?_) (fun c_116 => ?_)
                  · skip
                    refine z_iinc (lv' := [(4, .int (jI (x2 + 1))), (0, .ref (ad 0)), (1, .int (jI (q))), (2, .int (jI (w))), (3, .int (jI (d)))]) S hl (k := 0) rfl (by decide) rfl dX10_both_122 (fun ls hl => ?_)
                    refine z_goto (tgt := 90) S dX10_both_125 (by decide) ?_
                    exact ih_6 (x2 + 1) (by omega) (by omega) (zall_step hno (fun z => by first | exact absurd (hI0.mpr z.1) (by omega) | exact absurd (hI1.mpr z.2) (by omega))) _ _ hP hD hS ls (lv_sub hl [0, 1, 2, 3, 4] rfl)
                  · skip
                    refine lv_iload S.1 S.2.1 dX10_both_119 (lv_at hl 0 rfl) ?_
                    exact hQ (x2) ((u84_can, (u84_fw, g))) _ _ (Or.inr ⟨by omega, Or.inl ⟨by omega, ⟨hI0.mp (by omega), hI1.mp (by omega)⟩, hno⟩⟩) hP hD hS _ _ dX10_both_121
          · skip
            have hfr := zTab_rng h_35.2 (q := x) (by omega) (by omega)
            have hI := zTab_le h_35.2 (q := x) (w := w) (by omega) (by omega) (by omega)
            refine lv_aload_n S.1 S.2.1 dX10_both_49 rfl (lv_at hl 1 rfl) ?_
            refine z_get S hK hP 0 rfl rfl 16 (by decide) i_X10_both_10 q_X10_both_2 rfl dX10_both_50 ?_
            refine lv_iload S.1 S.2.1 dX10_both_53 (lv_at hl 0 rfl) ?_
            refine lv_aload_n S.1 S.2.1 dX10_both_55 rfl (lv_at hl 1 rfl) ?_
            refine z_get S hK hP 0 rfl rfl 15 (by decide) i_X10_both_10 q_X10_both_3 rfl dX10_both_56 ?_
            refine lv_iload S.1 S.2.1 dX10_both_59 (lv_at hl 0 rfl) ?_
            refine z_iald S hK hP 12 rfl (by omega) dX10_both_61 ?_
            refine lv_iload_n S.1 S.2.1 dX10_both_62 rfl (lv_at hl 3 rfl) ?_
            refine z_icmp_gt (tgt := 70) S dX10_both_63 (by decide) (by omega) (fun c_63 => ?_) (fun c_63 => ?_)
            · skip
              refine z_iconst S dX10_both_70 ?_
              refine z_zast S hK hP hD hS 13 rfl (by omega) (by omega) dX10_both_71 (fun H locs hP hD hS => ?_)
              have hP : zP E (mW E ad flt ppl kd vl nb fr tl rA rP rk rv rn rf rt u35_can u35_fw (zu g x 0) ss sl sh hd tr) H := hP
              have hD : va_D A (mW E ad flt ppl kd vl nb fr tl rA rP rk rv rn rf rt u35_can u35_fw (zu g x 0) ss sl sh hd tr) := hD
              refine z_iinc (lv' := [(4, .int (jI (x + 1))), (0, .ref (ad 0)), (1, .int (jI (q))), (2, .int (jI (w))), (3, .int (jI (d)))]) S hl (k := 0) rfl (by decide) rfl dX10_both_72 (fun ls hl => ?_)
              refine z_goto (tgt := 41) S dX10_both_75 (by decide) ?_
              exact ih_3 (x + 1) (zu g x 0) (by omega) (by omega) (zall_step (fun y q1 q2 => by rw [zu_n (by omega)]; exact hg y q1 q2) (by rw [zu_s]; first | exact ⟨⟨fun z => absurd z (by omega), fun z => absurd (hI.mpr z) (by omega)⟩, Or.inl rfl⟩ | exact ⟨⟨fun _ => hI.mp (by omega), fun _ => rfl⟩, Or.inr rfl⟩)) _ _ hP hD hS ls (lv_sub hl [0, 1, 2, 3, 4] rfl)
            · skip
              refine z_iconst S dX10_both_66 ?_
              refine z_goto (tgt := 71) S dX10_both_67 (by decide) ?_
              refine z_zast S hK hP hD hS 13 rfl (by omega) (by omega) dX10_both_71 (fun H locs hP hD hS => ?_)
              have hP : zP E (mW E ad flt ppl kd vl nb fr tl rA rP rk rv rn rf rt u35_can u35_fw (zu g x 1) ss sl sh hd tr) H := hP
              have hD : va_D A (mW E ad flt ppl kd vl nb fr tl rA rP rk rv rn rf rt u35_can u35_fw (zu g x 1) ss sl sh hd tr) := hD
              refine z_iinc (lv' := [(4, .int (jI (x + 1))), (0, .ref (ad 0)), (1, .int (jI (q))), (2, .int (jI (w))), (3, .int (jI (d)))]) S hl (k := 0) rfl (by decide) rfl dX10_both_72 (fun ls hl => ?_)
              refine z_goto (tgt := 41) S dX10_both_75 (by decide) ?_
              exact ih_3 (x + 1) (zu g x 1) (by omega) (by omega) (zall_step (fun y q1 q2 => by rw [zu_n (by omega)]; exact hg y q1 q2) (by rw [zu_s]; first | exact ⟨⟨fun z => absurd z (by omega), fun z => absurd (hI.mpr z) (by omega)⟩, Or.inl rfl⟩ | exact ⟨⟨fun _ => hI.mp (by omega), fun _ => rfl⟩, Or.inr rfl⟩)) _ _ hP hD hS ls (lv_sub hl [0, 1, 2, 3, 4] rfl)
      · skip
        refine z_bipush S (by decide +kernel) dX10_both_26 ?_
        exact hQ (-2) ((can, (fw, fs))) _ _ (Or.inl ⟨by omega, rfl⟩) hP hD hS _ _ dX10_both_28

set_option maxHeartbeats 1000000 in
set_option maxRecDepth 20000 in
theorem c_X10_lost (l : Launch) (E : zE) (ad : Nat → Nat) (flt ppl : Int) (kd vl nb fr tl : Int → Int) (rA rP : Int) (rk rv rn rf rt can fw fs ss sl sh hd : Int → Int) (tr : Int) (x : Int) (v : Int) (d : Int) (w : Int) (h_x : -2147483648 ≤ x ∧ x ≤ 2147483647) (h_v : -2147483648 ≤ v ∧ v ≤ 2147483647) (h_d : -2147483648 ≤ d ∧ d ≤ 2147483647) (h_w : -2147483648 ≤ w ∧ w ≤ 2147483647) (hp : 0 ≤ ppl ∧ ppl ≤ 10) (hpe : zPeo ppl kd vl nb fr tl) : zMi l E yX10_lost wsX10_lost (zr 4 0 0) [.ref (ad 0), .int (jI (x)), .int (jI (v)), .int (jI (d)), .int (jI (w))] (mW E ad flt ppl kd vl nb fr tl rA rP rk rv rn rf rt can fw fs ss sl sh hd tr) (fun _ => True) (fun r (u : (Int → Int) × (Int → Int)) => zA_lost ppl kd vl nb fr tl x v d w r) (fun (u : (Int → Int) × (Int → Int)) => mW E ad flt ppl kd vl nb fr tl rA rP rk rv rn rf rt u.1 u.2 fs ss sl sh hd tr) 0 0 := by
  refine zMi_of (own := RX10) (cc := cX10_lost) (maxL := 6) (by decide) rfl (Nat.le_of_ble_eq_true rfl) rfl ?_
  intro p e s m args below meth c Q A S hK hA hS hP hD hAe hG hQ ls hl
  have hl : lv_has ls 6 [(0, .ref (ad 0)), (1, .int (jI (x))), (2, .int (jI (v))), (3, .int (jI (d))), (4, .int (jI (w)))] := hl
  refine lv_aload_n S.1 S.2.1 dX10_lost_0 rfl (lv_at hl 0 rfl) ?_
  refine lv_iload_n S.1 S.2.1 dX10_lost_1 rfl (lv_at hl 1 rfl) ?_
  refine z_ri (z_rV S hK (c_X10_noOne l E ad flt ppl kd vl nb fr tl rA rP rk rv rn rf rt can fw fs ss sl sh hd tr x (by omega) (by omega)) gX10_lost_X10_noOne rfl hv_X10_noOne ⟨Nat.le_of_ble_eq_true rfl, Nat.le_of_ble_eq_true rfl⟩ (va_recv hK hP (ci := 10) (q0 := 0) rfl rfl) hP hl.1 rfl (Nat.le_of_ble_eq_true rfl) ⟨by decide, by decide⟩ rfl dX10_lost_2) (fun r_2 h_2 => ?_)
  refine z_if_ne (tgt := 15) S dX10_lost_5 (by decide) (by omega) (fun c_5 => ?_) (fun c_5 => ?_)
  · skip
    refine z_iconst S dX10_lost_15 ?_
    exact hQ (-1) ((can, fw)) _ _ (Or.inl ⟨by omega, rfl⟩) hP hD hS _ _ dX10_lost_16
  · skip
    refine lv_iload_n S.1 S.2.1 dX10_lost_8 rfl (lv_at hl 2 rfl) ?_
    refine z_ri (z_rS S hK (c_X10_noVillage l E v (by omega)) gX10_lost_X10_noVillage rfl hs_X10_noVillage ⟨Nat.le_of_ble_eq_true rfl, Nat.le_of_ble_eq_true rfl⟩ trivial hl.1 rfl (Nat.le_of_ble_eq_true rfl) ⟨by decide, by decide⟩ rfl dX10_lost_9) (fun r_9 h_9 => ?_)
    refine z_if_eq (tgt := 17) S dX10_lost_12 (by decide) (by omega) (fun c_12 => ?_) (fun c_12 => ?_)
    · skip
      refine lv_iload_n S.1 S.2.1 dX10_lost_17 rfl (lv_at hl 3 rfl) ?_
      refine z_ri (z_rS S hK (c_X10_isDay l E d (by omega)) gX10_lost_X10_isDay rfl hs_X10_isDay ⟨Nat.le_of_ble_eq_true rfl, Nat.le_of_ble_eq_true rfl⟩ trivial hl.1 rfl (Nat.le_of_ble_eq_true rfl) ⟨by decide, by decide⟩ rfl dX10_lost_18) (fun r_18 h_18 => ?_)
      refine z_if_eq (tgt := 32) S dX10_lost_21 (by decide) (by omega) (fun c_21 => ?_) (fun c_21 => ?_)
      · skip
        refine z_bipush S (by decide +kernel) dX10_lost_32 ?_
        exact hQ (-2) ((can, fw)) _ _ (Or.inr ⟨by omega, Or.inl ⟨by omega, rfl⟩⟩) hP hD hS _ _ dX10_lost_34
      · skip
        refine lv_iload S.1 S.2.1 dX10_lost_24 (lv_at hl 4 rfl) ?_
        refine z_ri (z_rS S hK (c_X10_isFew l E w (by omega)) gX10_lost_X10_isFew rfl hs_X10_isFew ⟨Nat.le_of_ble_eq_true rfl, Nat.le_of_ble_eq_true rfl⟩ trivial hl.1 rfl (Nat.le_of_ble_eq_true rfl) ⟨by decide, by decide⟩ rfl dX10_lost_26) (fun r_26 h_26 => ?_)
        refine z_if_ne (tgt := 35) S dX10_lost_29 (by decide) (by omega) (fun c_29 => ?_) (fun c_29 => ?_)
        · skip
          refine lv_aload_n S.1 S.2.1 dX10_lost_35 rfl (lv_at hl 0 rfl) ?_
          refine lv_iload_n S.1 S.2.1 dX10_lost_36 rfl (lv_at hl 2 rfl) ?_
          refine lv_iload_n S.1 S.2.1 dX10_lost_37 rfl (lv_at hl 3 rfl) ?_
          refine z_bipush S (by decide +kernel) dX10_lost_38 ?_
          refine z_mvw (z_mV S hK (c_X10_laySaid l E ad flt ppl kd vl nb fr tl rA rP rk rv rn rf rt can fw fs ss sl sh hd tr v d 99 (by omega) (by omega) (by omega) (by omega) (hpe) _) gX10_lost_X10_laySaid rfl hv_X10_laySaid ⟨Nat.le_of_ble_eq_true rfl, Nat.le_of_ble_eq_true rfl⟩ (va_recv hK hP (ci := 10) (q0 := 0) rfl rfl) hP hD trivial hl.1 rfl (Nat.le_of_ble_eq_true rfl) ⟨by decide, by decide⟩ rfl dX10_lost_40) hD hS hA (fun u H locs h_40 hP hD hS => ?_)
          obtain ⟨u40_can, u40_fw⟩ := u
          try dsimp only at h_40
          have hP : zP E (mW E ad flt ppl kd vl nb fr tl rA rP rk rv rn rf rt u40_can u40_fw fs ss sl sh hd tr) H := hP
          have hD : va_D A (mW E ad flt ppl kd vl nb fr tl rA rP rk rv rn rf rt u40_can u40_fw fs ss sl sh hd tr) := hD
          refine lv_aload_n S.1 S.2.1 dX10_lost_43 rfl (lv_at hl 0 rfl) ?_
          refine lv_iload S.1 S.2.1 dX10_lost_44 (lv_at hl 4 rfl) ?_
          refine z_ri (z_rV S hK (c_X10_saidOf l E ad flt ppl kd vl nb fr tl rA rP rk rv rn rf rt u40_can u40_fw fs ss sl sh hd tr w ((zCan nb (fun x => zlive kd vl fr tl x v d) ppl)) (by omega) (h_40.2)) gX10_lost_X10_saidOf rfl hv_X10_saidOf ⟨Nat.le_of_ble_eq_true rfl, Nat.le_of_ble_eq_true rfl⟩ (va_recv hK hP (ci := 10) (q0 := 0) rfl rfl) hP hl.1 rfl (Nat.le_of_ble_eq_true rfl) ⟨by decide, by decide⟩ rfl dX10_lost_46) (fun r_46 h_46 => ?_)
          refine lv_istore (lv' := [(5, .int (jI (r_46))), (0, .ref (ad 0)), (1, .int (jI (x))), (2, .int (jI (v))), (3, .int (jI (d))), (4, .int (jI (w)))]) S.1 S.2.1 dX10_lost_49 hl (by decide) rfl (fun ls hl => ?_)
          refine lv_aload_n S.1 S.2.1 dX10_lost_51 rfl (lv_at hl 1 rfl) ?_
          refine lv_iload_n S.1 S.2.1 dX10_lost_52 rfl (lv_at hl 3 rfl) ?_
          refine lv_iload_n S.1 S.2.1 dX10_lost_53 rfl (lv_at hl 4 rfl) ?_
          refine lv_iload_n S.1 S.2.1 dX10_lost_54 rfl (lv_at hl 2 rfl) ?_
          refine z_mvw (z_mV S hK (c_X10_layCan l E ad flt ppl kd vl nb fr tl rA rP rk rv rn rf rt u40_can u40_fw fs ss sl sh hd tr v d x (by omega) (by omega) (by omega) (by omega) (hpe) _) gX10_lost_X10_layCan rfl hv_X10_layCan ⟨Nat.le_of_ble_eq_true rfl, Nat.le_of_ble_eq_true rfl⟩ (va_recv hK hP (ci := 10) (q0 := 0) rfl rfl) hP hD trivial hl.1 rfl (Nat.le_of_ble_eq_true rfl) ⟨by decide, by decide⟩ rfl dX10_lost_55) hD hS hA (fun u H locs h_55 hP hD hS => ?_)
          obtain ⟨u55_can, u55_can_e⟩ : ∃ z, z = u := ⟨_, rfl⟩
          subst u55_can_e
          try dsimp only at h_55
          have hP : zP E (mW E ad flt ppl kd vl nb fr tl rA rP rk rv rn rf rt u55_can u40_fw fs ss sl sh hd tr) H := hP
          have hD : va_D A (mW E ad flt ppl kd vl nb fr tl rA rP rk rv rn rf rt u55_can u40_fw fs ss sl sh hd tr) := hD
          refine lv_aload_n S.1 S.2.1 dX10_lost_58 rfl (lv_at hl 1 rfl) ?_
          refine z_bipush S (by decide +kernel) dX10_lost_59 ?_
          refine z_mvw (z_mV S hK (c_X10_layFewest l E ad flt ppl kd vl nb fr tl rA rP rk rv rn rf rt u55_can u40_fw fs ss sl sh hd tr 99 (by omega) (fun a q1 q2 => by rcases zSet_01 h_55 ⟨q1, q2⟩ with h | h <;> omega) _) gX10_lost_X10_layFewest rfl hv_X10_layFewest ⟨Nat.le_of_ble_eq_true rfl, Nat.le_of_ble_eq_true rfl⟩ (va_recv hK hP (ci := 10) (q0 := 0) rfl rfl) hP hD trivial hl.1 rfl (Nat.le_of_ble_eq_true rfl) ⟨by decide, by decide⟩ rfl dX10_lost_61) hD hS hA (fun u H locs h_61 hP hD hS => ?_)
          obtain ⟨u61_fw, u61_fw_e⟩ : ∃ z, z = u := ⟨_, rfl⟩
          subst u61_fw_e
          try dsimp only at h_61
          have hP : zP E (mW E ad flt ppl kd vl nb fr tl rA rP rk rv rn rf rt u55_can u61_fw fs ss sl sh hd tr) H := hP
          have hD : va_D A (mW E ad flt ppl kd vl nb fr tl rA rP rk rv rn rf rt u55_can u61_fw fs ss sl sh hd tr) := hD
          refine lv_iload S.1 S.2.1 dX10_lost_64 (lv_at hl 0 rfl) ?_
          refine lv_aload_n S.1 S.2.1 dX10_lost_66 rfl (lv_at hl 1 rfl) ?_
          refine lv_iload S.1 S.2.1 dX10_lost_67 (lv_at hl 5 rfl) ?_
          refine z_ri (z_rV S hK (c_X10_saidOf l E ad flt ppl kd vl nb fr tl rA rP rk rv rn rf rt u55_can u61_fw fs ss sl sh hd tr w (zCanW nb (fun x => zlive kd vl fr tl x v d) x ppl) (by omega) (zTab_cong (zSet_iff h_55) h_61)) gX10_lost_X10_saidOf rfl hv_X10_saidOf ⟨Nat.le_of_ble_eq_true rfl, Nat.le_of_ble_eq_true rfl⟩ (va_recv hK hP (ci := 10) (q0 := 0) rfl rfl) hP hl.1 rfl (Nat.le_of_ble_eq_true rfl) ⟨by decide, by decide⟩ rfl dX10_lost_69) (fun r_69 h_69 => ?_)
          refine z_isub S dX10_lost_72 ?_
          exact hQ (r_46 - r_69) ((u55_can, u61_fw)) _ _ (Or.inr ⟨by omega, Or.inr ⟨by omega, by rw [h_46, h_69]; exact zcnt_diff (fun q => zIn_mono (fun a _ _ z => zCanW_can z)) 99⟩⟩) hP hD hS _ _ dX10_lost_73
        · skip
          refine z_bipush S (by decide +kernel) dX10_lost_32 ?_
          exact hQ (-2) ((can, fw)) _ _ (Or.inr ⟨by omega, Or.inl ⟨by omega, rfl⟩⟩) hP hD hS _ _ dX10_lost_34
    · skip
      refine z_iconst S dX10_lost_15 ?_
      exact hQ (-1) ((can, fw)) _ _ (Or.inl ⟨by omega, rfl⟩) hP hD hS _ _ dX10_lost_16

set_option maxHeartbeats 1000000 in
set_option maxRecDepth 20000 in
theorem c_X10_shared (l : Launch) (E : zE) (up : Int) (dn : Int) (wh : Int) (hu : 0 ≤ up ∧ up ≤ 99) (hd : 0 < dn ∧ dn ≤ 99) (hw : -2147483648 ≤ wh ∧ wh ≤ 2147483647) : zRl l E yX10_shared wsX10_shared (zr 1 0 0) [.long (jL (up)), .long (jL (dn)), .int (jI (wh))] (fun _ => True) (fun r => (wh = 0 ∧ r = up / ((Int.gcd up dn : Nat) : Int)) ∨ (wh ≠ 0 ∧ r = dn / ((Int.gcd up dn : Nat) : Int))) := by
  refine zRl_of (own := RX10) (cc := cX10_shared) (maxL := 11) (by decide) rfl (Nat.le_of_ble_eq_true rfl) rfl ?_
  intro p e s m args below meth c Q S hK hP hQ ls hl
  have hl : lv_has ls 11 [(0, .long (jL (up))), (2, .long (jL (dn))), (4, .int (jI (wh)))] := hl
  refine lv_lload_n S.1 S.2.1 dX10_shared_0 rfl (lv_at hl 0 rfl) ?_
  refine lv_lstore (lv' := [(5, .long (jL (up))), (0, .long (jL (up))), (2, .long (jL (dn))), (4, .int (jI (wh)))]) S.1 S.2.1 dX10_shared_1 hl (by decide) rfl (fun ls hl => ?_)
  refine lv_lload_n S.1 S.2.1 dX10_shared_3 rfl (lv_at hl 2 rfl) ?_
  refine lv_lstore (lv' := [(7, .long (jL (dn))), (5, .long (jL (up))), (0, .long (jL (up))), (2, .long (jL (dn))), (4, .int (jI (wh)))]) S.1 S.2.1 dX10_shared_4 hl (by decide) rfl (fun ls hl => ?_)
  suffices HL_1 : ∀ (n_2 : Nat) (x : Int) (y : Int), (y).toNat < n_2 → (0 ≤ x ∧ x ≤ 99) → (0 ≤ y ∧ y ≤ 99) → (0 < x ∨ 0 < y) → (Int.gcd x y = Int.gcd up dn) → ∀ (ls : Array Slot), lv_has ls 11 [(5, .long (jL (x))), (7, .long (jL (y))), (0, .long (jL (up))), (2, .long (jL (dn))), (4, .int (jI (wh)))] → W p l e (zr 1 0 0) s m args below meth c s.heap [] 0 0 Q (F0 m 6 ls []) from
    HL_1 _ up dn (Nat.lt_succ_self _) (by omega) (by omega) (by omega) (rfl) ls (lv_sub hl [1, 0, 2, 3, 4] rfl)
  intro n_2
  induction n_2 with
  | zero => intro x y hm hx hy hp hg; exact absurd hm (Nat.not_lt_zero _)
  | succ n_2 ih_3 =>
    intro x y hm hx hy hp hg ls hl
    refine lv_lload S.1 S.2.1 dX10_shared_6 (lv_at hl 1 rfl) ?_
    refine z_lconst (z := 0) S (by decide +kernel) dX10_shared_8 ?_
    refine z_lcmp S (by omega) dX10_shared_9 (fun v_4 hv_5 => ?_)
    refine z_if_eq (tgt := 31) S dX10_shared_10 (by decide) (by omega) (fun c_10 => ?_) (fun c_10 => ?_)
    · skip
      have hge : ((Int.gcd up dn : Nat) : Int) = x := by rw [← hg, show y = 0 by omega]; exact zgcd_end (by omega)
      refine lv_iload S.1 S.2.1 dX10_shared_31 (lv_at hl 4 rfl) ?_
      refine z_if_ne (tgt := 40) S dX10_shared_33 (by decide) (by omega) (fun c_33 => ?_) (fun c_33 => ?_)
      · skip
        refine lv_lload_n S.1 S.2.1 dX10_shared_40 rfl (lv_at hl 3 rfl) ?_
        refine lv_lload S.1 S.2.1 dX10_shared_41 (lv_at hl 0 rfl) ?_
        refine z_ldiv S (by omega) (by omega) dX10_shared_43 ?_
        exact hQ (dn / x) (by rw [hge]; omega) _ _ dX10_shared_44
      · skip
        refine lv_lload_n S.1 S.2.1 dX10_shared_36 rfl (lv_at hl 2 rfl) ?_
        refine z_goto (tgt := 41) S dX10_shared_37 (by decide) ?_
        refine lv_lload S.1 S.2.1 dX10_shared_41 (lv_at hl 0 rfl) ?_
        refine z_ldiv S (by omega) (by omega) dX10_shared_43 ?_
        exact hQ (up / x) (by rw [hge]; omega) _ _ dX10_shared_44
    · skip
      have hm1 := Int.emod_nonneg x (show y ≠ 0 by omega)
      have hm2 := Int.emod_lt_of_pos x (show 0 < y by omega)
      refine lv_lload S.1 S.2.1 dX10_shared_13 (lv_at hl 0 rfl) ?_
      refine lv_lload S.1 S.2.1 dX10_shared_15 (lv_at hl 1 rfl) ?_
      refine z_lrem S (by omega) (by omega) dX10_shared_17 ?_
      refine lv_lstore (lv' := [(9, .long (jL (x % y))), (5, .long (jL (x))), (7, .long (jL (y))), (0, .long (jL (up))), (2, .long (jL (dn))), (4, .int (jI (wh)))]) S.1 S.2.1 dX10_shared_18 hl (by decide) rfl (fun ls hl => ?_)
      refine lv_lload S.1 S.2.1 dX10_shared_20 (lv_at hl 2 rfl) ?_
      refine lv_lstore (lv' := [(5, .long (jL (y))), (9, .long (jL (x % y))), (7, .long (jL (y))), (0, .long (jL (up))), (2, .long (jL (dn))), (4, .int (jI (wh)))]) S.1 S.2.1 dX10_shared_22 hl (by decide) rfl (fun ls hl => ?_)
      refine lv_lload S.1 S.2.1 dX10_shared_24 (lv_at hl 1 rfl) ?_
      refine lv_lstore (lv' := [(7, .long (jL (x % y))), (5, .long (jL (y))), (9, .long (jL (x % y))), (0, .long (jL (up))), (2, .long (jL (dn))), (4, .int (jI (wh)))]) S.1 S.2.1 dX10_shared_26 hl (by decide) rfl (fun ls hl => ?_)
      refine z_goto (tgt := 6) S dX10_shared_28 (by decide) ?_
      exact ih_3 y (x % y) (by omega) (by omega) (by omega) (by omega) ((zgcd_step (by omega) (by omega)).trans hg) ls (lv_sub hl [1, 0, 3, 4, 5] rfl)

set_option maxHeartbeats 1000000 in
set_option maxRecDepth 20000 in
theorem c_X10_told (l : Launch) (E : zE) (ad : Nat → Nat) (flt ppl : Int) (kd vl nb fr tl : Int → Int) (rA rP : Int) (rk rv rn rf rt can fw fs ss sl sh hd : Int → Int) (tr : Int) (v : Int) (d : Int) (w : Int) (wh : Int) (h_v : -2147483648 ≤ v ∧ v ≤ 2147483647) (h_d : -2147483648 ≤ d ∧ d ≤ 2147483647) (h_w : -2147483648 ≤ w ∧ w ≤ 2147483647) (h_wh : -2147483648 ≤ wh ∧ wh ≤ 2147483647) (hp : 0 ≤ ppl ∧ ppl ≤ 10) (hpe : zPeo ppl kd vl nb fr tl) : zMl l E yX10_told wsX10_told (zr 4 0 0) [.ref (ad 0), .int (jI (v)), .int (jI (d)), .int (jI (w)), .int (jI (wh))] (mW E ad flt ppl kd vl nb fr tl rA rP rk rv rn rf rt can fw fs ss sl sh hd tr) (fun _ => True) (fun r (u : (Int → Int) × (Int → Int)) => zA_told ppl kd vl nb fr tl v d w wh r) (fun (u : (Int → Int) × (Int → Int)) => mW E ad flt ppl kd vl nb fr tl rA rP rk rv rn rf rt u.1 u.2 fs ss sl sh hd tr) 0 0 := by
  refine zMl_of (own := RX10) (cc := cX10_told) (maxL := 5) (by decide) rfl (Nat.le_of_ble_eq_true rfl) rfl ?_
  intro p e s m args below meth c Q A S hK hA hS hP hD hAe hG hQ ls hl
  have hl : lv_has ls 5 [(0, .ref (ad 0)), (1, .int (jI (v))), (2, .int (jI (d))), (3, .int (jI (w))), (4, .int (jI (wh)))] := hl
  refine lv_iload_n S.1 S.2.1 dX10_told_0 rfl (lv_at hl 1 rfl) ?_
  refine z_ri (z_rS S hK (c_X10_noVillage l E v (by omega)) gX10_told_X10_noVillage rfl hs_X10_noVillage ⟨Nat.le_of_ble_eq_true rfl, Nat.le_of_ble_eq_true rfl⟩ trivial hl.1 rfl (Nat.le_of_ble_eq_true rfl) ⟨by decide, by decide⟩ rfl dX10_told_1) (fun r_1 h_1 => ?_)
  refine z_if_ne (tgt := 32) S dX10_told_4 (by decide) (by omega) (fun c_4 => ?_) (fun c_4 => ?_)
  · skip
    refine z_rl (z_rS S hK (c_X10_nothing l E ) gX10_told_X10_nothing rfl hs_X10_nothing ⟨Nat.le_of_ble_eq_true rfl, Nat.le_of_ble_eq_true rfl⟩ trivial hl.1 rfl (Nat.le_of_ble_eq_true rfl) ⟨by decide, by decide⟩ rfl dX10_told_32) (fun r_32 h_32 => ?_)
    rw [h_32]
    exact hQ (-9223372036854775808) ((can, fw)) _ _ (Or.inl ⟨by omega, rfl⟩) hP hD hS _ _ dX10_told_35
  · skip
    refine lv_iload_n S.1 S.2.1 dX10_told_7 rfl (lv_at hl 2 rfl) ?_
    refine z_ri (z_rS S hK (c_X10_isDay l E d (by omega)) gX10_told_X10_isDay rfl hs_X10_isDay ⟨Nat.le_of_ble_eq_true rfl, Nat.le_of_ble_eq_true rfl⟩ trivial hl.1 rfl (Nat.le_of_ble_eq_true rfl) ⟨by decide, by decide⟩ rfl dX10_told_8) (fun r_8 h_8 => ?_)
    refine z_if_eq (tgt := 32) S dX10_told_11 (by decide) (by omega) (fun c_11 => ?_) (fun c_11 => ?_)
    · skip
      refine z_rl (z_rS S hK (c_X10_nothing l E ) gX10_told_X10_nothing rfl hs_X10_nothing ⟨Nat.le_of_ble_eq_true rfl, Nat.le_of_ble_eq_true rfl⟩ trivial hl.1 rfl (Nat.le_of_ble_eq_true rfl) ⟨by decide, by decide⟩ rfl dX10_told_32) (fun r_32 h_32 => ?_)
      rw [h_32]
      exact hQ (-9223372036854775808) ((can, fw)) _ _ (Or.inl ⟨by omega, rfl⟩) hP hD hS _ _ dX10_told_35
    · skip
      refine lv_iload_n S.1 S.2.1 dX10_told_14 rfl (lv_at hl 3 rfl) ?_
      refine z_ri (z_rS S hK (c_X10_isFew l E w (by omega)) gX10_told_X10_isFew rfl hs_X10_isFew ⟨Nat.le_of_ble_eq_true rfl, Nat.le_of_ble_eq_true rfl⟩ trivial hl.1 rfl (Nat.le_of_ble_eq_true rfl) ⟨by decide, by decide⟩ rfl dX10_told_15) (fun r_15 h_15 => ?_)
      refine z_if_eq (tgt := 32) S dX10_told_18 (by decide) (by omega) (fun c_18 => ?_) (fun c_18 => ?_)
      · skip
        refine z_rl (z_rS S hK (c_X10_nothing l E ) gX10_told_X10_nothing rfl hs_X10_nothing ⟨Nat.le_of_ble_eq_true rfl, Nat.le_of_ble_eq_true rfl⟩ trivial hl.1 rfl (Nat.le_of_ble_eq_true rfl) ⟨by decide, by decide⟩ rfl dX10_told_32) (fun r_32 h_32 => ?_)
        rw [h_32]
        exact hQ (-9223372036854775808) ((can, fw)) _ _ (Or.inl ⟨by omega, rfl⟩) hP hD hS _ _ dX10_told_35
      · skip
        refine lv_iload S.1 S.2.1 dX10_told_21 (lv_at hl 4 rfl) ?_
        refine z_i2l S (by omega) dX10_told_23 ?_
        refine z_lconst (z := 0) S (by decide +kernel) dX10_told_24 ?_
        refine z_lconst (z := 1) S (by decide +kernel) dX10_told_25 ?_
        refine z_ri (z_rS S hK (c_X10_in l E wh 0 1 (by omega) (by omega) (by omega)) gX10_told_X10_in rfl hs_X10_in ⟨Nat.le_of_ble_eq_true rfl, Nat.le_of_ble_eq_true rfl⟩ trivial hl.1 rfl (Nat.le_of_ble_eq_true rfl) ⟨by decide, by decide⟩ rfl dX10_told_26) (fun r_26 h_26 => ?_)
        refine z_if_ne (tgt := 36) S dX10_told_29 (by decide) (by omega) (fun c_29 => ?_) (fun c_29 => ?_)
        · skip
          refine lv_aload_n S.1 S.2.1 dX10_told_36 rfl (lv_at hl 0 rfl) ?_
          refine lv_iload_n S.1 S.2.1 dX10_told_37 rfl (lv_at hl 1 rfl) ?_
          refine lv_iload_n S.1 S.2.1 dX10_told_38 rfl (lv_at hl 2 rfl) ?_
          refine z_bipush S (by decide +kernel) dX10_told_39 ?_
          refine z_mvw (z_mV S hK (c_X10_laySaid l E ad flt ppl kd vl nb fr tl rA rP rk rv rn rf rt can fw fs ss sl sh hd tr v d 99 (by omega) (by omega) (by omega) (by omega) (hpe) _) gX10_told_X10_laySaid rfl hv_X10_laySaid ⟨Nat.le_of_ble_eq_true rfl, Nat.le_of_ble_eq_true rfl⟩ (va_recv hK hP (ci := 10) (q0 := 0) rfl rfl) hP hD trivial hl.1 rfl (Nat.le_of_ble_eq_true rfl) ⟨by decide, by decide⟩ rfl dX10_told_41) hD hS hA (fun u H locs h_41 hP hD hS => ?_)
          obtain ⟨u41_can, u41_fw⟩ := u
          try dsimp only at h_41
          have hP : zP E (mW E ad flt ppl kd vl nb fr tl rA rP rk rv rn rf rt u41_can u41_fw fs ss sl sh hd tr) H := hP
          have hD : va_D A (mW E ad flt ppl kd vl nb fr tl rA rP rk rv rn rf rt u41_can u41_fw fs ss sl sh hd tr) := hD
          refine lv_aload_n S.1 S.2.1 dX10_told_44 rfl (lv_at hl 0 rfl) ?_
          refine lv_iload_n S.1 S.2.1 dX10_told_45 rfl (lv_at hl 3 rfl) ?_
          refine z_ri (z_rV S hK (c_X10_saidOf l E ad flt ppl kd vl nb fr tl rA rP rk rv rn rf rt u41_can u41_fw fs ss sl sh hd tr w ((zCan nb (fun x => zlive kd vl fr tl x v d) ppl)) (by omega) (h_41.2)) gX10_told_X10_saidOf rfl hv_X10_saidOf ⟨Nat.le_of_ble_eq_true rfl, Nat.le_of_ble_eq_true rfl⟩ (va_recv hK hP (ci := 10) (q0 := 0) rfl rfl) hP hl.1 rfl (Nat.le_of_ble_eq_true rfl) ⟨by decide, by decide⟩ rfl dX10_told_46) (fun r_46 h_46 => ?_)
          have hcr := zcnt_rng (fun q => zIn (zCan nb (fun x => zlive kd vl fr tl x v d) ppl) w q) 99
          refine z_i2l S (by omega) dX10_told_49 ?_
          refine z_ldc2 (n := 99) S q_X10_told_1 (by decide +kernel) dX10_told_50 ?_
          refine lv_iload S.1 S.2.1 dX10_told_53 (lv_at hl 4 rfl) ?_
          refine z_rl (z_rS S hK (c_X10_shared l E r_46 99 wh (by omega) (by omega) (by omega)) gX10_told_X10_shared rfl hs_X10_shared ⟨Nat.le_of_ble_eq_true rfl, Nat.le_of_ble_eq_true rfl⟩ trivial hl.1 rfl (Nat.le_of_ble_eq_true rfl) ⟨by decide, by decide⟩ rfl dX10_told_55) (fun r_55 h_55 => ?_)
          exact hQ (r_55) ((u41_can, u41_fw)) _ _ (Or.inr ⟨by omega, by rw [← h_46]; omega⟩) hP hD hS _ _ dX10_told_58
        · skip
          refine z_rl (z_rS S hK (c_X10_nothing l E ) gX10_told_X10_nothing rfl hs_X10_nothing ⟨Nat.le_of_ble_eq_true rfl, Nat.le_of_ble_eq_true rfl⟩ trivial hl.1 rfl (Nat.le_of_ble_eq_true rfl) ⟨by decide, by decide⟩ rfl dX10_told_32) (fun r_32 h_32 => ?_)
          rw [h_32]
          exact hQ (-9223372036854775808) ((can, fw)) _ _ (Or.inl ⟨by omega, rfl⟩) hP hD hS _ _ dX10_told_35

set_option maxHeartbeats 1000000 in
set_option maxRecDepth 20000 in
theorem c_X10_say (l : Launch) (E : zE) (ad : Nat → Nat) (flt ppl : Int) (kd vl nb fr tl : Int → Int) (rA rP : Int) (rk rv rn rf rt can fw fs ss sl sh hd : Int → Int) (tr : Int) (q : Int) (v : Int) (d : Int) (k : Int) (h_q : -2147483648 ≤ q ∧ q ≤ 2147483647) (h_v : -2147483648 ≤ v ∧ v ≤ 2147483647) (h_d : -2147483648 ≤ d ∧ d ≤ 2147483647) (h_k : -2147483648 ≤ k ∧ k ≤ 2147483647) (hp : 0 ≤ ppl ∧ ppl ≤ 10) (hpe : zPeo ppl kd vl nb fr tl) : zMi l E yX10_say wsX10_say (zr 4 0 0) [.ref (ad 0), .int (jI (q)), .int (jI (v)), .int (jI (d)), .int (jI (k))] (mW E ad flt ppl kd vl nb fr tl rA rP rk rv rn rf rt can fw fs ss sl sh hd tr) (fun _ => True) (fun r (u : (Int → Int) × (Int → Int)) => zA_say ppl kd vl nb fr tl q v d k r) (fun (u : (Int → Int) × (Int → Int)) => mW E ad flt ppl kd vl nb fr tl rA rP rk rv rn rf rt u.1 u.2 fs ss sl sh hd tr) 0 0 := by
  refine zMi_of (own := RX10) (cc := cX10_say) (maxL := 9) (by decide) rfl (Nat.le_of_ble_eq_true rfl) rfl ?_
  intro p e s m args below meth c Q A S hK hA hS hP hD hAe hG hQ ls hl
  have hl : lv_has ls 9 [(0, .ref (ad 0)), (1, .int (jI (q))), (2, .int (jI (v))), (3, .int (jI (d))), (4, .int (jI (k)))] := hl
  refine lv_iload_n S.1 S.2.1 dX10_say_0 rfl (lv_at hl 2 rfl) ?_
  refine z_ri (z_rS S hK (c_X10_noVillage l E v (by omega)) gX10_say_X10_noVillage rfl hs_X10_noVillage ⟨Nat.le_of_ble_eq_true rfl, Nat.le_of_ble_eq_true rfl⟩ trivial hl.1 rfl (Nat.le_of_ble_eq_true rfl) ⟨by decide, by decide⟩ rfl dX10_say_1) (fun r_1 h_1 => ?_)
  refine z_if_ne (tgt := 13) S dX10_say_4 (by decide) (by omega) (fun c_4 => ?_) (fun c_4 => ?_)
  · skip
    refine z_iconst S dX10_say_13 ?_
    exact hQ (-1) ((can, fw)) _ _ (Or.inl ⟨by omega, rfl⟩) hP hD hS _ _ dX10_say_14
  · skip
    refine lv_iload S.1 S.2.1 dX10_say_7 (lv_at hl 4 rfl) ?_
    refine z_iconst S dX10_say_9 ?_
    refine z_icmp_ge (tgt := 15) S dX10_say_10 (by decide) (by omega) (fun c_10 => ?_) (fun c_10 => ?_)
    · skip
      refine lv_iload_n S.1 S.2.1 dX10_say_15 rfl (lv_at hl 1 rfl) ?_
      refine z_i2l S (by omega) dX10_say_16 ?_
      refine z_lconst (z := 0) S (by decide +kernel) dX10_say_17 ?_
      refine z_ldc2 (n := 999) S q_X10_say_1 (by decide +kernel) dX10_say_18 ?_
      refine z_ri (z_rS S hK (c_X10_in l E q 0 999 (by omega) (by omega) (by omega)) gX10_say_X10_in rfl hs_X10_in ⟨Nat.le_of_ble_eq_true rfl, Nat.le_of_ble_eq_true rfl⟩ trivial hl.1 rfl (Nat.le_of_ble_eq_true rfl) ⟨by decide, by decide⟩ rfl dX10_say_21) (fun r_21 h_21 => ?_)
      refine z_if_eq (tgt := 34) S dX10_say_24 (by decide) (by omega) (fun c_24 => ?_) (fun c_24 => ?_)
      · skip
        refine z_bipush S (by decide +kernel) dX10_say_34 ?_
        exact hQ (-2) ((can, fw)) _ _ (Or.inr ⟨by omega, Or.inl ⟨by omega, rfl⟩⟩) hP hD hS _ _ dX10_say_36
      · skip
        refine lv_iload_n S.1 S.2.1 dX10_say_27 rfl (lv_at hl 3 rfl) ?_
        refine z_ri (z_rS S hK (c_X10_isDay l E d (by omega)) gX10_say_X10_isDay rfl hs_X10_isDay ⟨Nat.le_of_ble_eq_true rfl, Nat.le_of_ble_eq_true rfl⟩ trivial hl.1 rfl (Nat.le_of_ble_eq_true rfl) ⟨by decide, by decide⟩ rfl dX10_say_28) (fun r_28 h_28 => ?_)
        refine z_if_ne (tgt := 37) S dX10_say_31 (by decide) (by omega) (fun c_31 => ?_) (fun c_31 => ?_)
        · skip
          refine lv_aload_n S.1 S.2.1 dX10_say_37 rfl (lv_at hl 0 rfl) ?_
          refine lv_iload_n S.1 S.2.1 dX10_say_38 rfl (lv_at hl 2 rfl) ?_
          refine lv_iload_n S.1 S.2.1 dX10_say_39 rfl (lv_at hl 3 rfl) ?_
          refine lv_iload_n S.1 S.2.1 dX10_say_40 rfl (lv_at hl 1 rfl) ?_
          refine z_mvw (z_mV S hK (c_X10_laySaid l E ad flt ppl kd vl nb fr tl rA rP rk rv rn rf rt can fw fs ss sl sh hd tr v d q (by omega) (by omega) (by omega) (by omega) (hpe) _) gX10_say_X10_laySaid rfl hv_X10_laySaid ⟨Nat.le_of_ble_eq_true rfl, Nat.le_of_ble_eq_true rfl⟩ (va_recv hK hP (ci := 10) (q0 := 0) rfl rfl) hP hD trivial hl.1 rfl (Nat.le_of_ble_eq_true rfl) ⟨by decide, by decide⟩ rfl dX10_say_41) hD hS hA (fun u H locs h_41 hP hD hS => ?_)
          obtain ⟨u41_can, u41_fw⟩ := u
          try dsimp only at h_41
          have hP : zP E (mW E ad flt ppl kd vl nb fr tl rA rP rk rv rn rf rt u41_can u41_fw fs ss sl sh hd tr) H := hP
          have hD : va_D A (mW E ad flt ppl kd vl nb fr tl rA rP rk rv rn rf rt u41_can u41_fw fs ss sl sh hd tr) := hD
          have hfr := zTab_rng h_41.2 (q := q) (by omega) (by omega)
          refine lv_aload_n S.1 S.2.1 dX10_say_44 rfl (lv_at hl 0 rfl) ?_
          refine z_get S hK hP 0 rfl rfl 15 (by decide) i_X10_say_10 q_X10_say_2 rfl dX10_say_45 ?_
          refine lv_iload_n S.1 S.2.1 dX10_say_48 rfl (lv_at hl 1 rfl) ?_
          refine z_iald S hK hP 12 rfl (by omega) dX10_say_49 ?_
          refine lv_istore (lv' := [(5, .int (jI (u41_fw (q)))), (0, .ref (ad 0)), (1, .int (jI (q))), (2, .int (jI (v))), (3, .int (jI (d))), (4, .int (jI (k)))]) S.1 S.2.1 dX10_say_50 hl (by decide) rfl (fun ls hl => ?_)
          refine lv_iload S.1 S.2.1 dX10_say_52 (lv_at hl 0 rfl) ?_
          refine z_sipush S (by decide +kernel) dX10_say_54 ?_
          refine z_icmp_ge (tgt := 67) S dX10_say_57 (by decide) (by omega) (fun c_57 => ?_) (fun c_57 => ?_)
          · skip
            refine z_bipush S (by decide +kernel) dX10_say_67 ?_
            exact hQ (-9) ((u41_can, u41_fw)) _ _ (Or.inr ⟨by omega, Or.inr ⟨by omega, zSaid_none h_41.2 (by omega) (by omega) (by omega)⟩⟩) hP hD hS _ _ dX10_say_69
          · skip
            refine lv_iload S.1 S.2.1 dX10_say_60 (lv_at hl 5 rfl) ?_
            refine lv_iload S.1 S.2.1 dX10_say_62 (lv_at hl 0 rfl) ?_
            refine z_icmp_lt (tgt := 70) S dX10_say_64 (by decide) (by omega) (fun c_64 => ?_) (fun c_64 => ?_)
            · skip
              obtain ⟨wN, hwN⟩ : ∃ wN : Nat, u41_fw q = wN := ⟨(u41_fw q).toNat, by omega⟩
              have hmin : zMin (zCan nb (fun x => zlive kd vl fr tl x v d) ppl) q wN := zTab_is h_41.2 (by omega) hwN (by omega)
              refine lv_iload S.1 S.2.1 dX10_say_70 (lv_at hl 5 rfl) ?_
              refine z_if_ge (tgt := 78) S dX10_say_72 (by decide) (by omega) (fun c_72 => ?_) (fun c_72 => ?_)
              · skip
                refine lv_iload_n S.1 S.2.1 dX10_say_78 rfl (lv_at hl 2 rfl) ?_
                refine lv_istore (lv' := [(6, .int (jI (q))), (5, .int (jI (u41_fw (q)))), (0, .ref (ad 0)), (1, .int (jI (q))), (2, .int (jI (v))), (3, .int (jI (d))), (4, .int (jI (k)))]) S.1 S.2.1 dX10_say_79 hl (by decide) rfl (fun ls hl => ?_)
                refine z_iconst S dX10_say_81 ?_
                refine lv_istore (lv' := [(7, .int (jI (0))), (6, .int (jI (q))), (5, .int (jI (u41_fw (q)))), (0, .ref (ad 0)), (1, .int (jI (q))), (2, .int (jI (v))), (3, .int (jI (d))), (4, .int (jI (k)))]) S.1 S.2.1 dX10_say_82 hl (by decide) rfl (fun ls hl => ?_)
                refine z_iconst S dX10_say_84 ?_
                refine lv_istore (lv' := [(8, .int (jI (0))), (7, .int (jI (0))), (6, .int (jI (q))), (5, .int (jI (u41_fw (q)))), (0, .ref (ad 0)), (1, .int (jI (q))), (2, .int (jI (v))), (3, .int (jI (d))), (4, .int (jI (k)))]) S.1 S.2.1 dX10_say_85 hl (by decide) rfl (fun ls hl => ?_)
                suffices HL_1 : ∀ (n_2 : Nat) (st : Int) (lf : Int) (i0 : Int), (k + 1 - st).toNat < n_2 → (0 ≤ st ∧ st ≤ k + 1) → (0 ≤ lf ∧ lf ≤ q) → (0 ≤ i0 ∧ i0 ≤ 99) → (zSayI (zCan nb (fun x => zlive kd vl fr tl x v d) ppl) q k wN st lf i0) → ∀ (H : Heap) (locs : List Loc), zP E (mW E ad flt ppl kd vl nb fr tl rA rP rk rv rn rf rt u41_can u41_fw fs ss sl sh hd tr) H → va_D A (mW E ad flt ppl kd vl nb fr tl rA rP rk rv rn rf rt u41_can u41_fw fs ss sl sh hd tr) → va_S A s.heap H locs → ∀ (ls : Array Slot), lv_has ls 9 [(8, .int (jI (st))), (6, .int (jI (lf))), (7, .int (jI (i0))), (5, .int (jI (u41_fw q))), (0, .ref (ad 0)), (1, .int (jI (q))), (2, .int (jI (v))), (3, .int (jI (d))), (4, .int (jI (k)))] → W p l e (zr 4 0 0) s m args below meth c H locs 0 0 Q (F0 m 87 ls []) from
                  HL_1 _ 0 q 0 (Nat.lt_succ_self _) (by omega) (by omega) (by omega) (zSayI_0 hmin (by omega)) _ _ hP hD hS ls (lv_sub hl [0, 2, 1, 3, 4, 5, 6, 7, 8] rfl)
                intro n_2
                induction n_2 with
                | zero => intro st lf i0 hm hst0 hlf hi0 hfin; exact absurd hm (Nat.not_lt_zero _)
                | succ n_2 ih_3 =>
                  intro st lf i0 hm hst0 hlf hi0 hfin H locs hP hD hS ls hl
                  refine lv_iload S.1 S.2.1 dX10_say_87 (lv_at hl 0 rfl) ?_
                  refine lv_iload S.1 S.2.1 dX10_say_89 (lv_at hl 8 rfl) ?_
                  refine z_icmp_gt (tgt := 154) S dX10_say_91 (by decide) (by omega) (fun c_91 => ?_) (fun c_91 => ?_)
                  · skip
                    refine lv_iload S.1 S.2.1 dX10_say_154 (lv_at hl 2 rfl) ?_
                    exact hQ (i0) ((u41_can, u41_fw)) _ _ (Or.inr ⟨by omega, Or.inr ⟨by omega, Or.inr ⟨wN, hmin, Or.inr (Or.inr ⟨by omega, by omega, zSayI_b hfin (by omega)⟩)⟩⟩⟩) hP hD hS _ _ dX10_say_156
                  · skip
                    obtain ⟨w1, hw1, hm1, hnx⟩ : ∃ w1 : Nat, (w1 : Int) = wN - st - 1 ∧ zMin (zCan nb (fun x => zlive kd vl fr tl x v d) ppl) lf (w1 + 1) ∧ ∀ r, zNth (zCan nb (fun x => zlive kd vl fr tl x v d) ppl) (k - st).toNat lf r → zNth (zCan nb (fun x => zlive kd vl fr tl x v d) ppl) k.toNat q r := zSayI_a hfin (by omega)
                    obtain ⟨aS, hst, has, hca, hma⟩ := zSt_ex hm1
                    have hlf2 := zSay_nn hma.1
                    refine lv_iload S.1 S.2.1 dX10_say_94 (lv_at hl 1 rfl) ?_
                    refine z_bipush S (by decide +kernel) dX10_say_96 ?_
                    refine z_ri (z_rS S hK (c_X10_lesser l E lf 99 (by omega) (by omega)) gX10_say_X10_lesser rfl hs_X10_lesser ⟨Nat.le_of_ble_eq_true rfl, Nat.le_of_ble_eq_true rfl⟩ trivial hl.1 rfl (Nat.le_of_ble_eq_true rfl) ⟨by decide, by decide⟩ rfl dX10_say_98) (fun r_98 h_98 => ?_)
                    refine lv_istore (lv' := [(7, .int (jI (r_98))), (8, .int (jI (st))), (6, .int (jI (lf))), (5, .int (jI (u41_fw q))), (0, .ref (ad 0)), (1, .int (jI (q))), (2, .int (jI (v))), (3, .int (jI (d))), (4, .int (jI (k)))]) S.1 S.2.1 dX10_say_101 hl (by decide) rfl (fun ls hl => ?_)
                    suffices HL_4 : ∀ (n_5 : Nat) (it : Int), (it).toNat < n_5 → (aS ≤ it ∧ it ≤ 99 ∧ it ≤ lf) → ∀ (H : Heap) (locs : List Loc), zP E (mW E ad flt ppl kd vl nb fr tl rA rP rk rv rn rf rt u41_can u41_fw fs ss sl sh hd tr) H → va_D A (mW E ad flt ppl kd vl nb fr tl rA rP rk rv rn rf rt u41_can u41_fw fs ss sl sh hd tr) → va_S A s.heap H locs → ∀ (ls : Array Slot), lv_has ls 9 [(7, .int (jI (it))), (8, .int (jI (st))), (6, .int (jI (lf))), (5, .int (jI (u41_fw q))), (0, .ref (ad 0)), (1, .int (jI (q))), (2, .int (jI (v))), (3, .int (jI (d))), (4, .int (jI (k)))] → W p l e (zr 4 0 0) s m args below meth c H locs 0 0 Q (F0 m 103 ls []) from
                      HL_4 _ r_98 (Nat.lt_succ_self _) (by omega) _ _ hP hD hS ls (lv_sub hl [0, 1, 2, 3, 4, 5, 6, 7, 8] rfl)
                    intro n_5
                    induction n_5 with
                    | zero => intro it hm hit; exact absurd hm (Nat.not_lt_zero _)
                    | succ n_5 ih_6 =>
                      intro it hm hit H locs hP hD hS ls hl
                      have hc01 := zSet_01 h_41.1 (x := it) (by omega)
                      refine lv_aload_n S.1 S.2.1 dX10_say_103 rfl (lv_at hl 4 rfl) ?_
                      refine z_get S hK hP 0 rfl rfl 14 (by decide) i_X10_say_10 q_X10_say_3 rfl dX10_say_104 ?_
                      refine lv_iload S.1 S.2.1 dX10_say_107 (lv_at hl 0 rfl) ?_
                      refine z_zald S hK hP 11 rfl (by omega) dX10_say_109 ?_
                      refine z_if_eq (tgt := 135) S dX10_say_110 (by decide) (by omega) (fun c_110 => ?_) (fun c_110 => ?_)
                      · skip
                        refine z_iinc (lv' := [(7, .int (jI (it + (-1)))), (8, .int (jI (st))), (6, .int (jI (lf))), (5, .int (jI (u41_fw q))), (0, .ref (ad 0)), (1, .int (jI (q))), (2, .int (jI (v))), (3, .int (jI (d))), (4, .int (jI (k)))]) S hl (k := 0) rfl (by decide) rfl dX10_say_135 (fun ls hl => ?_)
                        refine z_goto (tgt := 103) S dX10_say_138 (by decide) ?_
                        exact ih_6 (it + (-1)) (by omega) (by have qe : it ≠ aS := (by intro e; subst e; first | exact (hc01.elim (fun z => absurd z.1 (by omega)) (fun z => z.2 hca)) | (have := zTab_of h_41.2 (q := lf - it) (by omega) hma; omega)); omega) _ _ hP hD hS ls (lv_sub hl [0, 1, 2, 3, 4, 5, 6, 7, 8] rfl)
                      · skip
                        have hfr2 := zTab_rng h_41.2 (q := lf - it) (by omega) (by omega)
                        have hfl := zTab_of h_41.2 (q := lf) (by omega) hm1
                        refine lv_aload_n S.1 S.2.1 dX10_say_113 rfl (lv_at hl 4 rfl) ?_
                        refine z_get S hK hP 0 rfl rfl 15 (by decide) i_X10_say_10 q_X10_say_2 rfl dX10_say_114 ?_
                        refine lv_iload S.1 S.2.1 dX10_say_117 (lv_at hl 2 rfl) ?_
                        refine lv_iload S.1 S.2.1 dX10_say_119 (lv_at hl 0 rfl) ?_
                        refine z_isub S dX10_say_121 ?_
                        refine z_iald S hK hP 12 rfl (by omega) dX10_say_122 ?_
                        refine lv_aload_n S.1 S.2.1 dX10_say_123 rfl (lv_at hl 4 rfl) ?_
                        refine z_get S hK hP 0 rfl rfl 15 (by decide) i_X10_say_10 q_X10_say_2 rfl dX10_say_124 ?_
                        refine lv_iload S.1 S.2.1 dX10_say_127 (lv_at hl 2 rfl) ?_
                        refine z_iald S hK hP 12 rfl (by omega) dX10_say_129 ?_
                        refine z_iconst S dX10_say_130 ?_
                        refine z_isub S dX10_say_131 ?_
                        refine z_icmp_eq (tgt := 141) S dX10_say_132 (by decide) (by omega) (fun c_132 => ?_) (fun c_132 => ?_)
                        · skip
                          obtain ⟨w0, w0a, ⟨w0b, w0c, w0d⟩, w0e⟩ := hst
                          have hmi : zMin (zCan nb (fun x => zlive kd vl fr tl x v d) ppl) (lf - it) w1 := zTab_is h_41.2 (by omega) (by omega) (by omega)
                          have hw01 := zMin_one w0a hm1
                          have hie : it = aS := (by rcases Int.lt_or_eq_of_le hit.1 with z | z
                                                    · exact absurd (by rw [show w0 = w1 by omega]; exact hmi) (w0e it z (by omega) (hc01.elim (fun q => q.2) (fun q => absurd q.1 (by omega))))
                                                    · exact z.symm)
                          have hst2 : zSt (zCan nb (fun x => zlive kd vl fr tl x v d) ppl) lf it := by rw [hie]; exact ⟨w0, w0a, ⟨w0b, w0c, w0d⟩, w0e⟩
                          have hma2 := hmi
                          refine lv_iload S.1 S.2.1 dX10_say_141 (lv_at hl 2 rfl) ?_
                          refine lv_iload S.1 S.2.1 dX10_say_143 (lv_at hl 0 rfl) ?_
                          refine z_isub S dX10_say_145 ?_
                          refine lv_istore (lv' := [(6, .int (jI (lf - it))), (7, .int (jI (it))), (8, .int (jI (st))), (5, .int (jI (u41_fw q))), (0, .ref (ad 0)), (1, .int (jI (q))), (2, .int (jI (v))), (3, .int (jI (d))), (4, .int (jI (k)))]) S.1 S.2.1 dX10_say_146 hl (by decide) rfl (fun ls hl => ?_)
                          refine z_iinc (lv' := [(8, .int (jI (st + 1))), (6, .int (jI (lf - it))), (7, .int (jI (it))), (5, .int (jI (u41_fw q))), (0, .ref (ad 0)), (1, .int (jI (q))), (2, .int (jI (v))), (3, .int (jI (d))), (4, .int (jI (k)))]) S hl (k := 2) rfl (by decide) rfl dX10_say_148 (fun ls hl => ?_)
                          refine z_goto (tgt := 87) S dX10_say_151 (by decide) ?_
                          exact ih_3 (st + 1) (lf - it) it (by omega) (by omega) (by omega) (by omega) (zSay_next hst2 hma2 hw1 hnx (by omega)) _ _ hP hD hS ls (lv_sub hl [0, 1, 2, 3, 4, 5, 6, 7, 8] rfl)
                        · skip
                          refine z_iinc (lv' := [(7, .int (jI (it + (-1)))), (8, .int (jI (st))), (6, .int (jI (lf))), (5, .int (jI (u41_fw q))), (0, .ref (ad 0)), (1, .int (jI (q))), (2, .int (jI (v))), (3, .int (jI (d))), (4, .int (jI (k)))]) S hl (k := 0) rfl (by decide) rfl dX10_say_135 (fun ls hl => ?_)
                          refine z_goto (tgt := 103) S dX10_say_138 (by decide) ?_
                          exact ih_6 (it + (-1)) (by omega) (by have qe : it ≠ aS := (by intro e; subst e; first | exact (hc01.elim (fun z => absurd z.1 (by omega)) (fun z => z.2 hca)) | (have := zTab_of h_41.2 (q := lf - it) (by omega) hma; omega)); omega) _ _ hP hD hS ls (lv_sub hl [0, 1, 2, 3, 4, 5, 6, 7, 8] rfl)
              · skip
                refine lv_iload S.1 S.2.1 dX10_say_75 (lv_at hl 0 rfl) ?_
                exact hQ (u41_fw (q)) ((u41_can, u41_fw)) _ _ (Or.inr ⟨by omega, Or.inr ⟨by omega, Or.inr ⟨wN, hmin, Or.inl ⟨by omega, by omega⟩⟩⟩⟩) hP hD hS _ _ dX10_say_77
            · skip
              refine z_bipush S (by decide +kernel) dX10_say_67 ?_
              exact hQ (-9) ((u41_can, u41_fw)) _ _ (Or.inr ⟨by omega, Or.inr ⟨by omega, zSaid_none h_41.2 (by omega) (by omega) (by omega)⟩⟩) hP hD hS _ _ dX10_say_69
        · skip
          refine z_bipush S (by decide +kernel) dX10_say_34 ?_
          exact hQ (-2) ((can, fw)) _ _ (Or.inr ⟨by omega, Or.inl ⟨by omega, rfl⟩⟩) hP hD hS _ _ dX10_say_36
    · skip
      refine z_iconst S dX10_say_13 ?_
      exact hQ (-1) ((can, fw)) _ _ (Or.inl ⟨by omega, rfl⟩) hP hD hS _ _ dX10_say_14
