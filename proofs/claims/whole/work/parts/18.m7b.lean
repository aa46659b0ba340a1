theorem i_X10_readsRoll_10 : ∀ w ∈ u_ws RX10 TX10 22, w ∈ wsX10_readsRoll := fun w h => List.mem_cons_of_mem _ (List.mem_append_right _ h)
theorem q_X10_readsRoll_1 : Cond.fieldLink RX10 100 "LivingNumbersModel" "readAt" "I" ∈ wsX10_readsRoll := List.mem_of_getElem? (i := 1) rfl
theorem q_X10_readsRoll_2 : Cond.fieldLink RX10 109 "LivingNumbersModel" "readPeople" "I" ∈ wsX10_readsRoll := List.mem_of_getElem? (i := 2) rfl
theorem hv_X10_readsOne : yX10_readsOne.cls = RX10 ∧ yX10_readsOne.cls ≠ "java/lang/invoke/MethodHandle" ∧ yX10_readsOne.cls ≠ "java/lang/invoke/VarHandle" ∧ (parseMethodDescriptor yX10_readsOne.desc).map (fun d => d.parameters.length) = some 2 := by decide +kernel
theorem hv_X10_readsRoll : yX10_readsRoll.cls = RX10 ∧ yX10_readsRoll.cls ≠ "java/lang/invoke/MethodHandle" ∧ yX10_readsRoll.cls ≠ "java/lang/invoke/VarHandle" ∧ (parseMethodDescriptor yX10_readsRoll.desc).map (fun d => d.parameters.length) = some 2 := by decide +kernel
theorem i_X10_roll_10 : ∀ w ∈ u_ws RX10 TX10 22, w ∈ wsX10_roll := fun w h => List.mem_cons_of_mem _ (List.mem_append_right _ h)
theorem q_X10_roll_2 : Cond.fieldLink RX10 109 "LivingNumbersModel" "readPeople" "I" ∈ wsX10_roll := List.mem_of_getElem? (i := 2) rfl
theorem q_X10_roll_3 : Cond.fieldLink RX10 93 "LivingNumbersModel" "people" "I" ∈ wsX10_roll := List.mem_of_getElem? (i := 3) rfl
theorem q_X10_roll_4 : Cond.fieldLink RX10 7 "LivingNumbersModel" "kindOf" "[I" ∈ wsX10_roll := List.mem_of_getElem? (i := 4) rfl
theorem q_X10_roll_5 : Cond.fieldLink RX10 25 "LivingNumbersModel" "readKind" "[I" ∈ wsX10_roll := List.mem_of_getElem? (i := 5) rfl
theorem q_X10_roll_6 : Cond.fieldLink RX10 13 "LivingNumbersModel" "villageOf" "[I" ∈ wsX10_roll := List.mem_of_getElem? (i := 6) rfl
theorem q_X10_roll_7 : Cond.fieldLink RX10 28 "LivingNumbersModel" "readVillage" "[I" ∈ wsX10_roll := List.mem_of_getElem? (i := 7) rfl
theorem q_X10_roll_8 : Cond.fieldLink RX10 16 "LivingNumbersModel" "numberOf" "[I" ∈ wsX10_roll := List.mem_of_getElem? (i := 8) rfl
theorem q_X10_roll_9 : Cond.fieldLink RX10 31 "LivingNumbersModel" "readNumber" "[I" ∈ wsX10_roll := List.mem_of_getElem? (i := 9) rfl
theorem q_X10_roll_10 : Cond.fieldLink RX10 19 "LivingNumbersModel" "fromOf" "[I" ∈ wsX10_roll := List.mem_of_getElem? (i := 10) rfl
theorem q_X10_roll_11 : Cond.fieldLink RX10 34 "LivingNumbersModel" "readFrom" "[I" ∈ wsX10_roll := List.mem_of_getElem? (i := 11) rfl
theorem q_X10_roll_12 : Cond.fieldLink RX10 22 "LivingNumbersModel" "tillOf" "[I" ∈ wsX10_roll := List.mem_of_getElem? (i := 12) rfl
theorem q_X10_roll_13 : Cond.fieldLink RX10 37 "LivingNumbersModel" "readTill" "[I" ∈ wsX10_roll := List.mem_of_getElem? (i := 13) rfl
theorem q_X10_roll_1 : Cond.fieldLink RX10 100 "LivingNumbersModel" "readAt" "I" ∈ wsX10_roll := List.mem_of_getElem? (i := 1) rfl
set_option maxHeartbeats 1000000 in
set_option maxRecDepth 20000 in
theorem c_X10_readsRoll (l : Launch) (E : zE) (ad : Nat → Nat) (flt ppl : Int) (kd vl nb fr tl : Int → Int) (rA rP : Int) (rk rv rn rf rt can fw fs ss sl sh hd : Int → Int) (tr : Int) (frm : Int) (n : Int) (hf : 0 ≤ frm ∧ 0 ≤ n ∧ n ≤ 100 ∧ frm + n ≤ 400) (hcr : zRg sh) : zMi l E yX10_readsRoll wsX10_readsRoll (zr 5 0 0) [.ref (ad 0), .int (jI (frm)), .int (jI (n))] (mW E ad flt ppl kd vl nb fr tl rA rP rk rv rn rf rt can fw fs ss sl sh hd tr) (fun _ => True) (fun r (u : Int × (Int × ((Int → Int) × ((Int → Int) × ((Int → Int) × ((Int → Int) × (Int → Int))))))) => zRolls (fun j => sh (frm + j)) n r u.1 u.2.1 u.2.2.1 u.2.2.2.1 u.2.2.2.2.1 u.2.2.2.2.2.1 u.2.2.2.2.2.2 ∧ (r = 1 → u.1 = n)) (fun (u : Int × (Int × ((Int → Int) × ((Int → Int) × ((Int → Int) × ((Int → Int) × (Int → Int))))))) => mW E ad flt ppl kd vl nb fr tl u.1 u.2.1 u.2.2.1 u.2.2.2.1 u.2.2.2.2.1 u.2.2.2.2.2.1 u.2.2.2.2.2.2 can fw fs ss sl sh hd tr) 0 0 := by
  refine zMz_of (own := RX10) (cc := cX10_readsRoll) (maxL := 4) (by decide) rfl (Nat.le_of_ble_eq_true rfl) rfl ?_
  intro p e s m args below meth c Q A S hK hA hS hP hD hAe hG hQ ls hl
  have hl : lv_has ls 4 [(0, .ref (ad 0)), (1, .int (jI (frm))), (2, .int (jI (n)))] := hl
  refine lv_aload_n S.1 S.2.1 dX10_readsRoll_0 rfl (lv_at hl 0 rfl) ?_
  refine z_iconst S dX10_readsRoll_1 ?_
  refine z_puti S hK hP hD hS 0 rfl rfl 7 (by decide) i_X10_readsRoll_10 q_X10_readsRoll_1 tyX10 tyX10_ok nmX10 rfl (by decide +kernel) (Nat.le_of_ble_eq_true rfl) dX10_readsRoll_2 (fun H locs hP hD hS => ?_)
  have hP : zP E (mW E ad flt ppl kd vl nb fr tl 0 rP rk rv rn rf rt can fw fs ss sl sh hd tr) H := hP
  have hD : va_D A (mW E ad flt ppl kd vl nb fr tl 0 rP rk rv rn rf rt can fw fs ss sl sh hd tr) := hD
  refine lv_aload_n S.1 S.2.1 dX10_readsRoll_5 rfl (lv_at hl 0 rfl) ?_
  refine z_iconst S dX10_readsRoll_6 ?_
  refine z_puti S hK hP hD hS 0 rfl rfl 8 (by decide) i_X10_readsRoll_10 q_X10_readsRoll_2 tyX10 tyX10_ok nmX10 rfl (by decide +kernel) (Nat.le_of_ble_eq_true rfl) dX10_readsRoll_7 (fun H locs hP hD hS => ?_)
  have hP : zP E (mW E ad flt ppl kd vl nb fr tl 0 0 rk rv rn rf rt can fw fs ss sl sh hd tr) H := hP
  have hD : va_D A (mW E ad flt ppl kd vl nb fr tl 0 0 rk rv rn rf rt can fw fs ss sl sh hd tr) := hD
  refine lv_aload_n S.1 S.2.1 dX10_readsRoll_10 rfl (lv_at hl 0 rfl) ?_
  refine lv_iload_n S.1 S.2.1 dX10_readsRoll_11 rfl (lv_at hl 1 rfl) ?_
  refine lv_iload_n S.1 S.2.1 dX10_readsRoll_12 rfl (lv_at hl 2 rfl) ?_
  refine z_miw (z_mV S hK (c_X10_readsOne l E ad flt ppl kd vl nb fr tl 0 0 rk rv rn rf rt can fw fs ss sl sh hd tr frm n (by omega) (hcr) (by omega) (zall_0) _) gX10_readsRoll_X10_readsOne rfl hv_X10_readsOne ⟨Nat.le_of_ble_eq_true rfl, Nat.le_of_ble_eq_true rfl⟩ (va_recv hK hP (ci := 10) (q0 := 0) rfl rfl) hP hD trivial hl.1 rfl (Nat.le_of_ble_eq_true rfl) ⟨by decide, by decide⟩ rfl dX10_readsRoll_13) hD hS hA (fun r_13 u H locs h_13 hP hD hS => ?_)
  obtain ⟨u13_rA, u13_rP, u13_rk, u13_rv, u13_rn, u13_rf, u13_rt⟩ := u
  try dsimp only at h_13
  have hP : zP E (mW E ad flt ppl kd vl nb fr tl u13_rA u13_rP u13_rk u13_rv u13_rn u13_rf u13_rt can fw fs ss sl sh hd tr) H := hP
  have hD : va_D A (mW E ad flt ppl kd vl nb fr tl u13_rA u13_rP u13_rk u13_rv u13_rn u13_rf u13_rt can fw fs ss sl sh hd tr) := hD
  have hI0 := zRolls_next h_13 zRead_0 (by omega)
  have h01 : r_13 = 0 ∨ r_13 = 1 := h_13.elim (fun q => Or.inr q.1) (fun q => Or.inl q.1)
  refine lv_istore_n (lv' := [(3, .int (jI (r_13))), (0, .ref (ad 0)), (1, .int (jI (frm))), (2, .int (jI (n)))]) S.1 S.2.1 dX10_readsRoll_16 rfl hl (by decide) rfl (fun ls hl => ?_)
  suffices HL_1 : ∀ (n_2 : Nat) (is1 : Int) (a : Int) (p1 : Int) (g0 : Int → Int) (g1 : Int → Int) (g2 : Int → Int) (g3 : Int → Int) (g4 : Int → Int), (zms is1 (n + 1 - a)).toNat < n_2 → (is1 = 0 ∨ is1 = 1) → (zRolls (fun j => sh (frm + j)) n is1 a p1 g0 g1 g2 g3 g4) → (0 ≤ a ∧ a ≤ n) → ∀ (H : Heap) (locs : List Loc), zP E (mW E ad flt ppl kd vl nb fr tl a p1 g0 g1 g2 g3 g4 can fw fs ss sl sh hd tr) H → va_D A (mW E ad flt ppl kd vl nb fr tl a p1 g0 g1 g2 g3 g4 can fw fs ss sl sh hd tr) → va_S A s.heap H locs → ∀ (ls : Array Slot), lv_has ls 4 [(3, .int (jI (is1))), (0, .ref (ad 0)), (1, .int (jI (frm))), (2, .int (jI (n)))] → W p l e (zr 5 0 0) s m args below meth c H locs 0 0 Q (F0 m 17 ls []) from
    HL_1 _ r_13 u13_rA u13_rP u13_rk u13_rv u13_rn u13_rf u13_rt (Nat.lt_succ_self _) (h01) (hI0) (zRolls_4 hI0) _ _ hP hD hS ls (lv_sub hl [0, 1, 2, 3] rfl)
  intro n_2
  induction n_2 with
  | zero => intro is1 a p1 g0 g1 g2 g3 g4 hm h01 hI hra; exact absurd hm (Nat.not_lt_zero _)
  | succ n_2 ih_3 =>
    intro is1 a p1 g0 g1 g2 g3 g4 hm h01 hI hra H locs hP hD hS ls hl
    refine lv_iload_n S.1 S.2.1 dX10_readsRoll_17 rfl (lv_at hl 0 rfl) ?_
    refine z_if_eq (tgt := 39) S dX10_readsRoll_18 (by decide) (by omega) (fun c_18 => ?_) (fun c_18 => ?_)
    · skip
      refine lv_iload_n S.1 S.2.1 dX10_readsRoll_39 rfl (lv_at hl 0 rfl) ?_
      exact hQ (is1) ((a, (p1, (g0, (g1, (g2, (g3, g4))))))) _ _ (by omega) (⟨hI, by omega⟩) hP hD hS _ _ dX10_readsRoll_40
    · skip
      refine lv_aload_n S.1 S.2.1 dX10_readsRoll_21 rfl (lv_at hl 1 rfl) ?_
      refine z_get S hK hP 0 rfl rfl 7 (by decide) i_X10_readsRoll_10 q_X10_readsRoll_1 rfl dX10_readsRoll_22 ?_
      refine lv_iload_n S.1 S.2.1 dX10_readsRoll_25 rfl (lv_at hl 3 rfl) ?_
      refine z_icmp_ge (tgt := 39) S dX10_readsRoll_26 (by decide) (by omega) (fun c_26 => ?_) (fun c_26 => ?_)
      · skip
        refine lv_iload_n S.1 S.2.1 dX10_readsRoll_39 rfl (lv_at hl 0 rfl) ?_
        exact hQ (is1) ((a, (p1, (g0, (g1, (g2, (g3, g4))))))) _ _ (by omega) (⟨hI, by omega⟩) hP hD hS _ _ dX10_readsRoll_40
      · skip
        refine lv_aload_n S.1 S.2.1 dX10_readsRoll_29 rfl (lv_at hl 1 rfl) ?_
        refine lv_iload_n S.1 S.2.1 dX10_readsRoll_30 rfl (lv_at hl 2 rfl) ?_
        refine lv_iload_n S.1 S.2.1 dX10_readsRoll_31 rfl (lv_at hl 3 rfl) ?_
        refine z_miw (z_mV S hK (c_X10_readsOne l E ad flt ppl kd vl nb fr tl a p1 g0 g1 g2 g3 g4 can fw fs ss sl sh hd tr frm n (by omega) (hcr) (by have := zRolls_1 hI (by omega); omega) (zRolls_2 hI (by omega)) _) gX10_readsRoll_X10_readsOne rfl hv_X10_readsOne ⟨Nat.le_of_ble_eq_true rfl, Nat.le_of_ble_eq_true rfl⟩ (va_recv hK hP (ci := 10) (q0 := 0) rfl rfl) hP hD trivial hl.1 rfl (Nat.le_of_ble_eq_true rfl) ⟨by decide, by decide⟩ rfl dX10_readsRoll_32) hD hS hA (fun r_32 u H locs h_32 hP hD hS => ?_)
        obtain ⟨u32_rA, u32_rP, u32_rk, u32_rv, u32_rn, u32_rf, u32_rt⟩ := u
        try dsimp only at h_32
        have hP : zP E (mW E ad flt ppl kd vl nb fr tl u32_rA u32_rP u32_rk u32_rv u32_rn u32_rf u32_rt can fw fs ss sl sh hd tr) H := hP
        have hD : va_D A (mW E ad flt ppl kd vl nb fr tl u32_rA u32_rP u32_rk u32_rv u32_rn u32_rf u32_rt can fw fs ss sl sh hd tr) := hD
        have hI1 := zRolls_next h_32 (zRolls_3 hI (by omega)) (by have := zRolls_1 hI (by omega); omega)
        have h011 : r_32 = 0 ∨ r_32 = 1 := h_32.elim (fun q => Or.inr q.1) (fun q => Or.inl q.1)
        have hms0 := zms_or is1 (n + 1 - a)
        have hms1 := zms_or r_32 (n + 1 - u32_rA)
        have hadv : r_32 = 1 → u32_rA = 9 * p1 + 8 := fun z => h_32.elim (fun q => q.2.1.1) (fun q => by omega)
        have hcur := zRolls_1 hI (by omega)
        refine lv_istore_n (lv' := [(3, .int (jI (r_32))), (0, .ref (ad 0)), (1, .int (jI (frm))), (2, .int (jI (n)))]) S.1 S.2.1 dX10_readsRoll_35 rfl hl (by decide) rfl (fun ls hl => ?_)
        refine z_goto (tgt := 17) S dX10_readsRoll_36 (by decide) ?_
        exact ih_3 r_32 u32_rA u32_rP u32_rk u32_rv u32_rn u32_rf u32_rt (by have := zRolls_4 hI1; omega) (h011) (hI1) (zRolls_4 hI1) _ _ hP hD hS ls (lv_sub hl [0, 1, 2, 3] rfl)

set_option maxHeartbeats 1000000 in
set_option maxRecDepth 20000 in
theorem c_X10_roll (l : Launch) (E : zE) (ad : Nat → Nat) (flt ppl : Int) (kd vl nb fr tl : Int → Int) (rA rP : Int) (rk rv rn rf rt can fw fs ss sl sh hd : Int → Int) (tr : Int) (k : Int) (lane : Int) (i : Int) (n : Int) (h_k : -2147483648 ≤ k ∧ k ≤ 2147483647) (h_lane : -2147483648 ≤ lane ∧ lane ≤ 2147483647) (h_i : -2147483648 ≤ i ∧ i ≤ 2147483647) (h_n : -2147483648 ≤ n ∧ n ≤ 2147483647) (hp : 0 ≤ ppl ∧ ppl ≤ 10) (hsh : zShe ss sl) (hcr : zRg sh) : zMi l E yX10_roll wsX10_roll (zr 6 0 0) [.ref (ad 0), .int (jI (k)), .int (jI (lane)), .int (jI (i)), .int (jI (n))] (mW E ad flt ppl kd vl nb fr tl rA rP rk rv rn rf rt can fw fs ss sl sh hd tr) (fun _ => True) (fun r (u : Int × (Int × ((Int → Int) × ((Int → Int) × ((Int → Int) × ((Int → Int) × ((Int → Int) × (Int × (Int × ((Int → Int) × ((Int → Int) × ((Int → Int) × ((Int → Int) × (Int → Int)))))))))))))) => zA_roll ss sl sh k lane i n r u.1 ppl kd vl nb fr tl u.2.1 u.2.2.1 u.2.2.2.1 u.2.2.2.2.1 u.2.2.2.2.2.1 u.2.2.2.2.2.2.1) (fun (u : Int × (Int × ((Int → Int) × ((Int → Int) × ((Int → Int) × ((Int → Int) × ((Int → Int) × (Int × (Int × ((Int → Int) × ((Int → Int) × ((Int → Int) × ((Int → Int) × (Int → Int)))))))))))))) => mW E ad u.1 u.2.1 u.2.2.1 u.2.2.2.1 u.2.2.2.2.1 u.2.2.2.2.2.1 u.2.2.2.2.2.2.1 u.2.2.2.2.2.2.2.1 u.2.2.2.2.2.2.2.2.1 u.2.2.2.2.2.2.2.2.2.1 u.2.2.2.2.2.2.2.2.2.2.1 u.2.2.2.2.2.2.2.2.2.2.2.1 u.2.2.2.2.2.2.2.2.2.2.2.2.1 u.2.2.2.2.2.2.2.2.2.2.2.2.2 can fw fs ss sl sh hd tr) 0 0 := by
  refine zMi_of (own := RX10) (cc := cX10_roll) (maxL := 7) (by decide) rfl (Nat.le_of_ble_eq_true rfl) rfl ?_
  intro p e s m args below meth c Q A S hK hA hS hP hD hAe hG hQ ls hl
  have hl : lv_has ls 7 [(0, .ref (ad 0)), (1, .int (jI (k))), (2, .int (jI (lane))), (3, .int (jI (i))), (4, .int (jI (n)))] := hl
  refine lv_aload_n S.1 S.2.1 dX10_roll_0 rfl (lv_at hl 0 rfl) ?_
  refine lv_iload_n S.1 S.2.1 dX10_roll_1 rfl (lv_at hl 1 rfl) ?_
  refine lv_iload_n S.1 S.2.1 dX10_roll_2 rfl (lv_at hl 2 rfl) ?_
  refine lv_iload_n S.1 S.2.1 dX10_roll_3 rfl (lv_at hl 3 rfl) ?_
  refine lv_iload S.1 S.2.1 dX10_roll_4 (lv_at hl 4 rfl) ?_
  refine z_i2l S (by omega) dX10_roll_6 ?_
  refine z_iconst S dX10_roll_7 ?_
  refine z_miw (z_mV S hK (c_X10_barred l E ad flt ppl kd vl nb fr tl rA rP rk rv rn rf rt can fw fs ss sl sh hd tr k lane i n 1 (by omega) (by omega) (by omega) (by omega) (by omega) (hsh) _) gX10_roll_X10_barred rfl hv_X10_barred ⟨Nat.le_of_ble_eq_true rfl, Nat.le_of_ble_eq_true rfl⟩ (va_recv hK hP (ci := 10) (q0 := 0) rfl rfl) hP hD trivial hl.1 rfl (Nat.le_of_ble_eq_true rfl) ⟨by decide, by decide⟩ rfl dX10_roll_8) hD hS hA (fun r_8 u H locs h_8 hP hD hS => ?_)
  obtain ⟨u8_flt, u8_flt_e⟩ : ∃ z, z = u := ⟨_, rfl⟩
  subst u8_flt_e
  try dsimp only at h_8
  have hP : zP E (mW E ad u8_flt ppl kd vl nb fr tl rA rP rk rv rn rf rt can fw fs ss sl sh hd tr) H := hP
  have hD : va_D A (mW E ad u8_flt ppl kd vl nb fr tl rA rP rk rv rn rf rt can fw fs ss sl sh hd tr) := hD
  have h_8b := zBar_r2 h_8
  refine lv_istore (lv' := [(5, .int (jI (r_8))), (0, .ref (ad 0)), (1, .int (jI (k))), (2, .int (jI (lane))), (3, .int (jI (i))), (4, .int (jI (n)))]) S.1 S.2.1 dX10_roll_11 hl (by decide) rfl (fun ls hl => ?_)
  refine lv_iload S.1 S.2.1 dX10_roll_13 (lv_at hl 0 rfl) ?_
  refine z_if_ge (tgt := 21) S dX10_roll_15 (by decide) (by omega) (fun c_15 => ?_) (fun c_15 => ?_)
  · skip
    have hb0 := h_8.elim (fun q => absurd q.1 (by omega)) (fun q => q.2.1)
    have hbr : (0 ≤ k ∧ k ≤ 3) ∧ 0 ≤ n ∧ 0 ≤ i ∧ i + n ≤ 100 := by have q := hsh k; unfold zBar at hb0; omega
    refine lv_aload_n S.1 S.2.1 dX10_roll_21 rfl (lv_at hl 1 rfl) ?_
    refine z_bipush S (by decide +kernel) dX10_roll_22 ?_
    refine lv_iload_n S.1 S.2.1 dX10_roll_24 rfl (lv_at hl 2 rfl) ?_
    refine z_imul S dX10_roll_25 ?_
    refine lv_iload_n S.1 S.2.1 dX10_roll_26 rfl (lv_at hl 4 rfl) ?_
    refine z_iadd S dX10_roll_27 ?_
    refine lv_iload S.1 S.2.1 dX10_roll_28 (lv_at hl 5 rfl) ?_
    refine z_miw (z_mV S hK (c_X10_readsRoll l E ad u8_flt ppl kd vl nb fr tl rA rP rk rv rn rf rt can fw fs ss sl sh hd tr ((100 * k) + i) n (by omega) (hcr) _) gX10_roll_X10_readsRoll rfl hv_X10_readsRoll ⟨Nat.le_of_ble_eq_true rfl, Nat.le_of_ble_eq_true rfl⟩ (va_recv hK hP (ci := 10) (q0 := 0) rfl rfl) hP hD trivial hl.1 rfl (Nat.le_of_ble_eq_true rfl) ⟨by decide, by decide⟩ rfl dX10_roll_30) hD hS hA (fun r_30 u H locs h_30 hP hD hS => ?_)
    obtain ⟨u30_rA, u30_rP, u30_rk, u30_rv, u30_rn, u30_rf, u30_rt⟩ := u
    try dsimp only at h_30
    have hP : zP E (mW E ad u8_flt ppl kd vl nb fr tl u30_rA u30_rP u30_rk u30_rv u30_rn u30_rf u30_rt can fw fs ss sl sh hd tr) H := hP
    have hD : va_D A (mW E ad u8_flt ppl kd vl nb fr tl u30_rA u30_rP u30_rk u30_rv u30_rn u30_rf u30_rt can fw fs ss sl sh hd tr) := hD
    have h30r : r_30 = 0 ∨ r_30 = 1 := h_30.1.elim (fun q => Or.inr q.1) (fun q => Or.inl q.1)
    refine z_if_ne (tgt := 48) S dX10_roll_33 (by decide) (by omega) (fun c_33 => ?_) (fun c_33 => ?_)
    · skip
      have hrl := h_30.1.elim id (fun q => absurd q.1 (by omega))
      have hrl2 := hrl.2.1
      have hnn := h_30.2 (by omega)
      refine lv_aload_n S.1 S.2.1 dX10_roll_48 rfl (lv_at hl 1 rfl) ?_
      refine lv_aload_n S.1 S.2.1 dX10_roll_49 rfl (lv_at hl 1 rfl) ?_
      refine z_get S hK hP 0 rfl rfl 8 (by decide) i_X10_roll_10 q_X10_roll_2 rfl dX10_roll_50 ?_
      refine z_puti S hK hP hD hS 0 rfl rfl 1 (by decide) i_X10_roll_10 q_X10_roll_3 tyX10 tyX10_ok nmX10 rfl (by decide +kernel) (Nat.le_of_ble_eq_true rfl) dX10_roll_53 (fun H locs hP hD hS => ?_)
      have hP : zP E (mW E ad u8_flt u30_rP kd vl nb fr tl u30_rA u30_rP u30_rk u30_rv u30_rn u30_rf u30_rt can fw fs ss sl sh hd tr) H := hP
      have hD : va_D A (mW E ad u8_flt u30_rP kd vl nb fr tl u30_rA u30_rP u30_rk u30_rv u30_rn u30_rf u30_rt can fw fs ss sl sh hd tr) := hD
      refine z_iconst S dX10_roll_56 ?_
      refine lv_istore (lv' := [(6, .int (jI (0))), (5, .int (jI (r_8))), (0, .ref (ad 0)), (1, .int (jI (k))), (2, .int (jI (lane))), (3, .int (jI (i))), (4, .int (jI (n)))]) S.1 S.2.1 dX10_roll_57 hl (by decide) rfl (fun ls hl => ?_)
      suffices HL_1 : ∀ (n_2 : Nat) (x : Int) (c0 : Int → Int) (c1 : Int → Int) (c2 : Int → Int) (c3 : Int → Int) (c4 : Int → Int), (u30_rP - x).toNat < n_2 → (0 ≤ x ∧ x ≤ u30_rP) → (zRead (fun j => sh (100 * k + i + j)) x c0 c1 c2 c3 c4) → ∀ (H : Heap) (locs : List Loc), zP E (mW E ad u8_flt u30_rP c0 c1 c2 c3 c4 u30_rA u30_rP u30_rk u30_rv u30_rn u30_rf u30_rt can fw fs ss sl sh hd tr) H → va_D A (mW E ad u8_flt u30_rP c0 c1 c2 c3 c4 u30_rA u30_rP u30_rk u30_rv u30_rn u30_rf u30_rt can fw fs ss sl sh hd tr) → va_S A s.heap H locs → ∀ (ls : Array Slot), lv_has ls 7 [(6, .int (jI (x))), (0, .ref (ad 0)), (1, .int (jI (k))), (2, .int (jI (lane))), (3, .int (jI (i))), (4, .int (jI (n)))] → W p l e (zr 6 0 0) s m args below meth c H locs 0 0 Q (F0 m 59 ls []) from
        HL_1 _ 0 kd vl nb fr tl (Nat.lt_succ_self _) (by omega) (zRead_0) _ _ hP hD hS ls (lv_sub hl [0, 2, 3, 4, 5, 6] rfl)
      intro n_2
      induction n_2 with
      | zero => intro x c0 c1 c2 c3 c4 hm hx hcp; exact absurd hm (Nat.not_lt_zero _)
      | succ n_2 ih_3 =>
        intro x c0 c1 c2 c3 c4 hm hx hcp H locs hP hD hS ls hl
        refine lv_iload S.1 S.2.1 dX10_roll_59 (lv_at hl 0 rfl) ?_
        refine lv_aload_n S.1 S.2.1 dX10_roll_61 rfl (lv_at hl 1 rfl) ?_
        refine z_get S hK hP 0 rfl rfl 1 (by decide) i_X10_roll_10 q_X10_roll_3 rfl dX10_roll_62 ?_
        refine z_icmp_ge (tgt := 144) S dX10_roll_65 (by decide) (by omega) (fun c_65 => ?_) (fun c_65 => ?_)
        · skip
          refine lv_aload_n S.1 S.2.1 dX10_roll_144 rfl (lv_at hl 1 rfl) ?_
          refine lv_aload_n S.1 S.2.1 dX10_roll_145 rfl (lv_at hl 1 rfl) ?_
          refine z_get S hK hP 0 rfl rfl 1 (by decide) i_X10_roll_10 q_X10_roll_3 rfl dX10_roll_146 ?_
          refine z_miw (z_mV S hK (c_X10_refused l E ad u8_flt u30_rP c0 c1 c2 c3 c4 u30_rA u30_rP u30_rk u30_rv u30_rn u30_rf u30_rt can fw fs ss sl sh hd tr u30_rP _) gX10_roll_X10_refused rfl hv_X10_refused ⟨Nat.le_of_ble_eq_true rfl, Nat.le_of_ble_eq_true rfl⟩ (va_recv hK hP (ci := 10) (q0 := 0) rfl rfl) hP hD trivial hl.1 rfl (Nat.le_of_ble_eq_true rfl) ⟨by decide, by decide⟩ rfl dX10_roll_149) hD hS hA (fun r_149 u H locs h_149 hP hD hS => ?_)
          rw [h_149]
          have hP : zP E (mW E ad 0 u30_rP c0 c1 c2 c3 c4 u30_rA u30_rP u30_rk u30_rv u30_rn u30_rf u30_rt can fw fs ss sl sh hd tr) H := hP
          have hD : va_D A (mW E ad 0 u30_rP c0 c1 c2 c3 c4 u30_rA u30_rP u30_rk u30_rv u30_rn u30_rf u30_rt can fw fs ss sl sh hd tr) := hD
          exact hQ (u30_rP) ((0, (u30_rP, (c0, (c1, (c2, (c3, (c4, (u30_rA, (u30_rP, (u30_rk, (u30_rv, (u30_rn, (u30_rf, (u30_rt))))))))))))))) _ _ (⟨_, _, zBar_cong hb0 ⟨fun _ => trivial, fun _ => by decide⟩, Or.inr ⟨rfl, rfl, -1, Or.inl ⟨rfl, by omega, by rw [← hnn]; exact hrl.2.2.1⟩, Or.inr ⟨rfl, rfl, show n = 9 * u30_rP - 1 by omega, show 1 ≤ u30_rP ∧ u30_rP ≤ 10 by omega, fun y q1 q2 => hcp y q1 (show y < x by have q3 : y < u30_rP := q2; omega)⟩⟩⟩) hP hD hS _ _ dX10_roll_152
        · skip
          have hrd := hrl.2.2.2 x (by omega) (by omega)
          refine lv_aload_n S.1 S.2.1 dX10_roll_68 rfl (lv_at hl 1 rfl) ?_
          refine z_get S hK hP 0 rfl rfl 2 (by decide) i_X10_roll_10 q_X10_roll_4 rfl dX10_roll_69 ?_
          refine lv_iload S.1 S.2.1 dX10_roll_72 (lv_at hl 0 rfl) ?_
          refine lv_aload_n S.1 S.2.1 dX10_roll_74 rfl (lv_at hl 1 rfl) ?_
          refine z_get S hK hP 0 rfl rfl 9 (by decide) i_X10_roll_10 q_X10_roll_5 rfl dX10_roll_75 ?_
          refine lv_iload S.1 S.2.1 dX10_roll_78 (lv_at hl 0 rfl) ?_
          refine z_iald S hK hP 6 rfl (by omega) dX10_roll_80 ?_
          refine z_iast S hK hP hD hS 1 rfl (by omega) dX10_roll_81 (fun H locs hP hD hS => ?_)
          have hP : zP E (mW E ad u8_flt u30_rP (zu c0 x (u30_rk (x))) c1 c2 c3 c4 u30_rA u30_rP u30_rk u30_rv u30_rn u30_rf u30_rt can fw fs ss sl sh hd tr) H := hP
          have hD : va_D A (mW E ad u8_flt u30_rP (zu c0 x (u30_rk (x))) c1 c2 c3 c4 u30_rA u30_rP u30_rk u30_rv u30_rn u30_rf u30_rt can fw fs ss sl sh hd tr) := hD
          refine lv_aload_n S.1 S.2.1 dX10_roll_82 rfl (lv_at hl 1 rfl) ?_
          refine z_get S hK hP 0 rfl rfl 3 (by decide) i_X10_roll_10 q_X10_roll_6 rfl dX10_roll_83 ?_
          refine lv_iload S.1 S.2.1 dX10_roll_86 (lv_at hl 0 rfl) ?_
          refine lv_aload_n S.1 S.2.1 dX10_roll_88 rfl (lv_at hl 1 rfl) ?_
          refine z_get S hK hP 0 rfl rfl 10 (by decide) i_X10_roll_10 q_X10_roll_7 rfl dX10_roll_89 ?_
          refine lv_iload S.1 S.2.1 dX10_roll_92 (lv_at hl 0 rfl) ?_
          refine z_iald S hK hP 7 rfl (by omega) dX10_roll_94 ?_
          refine z_iast S hK hP hD hS 2 rfl (by omega) dX10_roll_95 (fun H locs hP hD hS => ?_)
          have hP : zP E (mW E ad u8_flt u30_rP (zu c0 x (u30_rk (x))) (zu c1 x (u30_rv (x))) c2 c3 c4 u30_rA u30_rP u30_rk u30_rv u30_rn u30_rf u30_rt can fw fs ss sl sh hd tr) H := hP
          have hD : va_D A (mW E ad u8_flt u30_rP (zu c0 x (u30_rk (x))) (zu c1 x (u30_rv (x))) c2 c3 c4 u30_rA u30_rP u30_rk u30_rv u30_rn u30_rf u30_rt can fw fs ss sl sh hd tr) := hD
          refine lv_aload_n S.1 S.2.1 dX10_roll_96 rfl (lv_at hl 1 rfl) ?_
          refine z_get S hK hP 0 rfl rfl 4 (by decide) i_X10_roll_10 q_X10_roll_8 rfl dX10_roll_97 ?_
          refine lv_iload S.1 S.2.1 dX10_roll_100 (lv_at hl 0 rfl) ?_
          refine lv_aload_n S.1 S.2.1 dX10_roll_102 rfl (lv_at hl 1 rfl) ?_
          refine z_get S hK hP 0 rfl rfl 11 (by decide) i_X10_roll_10 q_X10_roll_9 rfl dX10_roll_103 ?_
          refine lv_iload S.1 S.2.1 dX10_roll_106 (lv_at hl 0 rfl) ?_
          refine z_iald S hK hP 8 rfl (by omega) dX10_roll_108 ?_
          refine z_iast S hK hP hD hS 3 rfl (by omega) dX10_roll_109 (fun H locs hP hD hS => ?_)
          have hP : zP E (mW E ad u8_flt u30_rP (zu c0 x (u30_rk (x))) (zu c1 x (u30_rv (x))) (zu c2 x (u30_rn (x))) c3 c4 u30_rA u30_rP u30_rk u30_rv u30_rn u30_rf u30_rt can fw fs ss sl sh hd tr) H := hP
          have hD : va_D A (mW E ad u8_flt u30_rP (zu c0 x (u30_rk (x))) (zu c1 x (u30_rv (x))) (zu c2 x (u30_rn (x))) c3 c4 u30_rA u30_rP u30_rk u30_rv u30_rn u30_rf u30_rt can fw fs ss sl sh hd tr) := hD
          refine lv_aload_n S.1 S.2.1 dX10_roll_110 rfl (lv_at hl 1 rfl) ?_
          refine z_get S hK hP 0 rfl rfl 5 (by decide) i_X10_roll_10 q_X10_roll_10 rfl dX10_roll_111 ?_
          refine lv_iload S.1 S.2.1 dX10_roll_114 (lv_at hl 0 rfl) ?_
          refine lv_aload_n S.1 S.2.1 dX10_roll_116 rfl (lv_at hl 1 rfl) ?_
          refine z_get S hK hP 0 rfl rfl 12 (by decide) i_X10_roll_10 q_X10_roll_11 rfl dX10_roll_117 ?_
          refine lv_iload S.1 S.2.1 dX10_roll_120 (lv_at hl 0 rfl) ?_
          refine z_iald S hK hP 9 rfl (by omega) dX10_roll_122 ?_
          refine z_iast S hK hP hD hS 4 rfl (by omega) dX10_roll_123 (fun H locs hP hD hS => ?_)
          have hP : zP E (mW E ad u8_flt u30_rP (zu c0 x (u30_rk (x))) (zu c1 x (u30_rv (x))) (zu c2 x (u30_rn (x))) (zu c3 x (u30_rf (x))) c4 u30_rA u30_rP u30_rk u30_rv u30_rn u30_rf u30_rt can fw fs ss sl sh hd tr) H := hP
          have hD : va_D A (mW E ad u8_flt u30_rP (zu c0 x (u30_rk (x))) (zu c1 x (u30_rv (x))) (zu c2 x (u30_rn (x))) (zu c3 x (u30_rf (x))) c4 u30_rA u30_rP u30_rk u30_rv u30_rn u30_rf u30_rt can fw fs ss sl sh hd tr) := hD
          refine lv_aload_n S.1 S.2.1 dX10_roll_124 rfl (lv_at hl 1 rfl) ?_
          refine z_get S hK hP 0 rfl rfl 6 (by decide) i_X10_roll_10 q_X10_roll_12 rfl dX10_roll_125 ?_
          refine lv_iload S.1 S.2.1 dX10_roll_128 (lv_at hl 0 rfl) ?_
          refine lv_aload_n S.1 S.2.1 dX10_roll_130 rfl (lv_at hl 1 rfl) ?_
          refine z_get S hK hP 0 rfl rfl 13 (by decide) i_X10_roll_10 q_X10_roll_13 rfl dX10_roll_131 ?_
          refine lv_iload S.1 S.2.1 dX10_roll_134 (lv_at hl 0 rfl) ?_
          refine z_iald S hK hP 10 rfl (by omega) dX10_roll_136 ?_
          refine z_iast S hK hP hD hS 5 rfl (by omega) dX10_roll_137 (fun H locs hP hD hS => ?_)
          have hP : zP E (mW E ad u8_flt u30_rP (zu c0 x (u30_rk (x))) (zu c1 x (u30_rv (x))) (zu c2 x (u30_rn (x))) (zu c3 x (u30_rf (x))) (zu c4 x (u30_rt (x))) u30_rA u30_rP u30_rk u30_rv u30_rn u30_rf u30_rt can fw fs ss sl sh hd tr) H := hP
          have hD : va_D A (mW E ad u8_flt u30_rP (zu c0 x (u30_rk (x))) (zu c1 x (u30_rv (x))) (zu c2 x (u30_rn (x))) (zu c3 x (u30_rf (x))) (zu c4 x (u30_rt (x))) u30_rA u30_rP u30_rk u30_rv u30_rn u30_rf u30_rt can fw fs ss sl sh hd tr) := hD
          refine z_iinc (lv' := [(6, .int (jI (x + 1))), (0, .ref (ad 0)), (1, .int (jI (k))), (2, .int (jI (lane))), (3, .int (jI (i))), (4, .int (jI (n)))]) S hl (k := 0) rfl (by decide) rfl dX10_roll_138 (fun ls hl => ?_)
          refine z_goto (tgt := 59) S dX10_roll_141 (by decide) ?_
          exact ih_3 (x + 1) (zu c0 x (u30_rk (x))) (zu c1 x (u30_rv (x))) (zu c2 x (u30_rn (x))) (zu c3 x (u30_rf (x))) (zu c4 x (u30_rt (x))) (by omega) (by omega) (zRead_cp hcp hrd) _ _ hP hD hS ls (lv_sub hl [0, 1, 2, 3, 4, 5] rfl)
    · skip
      have hrl := h_30.1.elim (fun q => absurd q.1 (by omega)) id
      have hrl2 := hrl.2.1
      refine lv_aload_n S.1 S.2.1 dX10_roll_36 rfl (lv_at hl 1 rfl) ?_
      refine z_bipush S (by decide +kernel) dX10_roll_37 ?_
      refine lv_aload_n S.1 S.2.1 dX10_roll_39 rfl (lv_at hl 1 rfl) ?_
      refine z_get S hK hP 0 rfl rfl 7 (by decide) i_X10_roll_10 q_X10_roll_1 rfl dX10_roll_40 ?_
      refine z_isub S dX10_roll_43 ?_
      refine z_miw (z_mV S hK (c_X10_refused l E ad u8_flt ppl kd vl nb fr tl u30_rA u30_rP u30_rk u30_rv u30_rn u30_rf u30_rt can fw fs ss sl sh hd tr ((-100) - u30_rA) _) gX10_roll_X10_refused rfl hv_X10_refused ⟨Nat.le_of_ble_eq_true rfl, Nat.le_of_ble_eq_true rfl⟩ (va_recv hK hP (ci := 10) (q0 := 0) rfl rfl) hP hD trivial hl.1 rfl (Nat.le_of_ble_eq_true rfl) ⟨by decide, by decide⟩ rfl dX10_roll_44) hD hS hA (fun r_44 u H locs h_44 hP hD hS => ?_)
      rw [h_44]
      have hP : zP E (mW E ad 0 ppl kd vl nb fr tl u30_rA u30_rP u30_rk u30_rv u30_rn u30_rf u30_rt can fw fs ss sl sh hd tr) H := hP
      have hD : va_D A (mW E ad 0 ppl kd vl nb fr tl u30_rA u30_rP u30_rk u30_rv u30_rn u30_rf u30_rt can fw fs ss sl sh hd tr) := hD
      exact hQ ((((-100) - u30_rA))) ((0, (ppl, (kd, (vl, (nb, (fr, (tl, (u30_rA, (u30_rP, (u30_rk, (u30_rv, (u30_rn, (u30_rf, (u30_rt))))))))))))))) _ _ (⟨_, _, zBar_cong hb0 ⟨fun _ => trivial, fun _ => by decide⟩, Or.inr ⟨rfl, rfl, _, hrl.2.2, Or.inl ⟨hrl.2.1.1, rfl, rfl, rfl, rfl, rfl, rfl, rfl⟩⟩⟩) hP hD hS _ _ dX10_roll_47
  · skip
    refine lv_iload S.1 S.2.1 dX10_roll_18 (lv_at hl 0 rfl) ?_
    exact hQ (r_8) ((u8_flt, (ppl, (kd, (vl, (nb, (fr, (tl, (rA, (rP, (rk, (rv, (rn, (rf, (rt))))))))))))))) _ _ (⟨_, _, zBar_cong (h_8.elim (fun q => q.2) (fun q => absurd q.1 (by omega))) ⟨fun _ => trivial, fun _ => by decide⟩, Or.inl ⟨by omega, rfl, rfl, rfl, rfl, rfl, rfl, rfl, rfl⟩⟩) hP hD hS _ _ dX10_roll_20
