def mW (E : zE) (ad : Nat → Nat) (flt ppl : Int) (kd vl nb fr tl : Int → Int) (rA rP : Int) (rk rv rn rf rt can fw fs ss sl sh hd : Int → Int) (tr : Int) : va_W := [(ad 0, .inr (10, [.int (jI flt), .int (jI ppl), .ref (ad 1), .ref (ad 2), .ref (ad 3), .ref (ad 4), .ref (ad 5), .int (jI rA), .int (jI rP), .ref (ad 6), .ref (ad 7), .ref (ad 8), .ref (ad 9), .ref (ad 10), .ref (ad 11), .ref (ad 12), .ref (ad 13), .ref (ad 14), .ref (ad 15), .ref (ad 16), .ref (ad 17), .int (jI tr)])), (ad 1, eI E 10 kd), (ad 2, eI E 10 vl), (ad 3, eI E 10 nb), (ad 4, eI E 10 fr), (ad 5, eI E 10 tl), (ad 6, eI E 10 rk), (ad 7, eI E 10 rv), (ad 8, eI E 10 rn), (ad 9, eI E 10 rf), (ad 10, eI E 10 rt), (ad 11, eZ E 100 can), (ad 12, eI E 1000 fw), (ad 13, eZ E 1000 fs), (ad 14, eI E 4 ss), (ad 15, eI E 4 sl), (ad 16, eI E 400 sh), (ad 17, eI E 100 hd)]
theorem q_X10_nothing_1 : Cond.constantLong RX10 62 (-9223372036854775808) ∈ wsX10_nothing := List.mem_of_getElem? (i := 1) rfl
theorem hs_X10_in : yX10_in.cls ≠ "java/lang/invoke/MethodHandle" ∧ yX10_in.cls ≠ "java/lang/invoke/VarHandle" ∧ (parseMethodDescriptor yX10_in.desc).map (fun d => d.parameters.length) = some 3 := by decide +kernel
theorem q_X10_isDay_1 : Cond.constantLong RX10 96 (109) ∈ wsX10_isDay := List.mem_of_getElem? (i := 1) rfl
theorem q_X10_isFew_1 : Cond.constantLong RX10 98 (9) ∈ wsX10_isFew := List.mem_of_getElem? (i := 1) rfl
theorem q_X10_noSheet_1 : Cond.constantLong RX10 194 (3) ∈ wsX10_noSheet := List.mem_of_getElem? (i := 1) rfl
theorem i_X10_noOne_10 : ∀ w ∈ u_ws RX10 TX10 22, w ∈ wsX10_noOne := fun w h => List.mem_cons_of_mem _ (List.mem_append_right _ h)
theorem q_X10_noOne_1 : Cond.fieldLink RX10 93 "LivingNumbersModel" "people" "I" ∈ wsX10_noOne := List.mem_of_getElem? (i := 1) rfl
theorem i_X10_refused_10 : ∀ w ∈ u_ws RX10 TX10 22, w ∈ wsX10_refused := fun w h => List.mem_cons_of_mem _ (List.mem_append_right _ h)
theorem q_X10_refused_1 : Cond.fieldLink RX10 64 "LivingNumbersModel" "fault" "I" ∈ wsX10_refused := List.mem_of_getElem? (i := 1) rfl
theorem i_X10_failed_10 : ∀ w ∈ u_ws RX10 TX10 22, w ∈ wsX10_failed := fun w h => List.mem_cons_of_mem _ (List.mem_append_right _ h)
theorem q_X10_failed_1 : Cond.fieldLink RX10 64 "LivingNumbersModel" "fault" "I" ∈ wsX10_failed := List.mem_of_getElem? (i := 1) rfl
set_option maxHeartbeats 1000000 in
set_option maxRecDepth 20000 in
theorem c_X10_in (l : Launch) (E : zE) (v : Int) (lo : Int) (hi : Int) (h1 : -9223372036854775808 ≤ v ∧ v ≤ 9223372036854775807) (h2 : -9223372036854775808 ≤ lo ∧ lo ≤ 9223372036854775807) (h3 : -9223372036854775808 ≤ hi ∧ hi ≤ 9223372036854775807) : zRi l E yX10_in wsX10_in (zr 1 0 0) [.long (jL (v)), .long (jL (lo)), .long (jL (hi))] (fun _ => True) (fun r => (r = 1 ∧ (lo ≤ v ∧ v ≤ hi)) ∨ (r = 0 ∧ ¬ (lo ≤ v ∧ v ≤ hi))) := by
  refine zRz_of (own := RX10) (cc := cX10_in) (maxL := 6) (by decide) rfl (Nat.le_of_ble_eq_true rfl) rfl ?_
  intro p e s m args below meth c Q S hK hP hQ ls hl
  have hl : lv_has ls 6 [(0, .long (jL (v))), (2, .long (jL (lo))), (4, .long (jL (hi)))] := hl
  refine lv_lload_n S.1 S.2.1 dX10_in_0 rfl (lv_at hl 0 rfl) ?_
  refine lv_lload_n S.1 S.2.1 dX10_in_1 rfl (lv_at hl 1 rfl) ?_
  refine z_lcmp S (by omega) dX10_in_2 (fun v_1 hv_2 => ?_)
  refine z_if_lt (tgt := 17) S dX10_in_3 (by decide) (by omega) (fun c_3 => ?_) (fun c_3 => ?_)
  · skip
    refine z_iconst S dX10_in_17 ?_
    exact hQ (0) (by omega) (by omega) _ _ dX10_in_18
  · skip
    refine lv_lload_n S.1 S.2.1 dX10_in_6 rfl (lv_at hl 0 rfl) ?_
    refine lv_lload S.1 S.2.1 dX10_in_7 (lv_at hl 2 rfl) ?_
    refine z_lcmp S (by omega) dX10_in_9 (fun v_3 hv_4 => ?_)
    refine z_if_gt (tgt := 17) S dX10_in_10 (by decide) (by omega) (fun c_10 => ?_) (fun c_10 => ?_)
    · skip
      refine z_iconst S dX10_in_17 ?_
      exact hQ (0) (by omega) (by omega) _ _ dX10_in_18
    · skip
      refine z_iconst S dX10_in_13 ?_
      refine z_goto (tgt := 18) S dX10_in_14 (by decide) ?_
      exact hQ (1) (by omega) (by omega) _ _ dX10_in_18

set_option maxHeartbeats 1000000 in
set_option maxRecDepth 20000 in
theorem c_X10_nothing (l : Launch) (E : zE) : zRl l E yX10_nothing wsX10_nothing (zr 1 0 0) [] (fun _ => True) (fun r => r = -9223372036854775808) := by
  refine zRl_of (own := RX10) (cc := cX10_nothing) (maxL := 0) (by decide) rfl (Nat.le_of_ble_eq_true rfl) rfl ?_
  intro p e s m args below meth c Q S hK hP hQ ls hl
  have hl : lv_has ls 0 [] := hl
  refine z_ldc2 (n := -9223372036854775808) S q_X10_nothing_1 (by decide +kernel) dX10_nothing_0 ?_
  exact hQ (-9223372036854775808) (by omega) _ _ dX10_nothing_3

set_option maxHeartbeats 1000000 in
set_option maxRecDepth 20000 in
theorem c_X10_lesser (l : Launch) (E : zE) (a : Int) (b : Int) (h1 : -2147483648 ≤ a ∧ a ≤ 2147483647) (h2 : -2147483648 ≤ b ∧ b ≤ 2147483647) : zRi l E yX10_lesser wsX10_lesser (zr 1 0 0) [.int (jI (a)), .int (jI (b))] (fun _ => True) (fun r => (r = a ∧ a < b) ∨ (r = b ∧ b ≤ a)) := by
  refine zRi_of (own := RX10) (cc := cX10_lesser) (maxL := 2) (by decide) rfl (Nat.le_of_ble_eq_true rfl) rfl ?_
  intro p e s m args below meth c Q S hK hP hQ ls hl
  have hl : lv_has ls 2 [(0, .int (jI (a))), (1, .int (jI (b)))] := hl
  refine lv_iload_n S.1 S.2.1 dX10_lesser_0 rfl (lv_at hl 0 rfl) ?_
  refine lv_iload_n S.1 S.2.1 dX10_lesser_1 rfl (lv_at hl 1 rfl) ?_
  refine z_icmp_ge (tgt := 9) S dX10_lesser_2 (by decide) (by omega) (fun c_2 => ?_) (fun c_2 => ?_)
  · skip
    refine lv_iload_n S.1 S.2.1 dX10_lesser_9 rfl (lv_at hl 1 rfl) ?_
    exact hQ (b) (by omega) _ _ dX10_lesser_10
  · skip
    refine lv_iload_n S.1 S.2.1 dX10_lesser_5 rfl (lv_at hl 0 rfl) ?_
    refine z_goto (tgt := 10) S dX10_lesser_6 (by decide) ?_
    exact hQ (a) (by omega) _ _ dX10_lesser_10

set_option maxHeartbeats 1000000 in
set_option maxRecDepth 20000 in
theorem c_X10_noVillage (l : Launch) (E : zE) (v : Int) (h1 : -2147483648 ≤ v ∧ v ≤ 2147483647) : zRi l E yX10_noVillage wsX10_noVillage (zr 2 0 0) [.int (jI (v))] (fun _ => True) (fun r => (r = 1 ∧ (v < 0 ∨ 1 < v)) ∨ (r = 0 ∧ ¬ (v < 0 ∨ 1 < v))) := by
  refine zRz_of (own := RX10) (cc := cX10_noVillage) (maxL := 1) (by decide) rfl (Nat.le_of_ble_eq_true rfl) rfl ?_
  intro p e s m args below meth c Q S hK hP hQ ls hl
  have hl : lv_has ls 1 [(0, .int (jI (v)))] := hl
  refine lv_iload_n S.1 S.2.1 dX10_noVillage_0 rfl (lv_at hl 0 rfl) ?_
  refine z_i2l S (by omega) dX10_noVillage_1 ?_
  refine z_lconst (z := 0) S (by decide +kernel) dX10_noVillage_2 ?_
  refine z_lconst (z := 1) S (by decide +kernel) dX10_noVillage_3 ?_
  refine z_ri (z_rS S hK (c_X10_in l E v 0 1 (by omega) (by omega) (by omega)) gX10_noVillage_X10_in rfl hs_X10_in ⟨Nat.le_of_ble_eq_true rfl, Nat.le_of_ble_eq_true rfl⟩ trivial hl.1 rfl (Nat.le_of_ble_eq_true rfl) ⟨by decide, by decide⟩ rfl dX10_noVillage_4) (fun r_4 h_4 => ?_)
  refine z_if_ne (tgt := 14) S dX10_noVillage_7 (by decide) (by omega) (fun c_7 => ?_) (fun c_7 => ?_)
  · skip
    refine z_iconst S dX10_noVillage_14 ?_
    exact hQ (0) (by omega) (by omega) _ _ dX10_noVillage_15
  · skip
    refine z_iconst S dX10_noVillage_10 ?_
    refine z_goto (tgt := 15) S dX10_noVillage_11 (by decide) ?_
    exact hQ (1) (by omega) (by omega) _ _ dX10_noVillage_15

set_option maxHeartbeats 1000000 in
set_option maxRecDepth 20000 in
theorem c_X10_isDay (l : Launch) (E : zE) (d : Int) (h1 : -2147483648 ≤ d ∧ d ≤ 2147483647) : zRi l E yX10_isDay wsX10_isDay (zr 2 0 0) [.int (jI (d))] (fun _ => True) (fun r => (r = 1 ∧ (0 ≤ d ∧ d ≤ 109)) ∨ (r = 0 ∧ ¬ (0 ≤ d ∧ d ≤ 109))) := by
  refine zRz_of (own := RX10) (cc := cX10_isDay) (maxL := 1) (by decide) rfl (Nat.le_of_ble_eq_true rfl) rfl ?_
  intro p e s m args below meth c Q S hK hP hQ ls hl
  have hl : lv_has ls 1 [(0, .int (jI (d)))] := hl
  refine lv_iload_n S.1 S.2.1 dX10_isDay_0 rfl (lv_at hl 0 rfl) ?_
  refine z_i2l S (by omega) dX10_isDay_1 ?_
  refine z_lconst (z := 0) S (by decide +kernel) dX10_isDay_2 ?_
  refine z_ldc2 (n := 109) S q_X10_isDay_1 (by decide +kernel) dX10_isDay_3 ?_
  refine z_ri (z_rS S hK (c_X10_in l E d 0 109 (by omega) (by omega) (by omega)) gX10_isDay_X10_in rfl hs_X10_in ⟨Nat.le_of_ble_eq_true rfl, Nat.le_of_ble_eq_true rfl⟩ trivial hl.1 rfl (Nat.le_of_ble_eq_true rfl) ⟨by decide, by decide⟩ rfl dX10_isDay_6) (fun r_6 h_6 => ?_)
  exact hQ (r_6) (by omega) (by omega) _ _ dX10_isDay_9

set_option maxHeartbeats 1000000 in
set_option maxRecDepth 20000 in
theorem c_X10_isFew (l : Launch) (E : zE) (w : Int) (h1 : -2147483648 ≤ w ∧ w ≤ 2147483647) : zRi l E yX10_isFew wsX10_isFew (zr 2 0 0) [.int (jI (w))] (fun _ => True) (fun r => (r = 1 ∧ (1 ≤ w ∧ w ≤ 9)) ∨ (r = 0 ∧ ¬ (1 ≤ w ∧ w ≤ 9))) := by
  refine zRz_of (own := RX10) (cc := cX10_isFew) (maxL := 1) (by decide) rfl (Nat.le_of_ble_eq_true rfl) rfl ?_
  intro p e s m args below meth c Q S hK hP hQ ls hl
  have hl : lv_has ls 1 [(0, .int (jI (w)))] := hl
  refine lv_iload_n S.1 S.2.1 dX10_isFew_0 rfl (lv_at hl 0 rfl) ?_
  refine z_i2l S (by omega) dX10_isFew_1 ?_
  refine z_lconst (z := 1) S (by decide +kernel) dX10_isFew_2 ?_
  refine z_ldc2 (n := 9) S q_X10_isFew_1 (by decide +kernel) dX10_isFew_3 ?_
  refine z_ri (z_rS S hK (c_X10_in l E w 1 9 (by omega) (by omega) (by omega)) gX10_isFew_X10_in rfl hs_X10_in ⟨Nat.le_of_ble_eq_true rfl, Nat.le_of_ble_eq_true rfl⟩ trivial hl.1 rfl (Nat.le_of_ble_eq_true rfl) ⟨by decide, by decide⟩ rfl dX10_isFew_6) (fun r_6 h_6 => ?_)
  exact hQ (r_6) (by omega) (by omega) _ _ dX10_isFew_9

set_option maxHeartbeats 1000000 in
set_option maxRecDepth 20000 in
theorem c_X10_noSheet (l : Launch) (E : zE) (k : Int) (h1 : -2147483648 ≤ k ∧ k ≤ 2147483647) : zRi l E yX10_noSheet wsX10_noSheet (zr 2 0 0) [.int (jI (k))] (fun _ => True) (fun r => (r = 1 ∧ (k < 0 ∨ 3 < k)) ∨ (r = 0 ∧ ¬ (k < 0 ∨ 3 < k))) := by
  refine zRz_of (own := RX10) (cc := cX10_noSheet) (maxL := 1) (by decide) rfl (Nat.le_of_ble_eq_true rfl) rfl ?_
  intro p e s m args below meth c Q S hK hP hQ ls hl
  have hl : lv_has ls 1 [(0, .int (jI (k)))] := hl
  refine lv_iload_n S.1 S.2.1 dX10_noSheet_0 rfl (lv_at hl 0 rfl) ?_
  refine z_i2l S (by omega) dX10_noSheet_1 ?_
  refine z_lconst (z := 0) S (by decide +kernel) dX10_noSheet_2 ?_
  refine z_ldc2 (n := 3) S q_X10_noSheet_1 (by decide +kernel) dX10_noSheet_3 ?_
  refine z_ri (z_rS S hK (c_X10_in l E k 0 3 (by omega) (by omega) (by omega)) gX10_noSheet_X10_in rfl hs_X10_in ⟨Nat.le_of_ble_eq_true rfl, Nat.le_of_ble_eq_true rfl⟩ trivial hl.1 rfl (Nat.le_of_ble_eq_true rfl) ⟨by decide, by decide⟩ rfl dX10_noSheet_6) (fun r_6 h_6 => ?_)
  refine z_if_ne (tgt := 16) S dX10_noSheet_9 (by decide) (by omega) (fun c_9 => ?_) (fun c_9 => ?_)
  · skip
    refine z_iconst S dX10_noSheet_16 ?_
    exact hQ (0) (by omega) (by omega) _ _ dX10_noSheet_17
  · skip
    refine z_iconst S dX10_noSheet_12 ?_
    refine z_goto (tgt := 17) S dX10_noSheet_13 (by decide) ?_
    exact hQ (1) (by omega) (by omega) _ _ dX10_noSheet_17

set_option maxHeartbeats 1000000 in
set_option maxRecDepth 20000 in
theorem c_X10_isBeyond (l : Launch) (E : zE) (i : Int) (n : Int) (all : Int) (h1 : -2147483648 ≤ i ∧ i ≤ 2147483647) (h2 : -2147483648 ≤ n ∧ n ≤ 2147483647) (h3 : -2147483648 ≤ all ∧ all ≤ 2147483647) : zRi l E yX10_isBeyond wsX10_isBeyond (zr 1 0 0) [.int (jI (i)), .long (jL (n)), .int (jI (all))] (fun _ => True) (fun r => (r = 1 ∧ (i < 0 ∨ n < 0 ∨ all < i + n)) ∨ (r = 0 ∧ ¬ (i < 0 ∨ n < 0 ∨ all < i + n))) := by
  refine zRz_of (own := RX10) (cc := cX10_isBeyond) (maxL := 4) (by decide) rfl (Nat.le_of_ble_eq_true rfl) rfl ?_
  intro p e s m args below meth c Q S hK hP hQ ls hl
  have hl : lv_has ls 4 [(0, .int (jI (i))), (1, .long (jL (n))), (3, .int (jI (all)))] := hl
  refine lv_iload_n S.1 S.2.1 dX10_isBeyond_0 rfl (lv_at hl 0 rfl) ?_
  refine z_if_lt (tgt := 20) S dX10_isBeyond_1 (by decide) (by omega) (fun c_1 => ?_) (fun c_1 => ?_)
  · skip
    refine z_iconst S dX10_isBeyond_20 ?_
    refine z_goto (tgt := 25) S dX10_isBeyond_21 (by decide) ?_
    exact hQ (1) (by omega) (by omega) _ _ dX10_isBeyond_25
  · skip
    refine lv_lload_n S.1 S.2.1 dX10_isBeyond_4 rfl (lv_at hl 1 rfl) ?_
    refine z_lconst (z := 0) S (by decide +kernel) dX10_isBeyond_5 ?_
    refine z_lcmp S (by omega) dX10_isBeyond_6 (fun v_1 hv_2 => ?_)
    refine z_if_lt (tgt := 20) S dX10_isBeyond_7 (by decide) (by omega) (fun c_7 => ?_) (fun c_7 => ?_)
    · skip
      refine z_iconst S dX10_isBeyond_20 ?_
      refine z_goto (tgt := 25) S dX10_isBeyond_21 (by decide) ?_
      exact hQ (1) (by omega) (by omega) _ _ dX10_isBeyond_25
    · skip
      refine lv_iload_n S.1 S.2.1 dX10_isBeyond_10 rfl (lv_at hl 0 rfl) ?_
      refine z_i2l S (by omega) dX10_isBeyond_11 ?_
      refine lv_lload_n S.1 S.2.1 dX10_isBeyond_12 rfl (lv_at hl 1 rfl) ?_
      refine z_ladd S dX10_isBeyond_13 ?_
      refine lv_iload_n S.1 S.2.1 dX10_isBeyond_14 rfl (lv_at hl 2 rfl) ?_
      refine z_i2l S (by omega) dX10_isBeyond_15 ?_
      refine z_lcmp S (by omega) dX10_isBeyond_16 (fun v_3 hv_4 => ?_)
      refine z_if_le (tgt := 24) S dX10_isBeyond_17 (by decide) (by omega) (fun c_17 => ?_) (fun c_17 => ?_)
      · skip
        refine z_iconst S dX10_isBeyond_24 ?_
        exact hQ (0) (by omega) (by omega) _ _ dX10_isBeyond_25
      · skip
        refine z_iconst S dX10_isBeyond_20 ?_
        refine z_goto (tgt := 25) S dX10_isBeyond_21 (by decide) ?_
        exact hQ (1) (by omega) (by omega) _ _ dX10_isBeyond_25

set_option maxHeartbeats 1000000 in
set_option maxRecDepth 20000 in
theorem c_X10_noOne (l : Launch) (E : zE) (ad : Nat → Nat) (flt ppl : Int) (kd vl nb fr tl : Int → Int) (rA rP : Int) (rk rv rn rf rt can fw fs ss sl sh hd : Int → Int) (tr : Int) (x : Int) (h1 : -2147483648 ≤ x ∧ x ≤ 2147483647) (hp : 0 ≤ ppl ∧ ppl ≤ 10) : zRi l E yX10_noOne wsX10_noOne (zr 2 0 0) [.ref (ad 0), .int (jI (x))] (fun H => zP E (mW E ad flt ppl kd vl nb fr tl rA rP rk rv rn rf rt can fw fs ss sl sh hd tr) H) (fun r => (r = 1 ∧ (x < 0 ∨ ppl ≤ x)) ∨ (r = 0 ∧ ¬ (x < 0 ∨ ppl ≤ x))) := by
  refine zRz_of (own := RX10) (cc := cX10_noOne) (maxL := 2) (by decide) rfl (Nat.le_of_ble_eq_true rfl) rfl ?_
  intro p e s m args below meth c Q S hK hP hQ ls hl
  have hl : lv_has ls 2 [(0, .ref (ad 0)), (1, .int (jI (x)))] := hl
  refine lv_iload_n S.1 S.2.1 dX10_noOne_0 rfl (lv_at hl 1 rfl) ?_
  refine z_i2l S (by omega) dX10_noOne_1 ?_
  refine z_lconst (z := 0) S (by decide +kernel) dX10_noOne_2 ?_
  refine lv_aload_n S.1 S.2.1 dX10_noOne_3 rfl (lv_at hl 0 rfl) ?_
  refine z_get S hK hP 0 rfl rfl 1 (by decide) i_X10_noOne_10 q_X10_noOne_1 rfl dX10_noOne_4 ?_
  refine z_i2l S (by omega) dX10_noOne_7 ?_
  refine z_lconst (z := 1) S (by decide +kernel) dX10_noOne_8 ?_
  refine z_lsub S dX10_noOne_9 ?_
  refine z_ri (z_rS S hK (c_X10_in l E x 0 (ppl - 1) (by omega) (by omega) (by omega)) gX10_noOne_X10_in rfl hs_X10_in ⟨Nat.le_of_ble_eq_true rfl, Nat.le_of_ble_eq_true rfl⟩ trivial hl.1 rfl (Nat.le_of_ble_eq_true rfl) ⟨by decide, by decide⟩ rfl dX10_noOne_10) (fun r_10 h_10 => ?_)
  refine z_if_ne (tgt := 20) S dX10_noOne_13 (by decide) (by omega) (fun c_13 => ?_) (fun c_13 => ?_)
  · skip
    refine z_iconst S dX10_noOne_20 ?_
    exact hQ (0) (by omega) (by omega) _ _ dX10_noOne_21
  · skip
    refine z_iconst S dX10_noOne_16 ?_
    refine z_goto (tgt := 21) S dX10_noOne_17 (by decide) ?_
    exact hQ (1) (by omega) (by omega) _ _ dX10_noOne_21

set_option maxHeartbeats 1000000 in
set_option maxRecDepth 20000 in
theorem c_X10_refused (l : Launch) (E : zE) (ad : Nat → Nat) (flt ppl : Int) (kd vl nb fr tl : Int → Int) (rA rP : Int) (rk rv rn rf rt can fw fs ss sl sh hd : Int → Int) (tr : Int) (code : Int) : zMi l E yX10_refused wsX10_refused (zr 1 0 0) [.ref (ad 0), .int (jI (code))] (mW E ad flt ppl kd vl nb fr tl rA rP rk rv rn rf rt can fw fs ss sl sh hd tr) (fun _ => True) (fun r (u : Unit) => r = code) (fun (u : Unit) => mW E ad 0 ppl kd vl nb fr tl rA rP rk rv rn rf rt can fw fs ss sl sh hd tr) 0 0 := by
  refine zMi_of (own := RX10) (cc := cX10_refused) (maxL := 2) (by decide) rfl (Nat.le_of_ble_eq_true rfl) rfl ?_
  intro p e s m args below meth c Q A S hK hA hS hP hD hAe hG hQ ls hl
  have hl : lv_has ls 2 [(0, .ref (ad 0)), (1, .int (jI (code)))] := hl
  refine lv_aload_n S.1 S.2.1 dX10_refused_0 rfl (lv_at hl 0 rfl) ?_
  refine z_iconst S dX10_refused_1 ?_
  refine z_puti S hK hP hD hS 0 rfl rfl 0 (by decide) i_X10_refused_10 q_X10_refused_1 tyX10 tyX10_ok nmX10 rfl (by decide +kernel) (Nat.le_of_ble_eq_true rfl) dX10_refused_2 (fun H locs hP hD hS => ?_)
  have hP : zP E (mW E ad 0 ppl kd vl nb fr tl rA rP rk rv rn rf rt can fw fs ss sl sh hd tr) H := hP
  have hD : va_D A (mW E ad 0 ppl kd vl nb fr tl rA rP rk rv rn rf rt can fw fs ss sl sh hd tr) := hD
  refine lv_iload_n S.1 S.2.1 dX10_refused_5 rfl (lv_at hl 1 rfl) ?_
  exact hQ (code) (()) _ _ (by omega) hP hD hS _ _ dX10_refused_6

set_option maxHeartbeats 1000000 in
set_option maxRecDepth 20000 in
theorem c_X10_failed (l : Launch) (E : zE) (ad : Nat → Nat) (flt ppl : Int) (kd vl nb fr tl : Int → Int) (rA rP : Int) (rk rv rn rf rt can fw fs ss sl sh hd : Int → Int) (tr : Int) (f : Int) : zMi l E yX10_failed wsX10_failed (zr 1 0 0) [.ref (ad 0), .int (jI (f))] (mW E ad flt ppl kd vl nb fr tl rA rP rk rv rn rf rt can fw fs ss sl sh hd tr) (fun _ => True) (fun r (u : Unit) => r = -10 - f) (fun (u : Unit) => mW E ad f ppl kd vl nb fr tl rA rP rk rv rn rf rt can fw fs ss sl sh hd tr) 0 0 := by
  refine zMi_of (own := RX10) (cc := cX10_failed) (maxL := 2) (by decide) rfl (Nat.le_of_ble_eq_true rfl) rfl ?_
  intro p e s m args below meth c Q A S hK hA hS hP hD hAe hG hQ ls hl
  have hl : lv_has ls 2 [(0, .ref (ad 0)), (1, .int (jI (f)))] := hl
  refine lv_aload_n S.1 S.2.1 dX10_failed_0 rfl (lv_at hl 0 rfl) ?_
  refine lv_iload_n S.1 S.2.1 dX10_failed_1 rfl (lv_at hl 1 rfl) ?_
  refine z_puti S hK hP hD hS 0 rfl rfl 0 (by decide) i_X10_failed_10 q_X10_failed_1 tyX10 tyX10_ok nmX10 rfl (by decide +kernel) (Nat.le_of_ble_eq_true rfl) dX10_failed_2 (fun H locs hP hD hS => ?_)
  have hP : zP E (mW E ad f ppl kd vl nb fr tl rA rP rk rv rn rf rt can fw fs ss sl sh hd tr) H := hP
  have hD : va_D A (mW E ad f ppl kd vl nb fr tl rA rP rk rv rn rf rt can fw fs ss sl sh hd tr) := hD
  refine z_bipush S (by decide +kernel) dX10_failed_5 ?_
  refine lv_iload_n S.1 S.2.1 dX10_failed_7 rfl (lv_at hl 1 rfl) ?_
  refine z_isub S dX10_failed_8 ?_
  exact hQ ((-10) - f) (()) _ _ (by omega) hP hD hS _ _ dX10_failed_9
