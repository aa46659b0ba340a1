theorem i_X10_isSaidBy_10 : ∀ w ∈ u_ws RX10 TX10 22, w ∈ wsX10_isSaidBy := fun w h => List.mem_cons_of_mem _ (List.mem_append_right _ h)
theorem q_X10_isSaidBy_1 : Cond.fieldLink RX10 93 "LivingNumbersModel" "people" "I" ∈ wsX10_isSaidBy := List.mem_of_getElem? (i := 1) rfl
theorem q_X10_isSaidBy_4 : Cond.fieldLink RX10 44 "LivingNumbersModel" "fewest" "[I" ∈ wsX10_isSaidBy := List.mem_of_getElem? (i := 4) rfl
theorem q_X10_isSaidBy_2 : Cond.fieldLink RX10 40 "LivingNumbersModel" "can" "[Z" ∈ wsX10_isSaidBy := List.mem_of_getElem? (i := 2) rfl
theorem q_X10_isSaidBy_3 : Cond.fieldLink RX10 16 "LivingNumbersModel" "numberOf" "[I" ∈ wsX10_isSaidBy := List.mem_of_getElem? (i := 3) rfl
theorem i_X10_setOf_10 : ∀ w ∈ u_ws RX10 TX10 22, w ∈ wsX10_setOf := fun w h => List.mem_cons_of_mem _ (List.mem_append_right _ h)
theorem q_X10_setOf_1 : Cond.fieldLink RX10 93 "LivingNumbersModel" "people" "I" ∈ wsX10_setOf := List.mem_of_getElem? (i := 1) rfl
theorem q_X10_back_1 : Cond.constantLong RX10 178 (-1) ∈ wsX10_back := List.mem_of_getElem? (i := 1) rfl
theorem q_X10_back_2 : Cond.constantLong RX10 80 (2) ∈ wsX10_back := List.mem_of_getElem? (i := 2) rfl
theorem q_X10_back_3 : Cond.constantLong RX10 167 (999) ∈ wsX10_back := List.mem_of_getElem? (i := 3) rfl
theorem hs_X10_bits : yX10_bits.cls ≠ "java/lang/invoke/MethodHandle" ∧ yX10_bits.cls ≠ "java/lang/invoke/VarHandle" ∧ (parseMethodDescriptor yX10_bits.desc).map (fun d => d.parameters.length) = some 1 := by decide +kernel
theorem hv_X10_setOf : yX10_setOf.cls = RX10 ∧ yX10_setOf.cls ≠ "java/lang/invoke/MethodHandle" ∧ yX10_setOf.cls ≠ "java/lang/invoke/VarHandle" ∧ (parseMethodDescriptor yX10_setOf.desc).map (fun d => d.parameters.length) = some 3 := by decide +kernel
theorem hv_X10_isSaidBy : yX10_isSaidBy.cls = RX10 ∧ yX10_isSaidBy.cls ≠ "java/lang/invoke/MethodHandle" ∧ yX10_isSaidBy.cls ≠ "java/lang/invoke/VarHandle" ∧ (parseMethodDescriptor yX10_isSaidBy.desc).map (fun d => d.parameters.length) = some 5 := by decide +kernel
theorem i_X10_child_10 : ∀ w ∈ u_ws RX10 TX10 22, w ∈ wsX10_child := fun w h => List.mem_cons_of_mem _ (List.mem_append_right _ h)
theorem q_X10_child_3 : Cond.fieldLink RX10 40 "LivingNumbersModel" "can" "[Z" ∈ wsX10_child := List.mem_of_getElem? (i := 3) rfl
theorem q_X10_child_4 : Cond.fieldLink RX10 44 "LivingNumbersModel" "fewest" "[I" ∈ wsX10_child := List.mem_of_getElem? (i := 4) rfl
theorem q_X10_child_1 : Cond.fieldLink RX10 56 "LivingNumbersModel" "sheet" "[I" ∈ wsX10_child := List.mem_of_getElem? (i := 1) rfl
theorem q_X10_child_2 : Cond.constantLong RX10 167 (999) ∈ wsX10_child := List.mem_of_getElem? (i := 2) rfl
set_option maxHeartbeats 1000000 in
set_option maxRecDepth 20000 in
theorem c_X10_isSaidBy (l : Launch) (E : zE) (ad : Nat → Nat) (flt ppl : Int) (kd vl nb fr tl : Int → Int) (rA rP : Int) (rk rv rn rf rt can fw fs ss sl sh hd : Int → Int) (tr : Int) (q : Int) (v : Int) (d : Int) (w : Int) (set : Int) (h_v : -2147483648 ≤ v ∧ v ≤ 2147483647) (h_d : -2147483648 ≤ d ∧ d ≤ 2147483647) (hq : 0 ≤ q ∧ q ≤ 999) (hw : 1 ≤ w ∧ w ≤ 9) (hset : 0 ≤ set ∧ set < 1024) (hp : 0 ≤ ppl ∧ ppl ≤ 10) (hpe : zPeo ppl kd vl nb fr tl) : zMi l E yX10_isSaidBy wsX10_isSaidBy (zr 3 0 0) [.ref (ad 0), .int (jI (q)), .int (jI (v)), .int (jI (d)), .int (jI (w)), .int (jI (set))] (mW E ad flt ppl kd vl nb fr tl rA rP rk rv rn rf rt can fw fs ss sl sh hd tr) (fun _ => True) (fun r (u : (Int → Int) × (Int → Int)) => (r = 1 ∧ (zIn (zAddS (zCan nb (fun x => zlive kd vl fr tl x v d) ppl) nb ppl set) w q)) ∨ (r = 0 ∧ ¬ (zIn (zAddS (zCan nb (fun x => zlive kd vl fr tl x v d) ppl) nb ppl set) w q))) (fun (u : (Int → Int) × (Int → Int)) => mW E ad flt ppl kd vl nb fr tl rA rP rk rv rn rf rt u.1 u.2 fs ss sl sh hd tr) 0 0 := by
  refine zMz_of (own := RX10) (cc := cX10_isSaidBy) (maxL := 7) (by decide) rfl (Nat.le_of_ble_eq_true rfl) rfl ?_
  intro p e s m args below meth c Q A S hK hA hS hP hD hAe hG hQ ls hl
  have hl : lv_has ls 7 [(0, .ref (ad 0)), (1, .int (jI (q))), (2, .int (jI (v))), (3, .int (jI (d))), (4, .int (jI (w))), (5, .int (jI (set)))] := hl
  refine lv_aload_n S.1 S.2.1 dX10_isSaidBy_0 rfl (lv_at hl 0 rfl) ?_
  refine lv_iload_n S.1 S.2.1 dX10_isSaidBy_1 rfl (lv_at hl 2 rfl) ?_
  refine lv_iload_n S.1 S.2.1 dX10_isSaidBy_2 rfl (lv_at hl 3 rfl) ?_
  refine z_bipush S (by decide +kernel) dX10_isSaidBy_3 ?_
  refine z_mvw (z_mV S hK (c_X10_layCan l E ad flt ppl kd vl nb fr tl rA rP rk rv rn rf rt can fw fs ss sl sh hd tr v d (-9) (by omega) (by omega) (by omega) (by omega) (hpe) _) gX10_isSaidBy_X10_layCan rfl hv_X10_layCan ⟨Nat.le_of_ble_eq_true rfl, Nat.le_of_ble_eq_true rfl⟩ (va_recv hK hP (ci := 10) (q0 := 0) rfl rfl) hP hD trivial hl.1 rfl (Nat.le_of_ble_eq_true rfl) ⟨by decide, by decide⟩ rfl dX10_isSaidBy_5) hD hS hA (fun u H locs h_5 hP hD hS => ?_)
  obtain ⟨u5_can, u5_can_e⟩ : ∃ z, z = u := ⟨_, rfl⟩
  subst u5_can_e
  try dsimp only at h_5
  have hP : zP E (mW E ad flt ppl kd vl nb fr tl rA rP rk rv rn rf rt u5_can fw fs ss sl sh hd tr) H := hP
  have hD : va_D A (mW E ad flt ppl kd vl nb fr tl rA rP rk rv rn rf rt u5_can fw fs ss sl sh hd tr) := hD
  refine z_iconst S dX10_isSaidBy_8 ?_
  refine lv_istore (lv' := [(6, .int (jI (0))), (0, .ref (ad 0)), (1, .int (jI (q))), (2, .int (jI (v))), (3, .int (jI (d))), (4, .int (jI (w))), (5, .int (jI (set)))]) S.1 S.2.1 dX10_isSaidBy_9 hl (by decide) rfl (fun ls hl => ?_)
  suffices HL_1 : ∀ (n_2 : Nat) (x : Int) (g : Int → Int), (ppl - x).toNat < n_2 → (0 ≤ x ∧ x ≤ ppl) → (zSet g (zAddS (zCan nb (fun x => zlive kd vl fr tl x v d) ppl) nb x set)) → ∀ (H : Heap) (locs : List Loc), zP E (mW E ad flt ppl kd vl nb fr tl rA rP rk rv rn rf rt g fw fs ss sl sh hd tr) H → va_D A (mW E ad flt ppl kd vl nb fr tl rA rP rk rv rn rf rt g fw fs ss sl sh hd tr) → va_S A s.heap H locs → ∀ (ls : Array Slot), lv_has ls 7 [(6, .int (jI (x))), (0, .ref (ad 0)), (1, .int (jI (q))), (2, .int (jI (v))), (3, .int (jI (d))), (4, .int (jI (w))), (5, .int (jI (set)))] → W p l e (zr 3 0 0) s m args below meth c H locs 0 0 Q (F0 m 11 ls []) from
    HL_1 _ 0 u5_can (Nat.lt_succ_self _) (by omega) (zAddS_0 (zSet_cong h_5 (fun a _ _ => zCanW_9))) _ _ hP hD hS ls (lv_sub hl [0, 1, 2, 3, 4, 5, 6] rfl)
  intro n_2
  induction n_2 with
  | zero => intro x g hm hx hs; exact absurd hm (Nat.not_lt_zero _)
  | succ n_2 ih_3 =>
    intro x g hm hx hs H locs hP hD hS ls hl
    refine lv_iload S.1 S.2.1 dX10_isSaidBy_11 (lv_at hl 0 rfl) ?_
    refine lv_aload_n S.1 S.2.1 dX10_isSaidBy_13 rfl (lv_at hl 1 rfl) ?_
    refine z_get S hK hP 0 rfl rfl 1 (by decide) i_X10_isSaidBy_10 q_X10_isSaidBy_1 rfl dX10_isSaidBy_14 ?_
    refine z_icmp_ge (tgt := 50) S dX10_isSaidBy_17 (by decide) (by omega) (fun c_17 => ?_) (fun c_17 => ?_)
    · skip
      refine lv_aload_n S.1 S.2.1 dX10_isSaidBy_50 rfl (lv_at hl 1 rfl) ?_
      refine lv_iload_n S.1 S.2.1 dX10_isSaidBy_51 rfl (lv_at hl 2 rfl) ?_
      refine z_mvw (z_mV S hK (c_X10_layFewest l E ad flt ppl kd vl nb fr tl rA rP rk rv rn rf rt g fw fs ss sl sh hd tr q (by omega) (fun a q1 q2 => by rcases zSet_01 hs ⟨q1, q2⟩ with h | h <;> omega) _) gX10_isSaidBy_X10_layFewest rfl hv_X10_layFewest ⟨Nat.le_of_ble_eq_true rfl, Nat.le_of_ble_eq_true rfl⟩ (va_recv hK hP (ci := 10) (q0 := 0) rfl rfl) hP hD trivial hl.1 rfl (Nat.le_of_ble_eq_true rfl) ⟨by decide, by decide⟩ rfl dX10_isSaidBy_52) hD hS hA (fun u H locs h_52 hP hD hS => ?_)
      obtain ⟨u52_fw, u52_fw_e⟩ : ∃ z, z = u := ⟨_, rfl⟩
      subst u52_fw_e
      try dsimp only at h_52
      have hP : zP E (mW E ad flt ppl kd vl nb fr tl rA rP rk rv rn rf rt g u52_fw fs ss sl sh hd tr) H := hP
      have hD : va_D A (mW E ad flt ppl kd vl nb fr tl rA rP rk rv rn rf rt g u52_fw fs ss sl sh hd tr) := hD
      have hT : zTab (zAddS (zCan nb (fun x => zlive kd vl fr tl x v d) ppl) nb ppl set) u52_fw q 5000 := zTab_cong (zSet_iff (by have e : x = ppl := (by omega); subst e; exact hs)) h_52
      have hI := zTab_le hT (q := q) (w := w) (by omega) (by omega) (by omega)
      have hfr := zTab_rng hT (q := q) (by omega) (by omega)
      refine lv_aload_n S.1 S.2.1 dX10_isSaidBy_55 rfl (lv_at hl 1 rfl) ?_
      refine z_get S hK hP 0 rfl rfl 15 (by decide) i_X10_isSaidBy_10 q_X10_isSaidBy_4 rfl dX10_isSaidBy_56 ?_
      refine lv_iload_n S.1 S.2.1 dX10_isSaidBy_59 rfl (lv_at hl 2 rfl) ?_
      refine z_iald S hK hP 12 rfl (by omega) dX10_isSaidBy_60 ?_
      refine lv_iload S.1 S.2.1 dX10_isSaidBy_61 (lv_at hl 5 rfl) ?_
      refine z_icmp_gt (tgt := 70) S dX10_isSaidBy_63 (by decide) (by omega) (fun c_63 => ?_) (fun c_63 => ?_)
      · skip
        refine z_iconst S dX10_isSaidBy_70 ?_
        exact hQ (0) ((g, u52_fw)) _ _ (by omega) (by first | exact Or.inl ⟨rfl, hI.mp (by omega)⟩ | exact Or.inr ⟨rfl, fun z => absurd (hI.mpr z) (by omega)⟩) hP hD hS _ _ dX10_isSaidBy_71
      · skip
        refine z_iconst S dX10_isSaidBy_66 ?_
        refine z_goto (tgt := 71) S dX10_isSaidBy_67 (by decide) ?_
        exact hQ (1) ((g, u52_fw)) _ _ (by omega) (by first | exact Or.inl ⟨rfl, hI.mp (by omega)⟩ | exact Or.inr ⟨rfl, fun z => absurd (hI.mpr z) (by omega)⟩) hP hD hS _ _ dX10_isSaidBy_71
    · skip
      have hx2 := hpe x (by omega) (by omega)
      refine lv_iload S.1 S.2.1 dX10_isSaidBy_20 (lv_at hl 6 rfl) ?_
      refine lv_iload S.1 S.2.1 dX10_isSaidBy_22 (lv_at hl 0 rfl) ?_
      refine z_shrp S (by omega) dX10_isSaidBy_24 ?_
      refine z_iconst S dX10_isSaidBy_25 ?_
      refine z_and1 S (by have q1 := Int.ediv_nonneg (show 0 ≤ set by omega) (show 0 ≤ zp x by have := zp_pos x; omega); have q2 := Int.ediv_le_self (a := set) (zp x) (by omega); omega) dX10_isSaidBy_26 ?_
      refine z_iconst S dX10_isSaidBy_27 ?_
      refine z_icmp_ne (tgt := 44) S dX10_isSaidBy_28 (by decide) (by omega) (fun c_28 => ?_) (fun c_28 => ?_)
      · skip
        refine z_iinc (lv' := [(6, .int (jI (x + 1))), (0, .ref (ad 0)), (1, .int (jI (q))), (2, .int (jI (v))), (3, .int (jI (d))), (4, .int (jI (w))), (5, .int (jI (set)))]) S hl (k := 0) rfl (by decide) rfl dX10_isSaidBy_44 (fun ls hl => ?_)
        refine z_goto (tgt := 11) S dX10_isSaidBy_47 (by decide) ?_
        exact ih_3 (x + 1) g (by omega) (by omega) (by first | exact zAddS_no hs c_28 | exact zAddS_yes hs c_28 (by omega)) _ _ hP hD hS ls (lv_sub hl [0, 1, 2, 3, 4, 5, 6] rfl)
      · skip
        refine lv_aload_n S.1 S.2.1 dX10_isSaidBy_31 rfl (lv_at hl 1 rfl) ?_
        refine z_get S hK hP 0 rfl rfl 14 (by decide) i_X10_isSaidBy_10 q_X10_isSaidBy_2 rfl dX10_isSaidBy_32 ?_
        refine lv_aload_n S.1 S.2.1 dX10_isSaidBy_35 rfl (lv_at hl 1 rfl) ?_
        refine z_get S hK hP 0 rfl rfl 4 (by decide) i_X10_isSaidBy_10 q_X10_isSaidBy_3 rfl dX10_isSaidBy_36 ?_
        refine lv_iload S.1 S.2.1 dX10_isSaidBy_39 (lv_at hl 0 rfl) ?_
        refine z_iald S hK hP 3 rfl (by omega) dX10_isSaidBy_41 ?_
        refine z_iconst S dX10_isSaidBy_42 ?_
        refine z_zast S hK hP hD hS 11 rfl (by omega) (by omega) dX10_isSaidBy_43 (fun H locs hP hD hS => ?_)
        have hP : zP E (mW E ad flt ppl kd vl nb fr tl rA rP rk rv rn rf rt (zu g (nb (x)) 1) fw fs ss sl sh hd tr) H := hP
        have hD : va_D A (mW E ad flt ppl kd vl nb fr tl rA rP rk rv rn rf rt (zu g (nb (x)) 1) fw fs ss sl sh hd tr) := hD
        refine z_iinc (lv' := [(6, .int (jI (x + 1))), (0, .ref (ad 0)), (1, .int (jI (q))), (2, .int (jI (v))), (3, .int (jI (d))), (4, .int (jI (w))), (5, .int (jI (set)))]) S hl (k := 0) rfl (by decide) rfl dX10_isSaidBy_44 (fun ls hl => ?_)
        refine z_goto (tgt := 11) S dX10_isSaidBy_47 (by decide) ?_
        exact ih_3 (x + 1) (zu g (nb (x)) 1) (by omega) (by omega) (by first | exact zAddS_no hs c_28 | exact zAddS_yes hs c_28 (by omega)) _ _ hP hD hS ls (lv_sub hl [0, 1, 2, 3, 4, 5, 6] rfl)

set_option maxHeartbeats 1000000 in
set_option maxRecDepth 20000 in
theorem c_X10_setOf (l : Launch) (E : zE) (ad : Nat → Nat) (flt ppl : Int) (kd vl nb fr tl : Int → Int) (rA rP : Int) (rk rv rn rf rt can fw fs ss sl sh hd : Int → Int) (tr : Int) (row : Int) (v : Int) (d : Int) (h_v : -2147483648 ≤ v ∧ v ≤ 2147483647) (h_d : -2147483648 ≤ d ∧ d ≤ 2147483647) (hrow : 0 ≤ row ∧ row < 1331) (hp : 0 ≤ ppl ∧ ppl ≤ 10) (hpe : zPeo ppl kd vl nb fr tl) : zRi l E yX10_setOf wsX10_setOf (zr 2 0 0) [.ref (ad 0), .int (jI (row)), .int (jI (v)), .int (jI (d))] (fun H => zP E (mW E ad flt ppl kd vl nb fr tl rA rP rk rv rn rf rt can fw fs ss sl sh hd tr) H) (fun r => (zVal ppl (fun x => zlive kd vl fr tl x v d) row ∧ r = zset row) ∨ (¬ zVal ppl (fun x => zlive kd vl fr tl x v d) row ∧ r = -9)) := by
  refine zRi_of (own := RX10) (cc := cX10_setOf) (maxL := 10) (by decide) rfl (Nat.le_of_ble_eq_true rfl) rfl ?_
  intro p e s m args below meth c Q S hK hP hQ ls hl
  have hl : lv_has ls 10 [(0, .ref (ad 0)), (1, .int (jI (row))), (2, .int (jI (v))), (3, .int (jI (d)))] := hl
  have ra : 0 ≤ zda row ∧ zda row ≤ 10 := by unfold zda; omega
  have rb : 0 ≤ zdb row ∧ zdb row ≤ 10 := by unfold zdb; omega
  have rc : 0 ≤ zdc row ∧ zdc row ≤ 10 := by unfold zdc; omega
  have wa := zp_le (x := zda row)
  have wb := zp_le (x := zdb row)
  have wc := zp_le (x := zdc row)
  refine z_iconst S dX10_setOf_0 ?_
  refine lv_istore (lv' := [(4, .int (jI (0))), (0, .ref (ad 0)), (1, .int (jI (row))), (2, .int (jI (v))), (3, .int (jI (d)))]) S.1 S.2.1 dX10_setOf_1 hl (by decide) rfl (fun ls hl => ?_)
  refine z_bipush S (by decide +kernel) dX10_setOf_3 ?_
  refine lv_istore (lv' := [(5, .int (jI (-9))), (4, .int (jI (0))), (0, .ref (ad 0)), (1, .int (jI (row))), (2, .int (jI (v))), (3, .int (jI (d)))]) S.1 S.2.1 dX10_setOf_5 hl (by decide) rfl (fun ls hl => ?_)
  refine z_iconst S dX10_setOf_7 ?_
  refine lv_istore (lv' := [(6, .int (jI (0))), (5, .int (jI (-9))), (4, .int (jI (0))), (0, .ref (ad 0)), (1, .int (jI (row))), (2, .int (jI (v))), (3, .int (jI (d)))]) S.1 S.2.1 dX10_setOf_8 hl (by decide) rfl (fun ls hl => ?_)
  refine lv_iload_n S.1 S.2.1 dX10_setOf_10 rfl (lv_at hl 4 rfl) ?_
  refine lv_istore (lv' := [(7, .int (jI (row))), (6, .int (jI (0))), (5, .int (jI (-9))), (4, .int (jI (0))), (0, .ref (ad 0)), (1, .int (jI (row))), (2, .int (jI (v))), (3, .int (jI (d)))]) S.1 S.2.1 dX10_setOf_11 hl (by decide) rfl (fun ls hl => ?_)
  refine z_iconst S dX10_setOf_13 ?_
  refine lv_istore (lv' := [(8, .int (jI (0))), (7, .int (jI (row))), (6, .int (jI (0))), (5, .int (jI (-9))), (4, .int (jI (0))), (0, .ref (ad 0)), (1, .int (jI (row))), (2, .int (jI (v))), (3, .int (jI (d)))]) S.1 S.2.1 dX10_setOf_14 hl (by decide) rfl (fun ls hl => ?_)
  refine lv_iload S.1 S.2.1 dX10_setOf_16 (lv_at hl 0 rfl) ?_
  refine z_iconst S dX10_setOf_18 ?_
  refine z_icmp_ge (tgt := 106) S dX10_setOf_19 (by decide) (by omega) (fun c_19 => ?_) (fun c_19 => ?_)
  · omega
  · skip
    refine lv_iload S.1 S.2.1 dX10_setOf_22 (lv_at hl 1 rfl) ?_
    refine z_bipush S (by decide +kernel) dX10_setOf_24 ?_
    refine z_idiv S (by omega) (by omega) dX10_setOf_26 ?_
    rw [show row / 121 = zda row by unfold zda; omega]
    refine lv_istore (lv' := [(9, .int (jI (zda row))), (8, .int (jI (0))), (7, .int (jI (row))), (6, .int (jI (0))), (5, .int (jI (-9))), (4, .int (jI (0))), (0, .ref (ad 0)), (1, .int (jI (row))), (2, .int (jI (v))), (3, .int (jI (d)))]) S.1 S.2.1 dX10_setOf_27 hl (by decide) rfl (fun ls hl => ?_)
    refine lv_iload S.1 S.2.1 dX10_setOf_29 (lv_at hl 2 rfl) ?_
    refine z_bipush S (by decide +kernel) dX10_setOf_31 ?_
    refine z_irem S (by omega) (by omega) dX10_setOf_33 ?_
    refine z_bipush S (by decide +kernel) dX10_setOf_34 ?_
    refine z_imul S dX10_setOf_36 ?_
    refine lv_istore (lv' := [(7, .int (jI ((row % 121) * 11))), (9, .int (jI (zda row))), (8, .int (jI (0))), (6, .int (jI (0))), (5, .int (jI (-9))), (4, .int (jI (0))), (0, .ref (ad 0)), (1, .int (jI (row))), (2, .int (jI (v))), (3, .int (jI (d)))]) S.1 S.2.1 dX10_setOf_37 hl (by decide) rfl (fun ls hl => ?_)
    refine lv_iload S.1 S.2.1 dX10_setOf_39 (lv_at hl 1 rfl) ?_
    refine z_bipush S (by decide +kernel) dX10_setOf_41 ?_
    refine z_icmp_ge (tgt := 97) S dX10_setOf_43 (by decide) (by omega) (fun c_43 => ?_) (fun c_43 => ?_)
    · skip
      refine z_iconst S dX10_setOf_97 ?_
      refine lv_istore (lv' := [(6, .int (jI (1))), (7, .int (jI ((row % 121) * 11))), (9, .int (jI (zda row))), (8, .int (jI (0))), (5, .int (jI (-9))), (4, .int (jI (0))), (0, .ref (ad 0)), (1, .int (jI (row))), (2, .int (jI (v))), (3, .int (jI (d)))]) S.1 S.2.1 dX10_setOf_98 hl (by decide) rfl (fun ls hl => ?_)
      refine z_iinc (lv' := [(8, .int (jI (0 + 1))), (6, .int (jI (1))), (7, .int (jI ((row % 121) * 11))), (9, .int (jI (zda row))), (5, .int (jI (-9))), (4, .int (jI (0))), (0, .ref (ad 0)), (1, .int (jI (row))), (2, .int (jI (v))), (3, .int (jI (d)))]) S hl (k := 3) rfl (by decide) rfl dX10_setOf_100 (fun ls hl => ?_)
      refine z_goto (tgt := 16) S dX10_setOf_103 (by decide) ?_
      refine lv_iload S.1 S.2.1 dX10_setOf_16 (lv_at hl 0 rfl) ?_
      refine z_iconst S dX10_setOf_18 ?_
      refine z_icmp_ge (tgt := 106) S dX10_setOf_19 (by decide) (by omega) (fun c_19 => ?_) (fun c_19 => ?_)
      · omega
      · skip
        refine lv_iload S.1 S.2.1 dX10_setOf_22 (lv_at hl 2 rfl) ?_
        refine z_bipush S (by decide +kernel) dX10_setOf_24 ?_
        refine z_idiv S (by omega) (by omega) dX10_setOf_26 ?_
        rw [show ((row % 121) * 11) / 121 = zdb row by unfold zdb; omega]
        refine lv_istore (lv' := [(9, .int (jI (zdb row))), (8, .int (jI (0 + 1))), (6, .int (jI (1))), (7, .int (jI ((row % 121) * 11))), (5, .int (jI (-9))), (4, .int (jI (0))), (0, .ref (ad 0)), (1, .int (jI (row))), (2, .int (jI (v))), (3, .int (jI (d)))]) S.1 S.2.1 dX10_setOf_27 hl (by decide) rfl (fun ls hl => ?_)
        refine lv_iload S.1 S.2.1 dX10_setOf_29 (lv_at hl 3 rfl) ?_
        refine z_bipush S (by decide +kernel) dX10_setOf_31 ?_
        refine z_irem S (by omega) (by omega) dX10_setOf_33 ?_
        refine z_bipush S (by decide +kernel) dX10_setOf_34 ?_
        refine z_imul S dX10_setOf_36 ?_
        refine lv_istore (lv' := [(7, .int (jI ((((row % 121) * 11) % 121) * 11))), (9, .int (jI (zdb row))), (8, .int (jI (0 + 1))), (6, .int (jI (1))), (5, .int (jI (-9))), (4, .int (jI (0))), (0, .ref (ad 0)), (1, .int (jI (row))), (2, .int (jI (v))), (3, .int (jI (d)))]) S.1 S.2.1 dX10_setOf_37 hl (by decide) rfl (fun ls hl => ?_)
        refine lv_iload S.1 S.2.1 dX10_setOf_39 (lv_at hl 1 rfl) ?_
        refine z_bipush S (by decide +kernel) dX10_setOf_41 ?_
        refine z_icmp_ge (tgt := 97) S dX10_setOf_43 (by decide) (by omega) (fun c_43 => ?_) (fun c_43 => ?_)
        · skip
          refine z_iconst S dX10_setOf_97 ?_
          refine lv_istore (lv' := [(6, .int (jI (1))), (7, .int (jI ((((row % 121) * 11) % 121) * 11))), (9, .int (jI (zdb row))), (8, .int (jI (0 + 1))), (5, .int (jI (-9))), (4, .int (jI (0))), (0, .ref (ad 0)), (1, .int (jI (row))), (2, .int (jI (v))), (3, .int (jI (d)))]) S.1 S.2.1 dX10_setOf_98 hl (by decide) rfl (fun ls hl => ?_)
          refine z_iinc (lv' := [(8, .int (jI ((0 + 1) + 1))), (6, .int (jI (1))), (7, .int (jI ((((row % 121) * 11) % 121) * 11))), (9, .int (jI (zdb row))), (5, .int (jI (-9))), (4, .int (jI (0))), (0, .ref (ad 0)), (1, .int (jI (row))), (2, .int (jI (v))), (3, .int (jI (d)))]) S hl (k := 3) rfl (by decide) rfl dX10_setOf_100 (fun ls hl => ?_)
          refine z_goto (tgt := 16) S dX10_setOf_103 (by decide) ?_
          refine lv_iload S.1 S.2.1 dX10_setOf_16 (lv_at hl 0 rfl) ?_
          refine z_iconst S dX10_setOf_18 ?_
          refine z_icmp_ge (tgt := 106) S dX10_setOf_19 (by decide) (by omega) (fun c_19 => ?_) (fun c_19 => ?_)
          · omega
          · skip
            refine lv_iload S.1 S.2.1 dX10_setOf_22 (lv_at hl 2 rfl) ?_
            refine z_bipush S (by decide +kernel) dX10_setOf_24 ?_
            refine z_idiv S (by omega) (by omega) dX10_setOf_26 ?_
            rw [show ((((row % 121) * 11) % 121) * 11) / 121 = zdc row by unfold zdc; omega]
            refine lv_istore (lv' := [(9, .int (jI (zdc row))), (8, .int (jI ((0 + 1) + 1))), (6, .int (jI (1))), (7, .int (jI ((((row % 121) * 11) % 121) * 11))), (5, .int (jI (-9))), (4, .int (jI (0))), (0, .ref (ad 0)), (1, .int (jI (row))), (2, .int (jI (v))), (3, .int (jI (d)))]) S.1 S.2.1 dX10_setOf_27 hl (by decide) rfl (fun ls hl => ?_)
            refine lv_iload S.1 S.2.1 dX10_setOf_29 (lv_at hl 3 rfl) ?_
            refine z_bipush S (by decide +kernel) dX10_setOf_31 ?_
            refine z_irem S (by omega) (by omega) dX10_setOf_33 ?_
            refine z_bipush S (by decide +kernel) dX10_setOf_34 ?_
            refine z_imul S dX10_setOf_36 ?_
            refine lv_istore (lv' := [(7, .int (jI ((((((row % 121) * 11) % 121) * 11) % 121) * 11))), (9, .int (jI (zdc row))), (8, .int (jI ((0 + 1) + 1))), (6, .int (jI (1))), (5, .int (jI (-9))), (4, .int (jI (0))), (0, .ref (ad 0)), (1, .int (jI (row))), (2, .int (jI (v))), (3, .int (jI (d)))]) S.1 S.2.1 dX10_setOf_37 hl (by decide) rfl (fun ls hl => ?_)
            refine lv_iload S.1 S.2.1 dX10_setOf_39 (lv_at hl 1 rfl) ?_
            refine z_bipush S (by decide +kernel) dX10_setOf_41 ?_
            refine z_icmp_ge (tgt := 97) S dX10_setOf_43 (by decide) (by omega) (fun c_43 => ?_) (fun c_43 => ?_)
            · skip
              refine z_iconst S dX10_setOf_97 ?_
              refine lv_istore (lv' := [(6, .int (jI (1))), (7, .int (jI ((((((row % 121) * 11) % 121) * 11) % 121) * 11))), (9, .int (jI (zdc row))), (8, .int (jI ((0 + 1) + 1))), (5, .int (jI (-9))), (4, .int (jI (0))), (0, .ref (ad 0)), (1, .int (jI (row))), (2, .int (jI (v))), (3, .int (jI (d)))]) S.1 S.2.1 dX10_setOf_98 hl (by decide) rfl (fun ls hl => ?_)
              refine z_iinc (lv' := [(8, .int (jI (((0 + 1) + 1) + 1))), (6, .int (jI (1))), (7, .int (jI ((((((row % 121) * 11) % 121) * 11) % 121) * 11))), (9, .int (jI (zdc row))), (5, .int (jI (-9))), (4, .int (jI (0))), (0, .ref (ad 0)), (1, .int (jI (row))), (2, .int (jI (v))), (3, .int (jI (d)))]) S hl (k := 3) rfl (by decide) rfl dX10_setOf_100 (fun ls hl => ?_)
              refine z_goto (tgt := 16) S dX10_setOf_103 (by decide) ?_
              refine lv_iload S.1 S.2.1 dX10_setOf_16 (lv_at hl 0 rfl) ?_
              refine z_iconst S dX10_setOf_18 ?_
              refine z_icmp_ge (tgt := 106) S dX10_setOf_19 (by decide) (by omega) (fun c_19 => ?_) (fun c_19 => ?_)
              · skip
                refine lv_iload S.1 S.2.1 dX10_setOf_106 (lv_at hl 5 rfl) ?_
                exact hQ (0) (Or.inl ⟨by refine ⟨fun q => ?_, fun q => ?_, fun q => ?_⟩ <;> first | exact ⟨by omega, hl_a⟩ | exact ⟨by omega, hl_b⟩ | exact ⟨by omega, hl_c⟩ | (exfalso; omega), by have e1 := zdp_or (zda row); have e2 := zdp_or (zdb row); have e3 := zdp_or (zdc row); unfold zset; omega⟩) _ _ dX10_setOf_108
              · omega
            · skip
              refine lv_iload S.1 S.2.1 dX10_setOf_46 (lv_at hl 3 rfl) ?_
              refine z_if_ne (tgt := 78) S dX10_setOf_48 (by decide) (by omega) (fun c_48 => ?_) (fun c_48 => ?_)
              · skip
                refine z_bipush S (by decide +kernel) dX10_setOf_78 ?_
                exact hQ (-9) (Or.inr ⟨fun z => by first | (have q := (z.1 (by omega)).1; omega) | exact (z.1 (by omega)).2 (zB_t h_72 (by omega)) | (have q := (z.2.1 (by omega)).1; omega) | exact (z.2.1 (by omega)).2 (zB_t h_72 (by omega)) | (have q := (z.2.2 (by omega)).1; omega) | exact (z.2.2 (by omega)).2 (zB_t h_72 (by omega)), rfl⟩) _ _ dX10_setOf_80
              · omega
        · skip
          refine lv_iload S.1 S.2.1 dX10_setOf_46 (lv_at hl 3 rfl) ?_
          refine z_if_ne (tgt := 78) S dX10_setOf_48 (by decide) (by omega) (fun c_48 => ?_) (fun c_48 => ?_)
          · skip
            refine z_bipush S (by decide +kernel) dX10_setOf_78 ?_
            exact hQ (-9) (Or.inr ⟨fun z => by first | (have q := (z.1 (by omega)).1; omega) | exact (z.1 (by omega)).2 (zB_t h_72 (by omega)) | (have q := (z.2.1 (by omega)).1; omega) | exact (z.2.1 (by omega)).2 (zB_t h_72 (by omega)) | (have q := (z.2.2 (by omega)).1; omega) | exact (z.2.2 (by omega)).2 (zB_t h_72 (by omega)), rfl⟩) _ _ dX10_setOf_80
          · omega
    · skip
      refine lv_iload S.1 S.2.1 dX10_setOf_46 (lv_at hl 3 rfl) ?_
      refine z_if_ne (tgt := 78) S dX10_setOf_48 (by decide) (by omega) (fun c_48 => ?_) (fun c_48 => ?_)
      · omega
      · skip
        refine lv_iload S.1 S.2.1 dX10_setOf_51 (lv_at hl 1 rfl) ?_
        refine lv_iload S.1 S.2.1 dX10_setOf_53 (lv_at hl 4 rfl) ?_
        refine z_icmp_le (tgt := 78) S dX10_setOf_55 (by decide) (by omega) (fun c_55 => ?_) (fun c_55 => ?_)
        · skip
          refine z_bipush S (by decide +kernel) dX10_setOf_78 ?_
          exact hQ (-9) (Or.inr ⟨fun z => by first | (have q := (z.1 (by omega)).1; omega) | exact (z.1 (by omega)).2 (zB_t h_72 (by omega)) | (have q := (z.2.1 (by omega)).1; omega) | exact (z.2.1 (by omega)).2 (zB_t h_72 (by omega)) | (have q := (z.2.2 (by omega)).1; omega) | exact (z.2.2 (by omega)).2 (zB_t h_72 (by omega)), rfl⟩) _ _ dX10_setOf_80
        · skip
          refine lv_iload S.1 S.2.1 dX10_setOf_58 (lv_at hl 1 rfl) ?_
          refine lv_aload_n S.1 S.2.1 dX10_setOf_60 rfl (lv_at hl 6 rfl) ?_
          refine z_get S hK hP 0 rfl rfl 1 (by decide) i_X10_setOf_10 q_X10_setOf_1 rfl dX10_setOf_61 ?_
          refine z_icmp_ge (tgt := 78) S dX10_setOf_64 (by decide) (by omega) (fun c_64 => ?_) (fun c_64 => ?_)
          · skip
            refine z_bipush S (by decide +kernel) dX10_setOf_78 ?_
            exact hQ (-9) (Or.inr ⟨fun z => by first | (have q := (z.1 (by omega)).1; omega) | exact (z.1 (by omega)).2 (zB_t h_72 (by omega)) | (have q := (z.2.1 (by omega)).1; omega) | exact (z.2.1 (by omega)).2 (zB_t h_72 (by omega)) | (have q := (z.2.2 (by omega)).1; omega) | exact (z.2.2 (by omega)).2 (zB_t h_72 (by omega)), rfl⟩) _ _ dX10_setOf_80
          · skip
            refine lv_aload_n S.1 S.2.1 dX10_setOf_67 rfl (lv_at hl 6 rfl) ?_
            refine lv_iload S.1 S.2.1 dX10_setOf_68 (lv_at hl 1 rfl) ?_
            refine lv_iload_n S.1 S.2.1 dX10_setOf_70 rfl (lv_at hl 8 rfl) ?_
            refine lv_iload_n S.1 S.2.1 dX10_setOf_71 rfl (lv_at hl 9 rfl) ?_
            refine z_ri (z_rV S hK (c_X10_doesLive l E ad flt ppl kd vl nb fr tl rA rP rk rv rn rf rt can fw fs ss sl sh hd tr (zda row) v d (by omega) (by omega) (by omega) (by omega) (hpe)) gX10_setOf_X10_doesLive rfl hv_X10_doesLive ⟨Nat.le_of_ble_eq_true rfl, Nat.le_of_ble_eq_true rfl⟩ (va_recv hK hP (ci := 10) (q0 := 0) rfl rfl) hP hl.1 rfl (Nat.le_of_ble_eq_true rfl) ⟨by decide, by decide⟩ rfl dX10_setOf_72) (fun r_72 h_72 => ?_)
            refine z_if_eq (tgt := 81) S dX10_setOf_75 (by decide) (by omega) (fun c_75 => ?_) (fun c_75 => ?_)
            · skip
              have hl_a : ¬ zlive kd vl fr tl (zda row) v d := zB_f h_72 (by omega)
              refine lv_iload S.1 S.2.1 dX10_setOf_81 (lv_at hl 5 rfl) ?_
              refine z_iconst S dX10_setOf_83 ?_
              refine lv_iload S.1 S.2.1 dX10_setOf_84 (lv_at hl 1 rfl) ?_
              refine z_shl1 S (by omega) dX10_setOf_86 ?_
              refine z_orp S (by have q1 := zp_pos (zda row); have q2 := zp_pos (zdb row); first | omega | (have := zp_lt (x := zda row) (y := zdb row) (by omega); omega) | (have := zp_two (x := zda row) (y := zdb row) (z := zdc row) (by omega); omega)) dX10_setOf_87 ?_
              refine lv_istore (lv' := [(4, .int (jI (0 + zp (zda row)))), (7, .int (jI ((row % 121) * 11))), (9, .int (jI (zda row))), (8, .int (jI (0))), (6, .int (jI (0))), (5, .int (jI (-9))), (0, .ref (ad 0)), (1, .int (jI (row))), (2, .int (jI (v))), (3, .int (jI (d)))]) S.1 S.2.1 dX10_setOf_88 hl (by decide) rfl (fun ls hl => ?_)
              refine lv_iload S.1 S.2.1 dX10_setOf_90 (lv_at hl 2 rfl) ?_
              refine lv_istore (lv' := [(5, .int (jI (zda row))), (4, .int (jI (0 + zp (zda row)))), (7, .int (jI ((row % 121) * 11))), (9, .int (jI (zda row))), (8, .int (jI (0))), (6, .int (jI (0))), (0, .ref (ad 0)), (1, .int (jI (row))), (2, .int (jI (v))), (3, .int (jI (d)))]) S.1 S.2.1 dX10_setOf_92 hl (by decide) rfl (fun ls hl => ?_)
              refine z_goto (tgt := 100) S dX10_setOf_94 (by decide) ?_
              refine z_iinc (lv' := [(8, .int (jI (0 + 1))), (5, .int (jI (zda row))), (4, .int (jI (0 + zp (zda row)))), (7, .int (jI ((row % 121) * 11))), (9, .int (jI (zda row))), (6, .int (jI (0))), (0, .ref (ad 0)), (1, .int (jI (row))), (2, .int (jI (v))), (3, .int (jI (d)))]) S hl (k := 4) rfl (by decide) rfl dX10_setOf_100 (fun ls hl => ?_)
              refine z_goto (tgt := 16) S dX10_setOf_103 (by decide) ?_
              refine lv_iload S.1 S.2.1 dX10_setOf_16 (lv_at hl 0 rfl) ?_
              refine z_iconst S dX10_setOf_18 ?_
              refine z_icmp_ge (tgt := 106) S dX10_setOf_19 (by decide) (by omega) (fun c_19 => ?_) (fun c_19 => ?_)
              · omega
              · skip
                refine lv_iload S.1 S.2.1 dX10_setOf_22 (lv_at hl 3 rfl) ?_
                refine z_bipush S (by decide +kernel) dX10_setOf_24 ?_
                refine z_idiv S (by omega) (by omega) dX10_setOf_26 ?_
                rw [show ((row % 121) * 11) / 121 = zdb row by unfold zdb; omega]
                refine lv_istore (lv' := [(9, .int (jI (zdb row))), (8, .int (jI (0 + 1))), (5, .int (jI (zda row))), (4, .int (jI (0 + zp (zda row)))), (7, .int (jI ((row % 121) * 11))), (6, .int (jI (0))), (0, .ref (ad 0)), (1, .int (jI (row))), (2, .int (jI (v))), (3, .int (jI (d)))]) S.1 S.2.1 dX10_setOf_27 hl (by decide) rfl (fun ls hl => ?_)
                refine lv_iload S.1 S.2.1 dX10_setOf_29 (lv_at hl 4 rfl) ?_
                refine z_bipush S (by decide +kernel) dX10_setOf_31 ?_
                refine z_irem S (by omega) (by omega) dX10_setOf_33 ?_
                refine z_bipush S (by decide +kernel) dX10_setOf_34 ?_
                refine z_imul S dX10_setOf_36 ?_
                refine lv_istore (lv' := [(7, .int (jI ((((row % 121) * 11) % 121) * 11))), (9, .int (jI (zdb row))), (8, .int (jI (0 + 1))), (5, .int (jI (zda row))), (4, .int (jI (0 + zp (zda row)))), (6, .int (jI (0))), (0, .ref (ad 0)), (1, .int (jI (row))), (2, .int (jI (v))), (3, .int (jI (d)))]) S.1 S.2.1 dX10_setOf_37 hl (by decide) rfl (fun ls hl => ?_)
                refine lv_iload S.1 S.2.1 dX10_setOf_39 (lv_at hl 1 rfl) ?_
                refine z_bipush S (by decide +kernel) dX10_setOf_41 ?_
                refine z_icmp_ge (tgt := 97) S dX10_setOf_43 (by decide) (by omega) (fun c_43 => ?_) (fun c_43 => ?_)
                · skip
                  refine z_iconst S dX10_setOf_97 ?_
                  refine lv_istore (lv' := [(6, .int (jI (1))), (7, .int (jI ((((row % 121) * 11) % 121) * 11))), (9, .int (jI (zdb row))), (8, .int (jI (0 + 1))), (5, .int (jI (zda row))), (4, .int (jI (0 + zp (zda row)))), (0, .ref (ad 0)), (1, .int (jI (row))), (2, .int (jI (v))), (3, .int (jI (d)))]) S.1 S.2.1 dX10_setOf_98 hl (by decide) rfl (fun ls hl => ?_)
                  refine z_iinc (lv' := [(8, .int (jI ((0 + 1) + 1))), (6, .int (jI (1))), (7, .int (jI ((((row % 121) * 11) % 121) * 11))), (9, .int (jI (zdb row))), (5, .int (jI (zda row))), (4, .int (jI (0 + zp (zda row)))), (0, .ref (ad 0)), (1, .int (jI (row))), (2, .int (jI (v))), (3, .int (jI (d)))]) S hl (k := 3) rfl (by decide) rfl dX10_setOf_100 (fun ls hl => ?_)
                  refine z_goto (tgt := 16) S dX10_setOf_103 (by decide) ?_
                  refine lv_iload S.1 S.2.1 dX10_setOf_16 (lv_at hl 0 rfl) ?_
                  refine z_iconst S dX10_setOf_18 ?_
                  refine z_icmp_ge (tgt := 106) S dX10_setOf_19 (by decide) (by omega) (fun c_19 => ?_) (fun c_19 => ?_)
                  · omega
                  · skip
                    refine lv_iload S.1 S.2.1 dX10_setOf_22 (lv_at hl 2 rfl) ?_
                    refine z_bipush S (by decide +kernel) dX10_setOf_24 ?_
                    refine z_idiv S (by omega) (by omega) dX10_setOf_26 ?_
                    rw [show ((((row % 121) * 11) % 121) * 11) / 121 = zdc row by unfold zdc; omega]
                    refine lv_istore (lv' := [(9, .int (jI (zdc row))), (8, .int (jI ((0 + 1) + 1))), (6, .int (jI (1))), (7, .int (jI ((((row % 121) * 11) % 121) * 11))), (5, .int (jI (zda row))), (4, .int (jI (0 + zp (zda row)))), (0, .ref (ad 0)), (1, .int (jI (row))), (2, .int (jI (v))), (3, .int (jI (d)))]) S.1 S.2.1 dX10_setOf_27 hl (by decide) rfl (fun ls hl => ?_)
                    refine lv_iload S.1 S.2.1 dX10_setOf_29 (lv_at hl 3 rfl) ?_
                    refine z_bipush S (by decide +kernel) dX10_setOf_31 ?_
                    refine z_irem S (by omega) (by omega) dX10_setOf_33 ?_
                    refine z_bipush S (by decide +kernel) dX10_setOf_34 ?_
                    refine z_imul S dX10_setOf_36 ?_
                    refine lv_istore (lv' := [(7, .int (jI ((((((row % 121) * 11) % 121) * 11) % 121) * 11))), (9, .int (jI (zdc row))), (8, .int (jI ((0 + 1) + 1))), (6, .int (jI (1))), (5, .int (jI (zda row))), (4, .int (jI (0 + zp (zda row)))), (0, .ref (ad 0)), (1, .int (jI (row))), (2, .int (jI (v))), (3, .int (jI (d)))]) S.1 S.2.1 dX10_setOf_37 hl (by decide) rfl (fun ls hl => ?_)
                    refine lv_iload S.1 S.2.1 dX10_setOf_39 (lv_at hl 1 rfl) ?_
                    refine z_bipush S (by decide +kernel) dX10_setOf_41 ?_
                    refine z_icmp_ge (tgt := 97) S dX10_setOf_43 (by decide) (by omega) (fun c_43 => ?_) (fun c_43 => ?_)
                    · skip
                      refine z_iconst S dX10_setOf_97 ?_
                      refine lv_istore (lv' := [(6, .int (jI (1))), (7, .int (jI ((((((row % 121) * 11) % 121) * 11) % 121) * 11))), (9, .int (jI (zdc row))), (8, .int (jI ((0 + 1) + 1))), (5, .int (jI (zda row))), (4, .int (jI (0 + zp (zda row)))), (0, .ref (ad 0)), (1, .int (jI (row))), (2, .int (jI (v))), (3, .int (jI (d)))]) S.1 S.2.1 dX10_setOf_98 hl (by decide) rfl (fun ls hl => ?_)
                      refine z_iinc (lv' := [(8, .int (jI (((0 + 1) + 1) + 1))), (6, .int (jI (1))), (7, .int (jI ((((((row % 121) * 11) % 121) * 11) % 121) * 11))), (9, .int (jI (zdc row))), (5, .int (jI (zda row))), (4, .int (jI (0 + zp (zda row)))), (0, .ref (ad 0)), (1, .int (jI (row))), (2, .int (jI (v))), (3, .int (jI (d)))]) S hl (k := 3) rfl (by decide) rfl dX10_setOf_100 (fun ls hl => ?_)
                      refine z_goto (tgt := 16) S dX10_setOf_103 (by decide) ?_
                      refine lv_iload S.1 S.2.1 dX10_setOf_16 (lv_at hl 0 rfl) ?_
                      refine z_iconst S dX10_setOf_18 ?_
                      refine z_icmp_ge (tgt := 106) S dX10_setOf_19 (by decide) (by omega) (fun c_19 => ?_) (fun c_19 => ?_)
                      · skip
                        refine lv_iload S.1 S.2.1 dX10_setOf_106 (lv_at hl 5 rfl) ?_
                        exact hQ (0 + zp (zda row)) (Or.inl ⟨by refine ⟨fun q => ?_, fun q => ?_, fun q => ?_⟩ <;> first | exact ⟨by omega, hl_a⟩ | exact ⟨by omega, hl_b⟩ | exact ⟨by omega, hl_c⟩ | (exfalso; omega), by have e1 := zdp_or (zda row); have e2 := zdp_or (zdb row); have e3 := zdp_or (zdc row); unfold zset; omega⟩) _ _ dX10_setOf_108
                      · omega
                    · skip
                      refine lv_iload S.1 S.2.1 dX10_setOf_46 (lv_at hl 3 rfl) ?_
                      refine z_if_ne (tgt := 78) S dX10_setOf_48 (by decide) (by omega) (fun c_48 => ?_) (fun c_48 => ?_)
                      · skip
                        refine z_bipush S (by decide +kernel) dX10_setOf_78 ?_
                        exact hQ (-9) (Or.inr ⟨fun z => by first | (have q := (z.1 (by omega)).1; omega) | exact (z.1 (by omega)).2 (zB_t h_72 (by omega)) | (have q := (z.2.1 (by omega)).1; omega) | exact (z.2.1 (by omega)).2 (zB_t h_72 (by omega)) | (have q := (z.2.2 (by omega)).1; omega) | exact (z.2.2 (by omega)).2 (zB_t h_72 (by omega)), rfl⟩) _ _ dX10_setOf_80
                      · omega
                · skip
                  refine lv_iload S.1 S.2.1 dX10_setOf_46 (lv_at hl 5 rfl) ?_
                  refine z_if_ne (tgt := 78) S dX10_setOf_48 (by decide) (by omega) (fun c_48 => ?_) (fun c_48 => ?_)
                  · omega
                  · skip
                    refine lv_iload S.1 S.2.1 dX10_setOf_51 (lv_at hl 1 rfl) ?_
                    refine lv_iload S.1 S.2.1 dX10_setOf_53 (lv_at hl 3 rfl) ?_
                    refine z_icmp_le (tgt := 78) S dX10_setOf_55 (by decide) (by omega) (fun c_55 => ?_) (fun c_55 => ?_)
                    · skip
                      refine z_bipush S (by decide +kernel) dX10_setOf_78 ?_
                      exact hQ (-9) (Or.inr ⟨fun z => by first | (have q := (z.1 (by omega)).1; omega) | exact (z.1 (by omega)).2 (zB_t h_72 (by omega)) | (have q := (z.2.1 (by omega)).1; omega) | exact (z.2.1 (by omega)).2 (zB_t h_72 (by omega)) | (have q := (z.2.2 (by omega)).1; omega) | exact (z.2.2 (by omega)).2 (zB_t h_72 (by omega)), rfl⟩) _ _ dX10_setOf_80
                    · skip
                      refine lv_iload S.1 S.2.1 dX10_setOf_58 (lv_at hl 1 rfl) ?_
                      refine lv_aload_n S.1 S.2.1 dX10_setOf_60 rfl (lv_at hl 6 rfl) ?_
                      refine z_get S hK hP 0 rfl rfl 1 (by decide) i_X10_setOf_10 q_X10_setOf_1 rfl dX10_setOf_61 ?_
                      refine z_icmp_ge (tgt := 78) S dX10_setOf_64 (by decide) (by omega) (fun c_64 => ?_) (fun c_64 => ?_)
                      · skip
                        refine z_bipush S (by decide +kernel) dX10_setOf_78 ?_
                        exact hQ (-9) (Or.inr ⟨fun z => by first | (have q := (z.1 (by omega)).1; omega) | exact (z.1 (by omega)).2 (zB_t h_72 (by omega)) | (have q := (z.2.1 (by omega)).1; omega) | exact (z.2.1 (by omega)).2 (zB_t h_72 (by omega)) | (have q := (z.2.2 (by omega)).1; omega) | exact (z.2.2 (by omega)).2 (zB_t h_72 (by omega)), rfl⟩) _ _ dX10_setOf_80
                      · skip
                        refine lv_aload_n S.1 S.2.1 dX10_setOf_67 rfl (lv_at hl 6 rfl) ?_
                        refine lv_iload S.1 S.2.1 dX10_setOf_68 (lv_at hl 1 rfl) ?_
                        refine lv_iload_n S.1 S.2.1 dX10_setOf_70 rfl (lv_at hl 8 rfl) ?_
                        refine lv_iload_n S.1 S.2.1 dX10_setOf_71 rfl (lv_at hl 9 rfl) ?_
                        refine z_ri (z_rV S hK (c_X10_doesLive l E ad flt ppl kd vl nb fr tl rA rP rk rv rn rf rt can fw fs ss sl sh hd tr (zdb row) v d (by omega) (by omega) (by omega) (by omega) (hpe)) gX10_setOf_X10_doesLive rfl hv_X10_doesLive ⟨Nat.le_of_ble_eq_true rfl, Nat.le_of_ble_eq_true rfl⟩ (va_recv hK hP (ci := 10) (q0 := 0) rfl rfl) hP hl.1 rfl (Nat.le_of_ble_eq_true rfl) ⟨by decide, by decide⟩ rfl dX10_setOf_72) (fun r_72 h_72 => ?_)
                        refine z_if_eq (tgt := 81) S dX10_setOf_75 (by decide) (by omega) (fun c_75 => ?_) (fun c_75 => ?_)
                        · skip
                          have hl_b : ¬ zlive kd vl fr tl (zdb row) v d := zB_f h_72 (by omega)
                          refine lv_iload S.1 S.2.1 dX10_setOf_81 (lv_at hl 4 rfl) ?_
                          refine z_iconst S dX10_setOf_83 ?_
                          refine lv_iload S.1 S.2.1 dX10_setOf_84 (lv_at hl 1 rfl) ?_
                          refine z_shl1 S (by omega) dX10_setOf_86 ?_
                          refine z_orp S (by have q1 := zp_pos (zda row); have q2 := zp_pos (zdb row); first | omega | (have := zp_lt (x := zda row) (y := zdb row) (by omega); omega) | (have := zp_two (x := zda row) (y := zdb row) (z := zdc row) (by omega); omega)) dX10_setOf_87 ?_
                          refine lv_istore (lv' := [(4, .int (jI ((0 + zp (zda row)) + zp (zdb row)))), (7, .int (jI ((((row % 121) * 11) % 121) * 11))), (9, .int (jI (zdb row))), (8, .int (jI (0 + 1))), (5, .int (jI (zda row))), (6, .int (jI (0))), (0, .ref (ad 0)), (1, .int (jI (row))), (2, .int (jI (v))), (3, .int (jI (d)))]) S.1 S.2.1 dX10_setOf_88 hl (by decide) rfl (fun ls hl => ?_)
                          refine lv_iload S.1 S.2.1 dX10_setOf_90 (lv_at hl 2 rfl) ?_
                          refine lv_istore (lv' := [(5, .int (jI (zdb row))), (4, .int (jI ((0 + zp (zda row)) + zp (zdb row)))), (7, .int (jI ((((row % 121) * 11) % 121) * 11))), (9, .int (jI (zdb row))), (8, .int (jI (0 + 1))), (6, .int (jI (0))), (0, .ref (ad 0)), (1, .int (jI (row))), (2, .int (jI (v))), (3, .int (jI (d)))]) S.1 S.2.1 dX10_setOf_92 hl (by decide) rfl (fun ls hl => ?_)
                          refine z_goto (tgt := 100) S dX10_setOf_94 (by decide) ?_
                          refine z_iinc (lv' := [(8, .int (jI ((0 + 1) + 1))), (5, .int (jI (zdb row))), (4, .int (jI ((0 + zp (zda row)) + zp (zdb row)))), (7, .int (jI ((((row % 121) * 11) % 121) * 11))), (9, .int (jI (zdb row))), (6, .int (jI (0))), (0, .ref (ad 0)), (1, .int (jI (row))), (2, .int (jI (v))), (3, .int (jI (d)))]) S hl (k := 4) rfl (by decide) rfl dX10_setOf_100 (fun ls hl => ?_)
                          refine z_goto (tgt := 16) S dX10_setOf_103 (by decide) ?_
                          refine lv_iload S.1 S.2.1 dX10_setOf_16 (lv_at hl 0 rfl) ?_
                          refine z_iconst S dX10_setOf_18 ?_
                          refine z_icmp_ge (tgt := 106) S dX10_setOf_19 (by decide) (by omega) (fun c_19 => ?_) (fun c_19 => ?_)
                          · omega
                          · skip
                            refine lv_iload S.1 S.2.1 dX10_setOf_22 (lv_at hl 3 rfl) ?_
                            refine z_bipush S (by decide +kernel) dX10_setOf_24 ?_
                            refine z_idiv S (by omega) (by omega) dX10_setOf_26 ?_
                            rw [show ((((row % 121) * 11) % 121) * 11) / 121 = zdc row by unfold zdc; omega]
                            refine lv_istore (lv' := [(9, .int (jI (zdc row))), (8, .int (jI ((0 + 1) + 1))), (5, .int (jI (zdb row))), (4, .int (jI ((0 + zp (zda row)) + zp (zdb row)))), (7, .int (jI ((((row % 121) * 11) % 121) * 11))), (6, .int (jI (0))), (0, .ref (ad 0)), (1, .int (jI (row))), (2, .int (jI (v))), (3, .int (jI (d)))]) S.1 S.2.1 dX10_setOf_27 hl (by decide) rfl (fun ls hl => ?_)
                            refine lv_iload S.1 S.2.1 dX10_setOf_29 (lv_at hl 4 rfl) ?_
                            refine z_bipush S (by decide +kernel) dX10_setOf_31 ?_
                            refine z_irem S (by omega) (by omega) dX10_setOf_33 ?_
                            refine z_bipush S (by decide +kernel) dX10_setOf_34 ?_
                            refine z_imul S dX10_setOf_36 ?_
                            refine lv_istore (lv' := [(7, .int (jI ((((((row % 121) * 11) % 121) * 11) % 121) * 11))), (9, .int (jI (zdc row))), (8, .int (jI ((0 + 1) + 1))), (5, .int (jI (zdb row))), (4, .int (jI ((0 + zp (zda row)) + zp (zdb row)))), (6, .int (jI (0))), (0, .ref (ad 0)), (1, .int (jI (row))), (2, .int (jI (v))), (3, .int (jI (d)))]) S.1 S.2.1 dX10_setOf_37 hl (by decide) rfl (fun ls hl => ?_)
                            refine lv_iload S.1 S.2.1 dX10_setOf_39 (lv_at hl 1 rfl) ?_
                            refine z_bipush S (by decide +kernel) dX10_setOf_41 ?_
                            refine z_icmp_ge (tgt := 97) S dX10_setOf_43 (by decide) (by omega) (fun c_43 => ?_) (fun c_43 => ?_)
                            · skip
                              refine z_iconst S dX10_setOf_97 ?_
                              refine lv_istore (lv' := [(6, .int (jI (1))), (7, .int (jI ((((((row % 121) * 11) % 121) * 11) % 121) * 11))), (9, .int (jI (zdc row))), (8, .int (jI ((0 + 1) + 1))), (5, .int (jI (zdb row))), (4, .int (jI ((0 + zp (zda row)) + zp (zdb row)))), (0, .ref (ad 0)), (1, .int (jI (row))), (2, .int (jI (v))), (3, .int (jI (d)))]) S.1 S.2.1 dX10_setOf_98 hl (by decide) rfl (fun ls hl => ?_)
                              refine z_iinc (lv' := [(8, .int (jI (((0 + 1) + 1) + 1))), (6, .int (jI (1))), (7, .int (jI ((((((row % 121) * 11) % 121) * 11) % 121) * 11))), (9, .int (jI (zdc row))), (5, .int (jI (zdb row))), (4, .int (jI ((0 + zp (zda row)) + zp (zdb row)))), (0, .ref (ad 0)), (1, .int (jI (row))), (2, .int (jI (v))), (3, .int (jI (d)))]) S hl (k := 3) rfl (by decide) rfl dX10_setOf_100 (fun ls hl => ?_)
                              refine z_goto (tgt := 16) S dX10_setOf_103 (by decide) ?_
                              refine lv_iload S.1 S.2.1 dX10_setOf_16 (lv_at hl 0 rfl) ?_
                              refine z_iconst S dX10_setOf_18 ?_
                              refine z_icmp_ge (tgt := 106) S dX10_setOf_19 (by decide) (by omega) (fun c_19 => ?_) (fun c_19 => ?_)
                              · skip
                                refine lv_iload S.1 S.2.1 dX10_setOf_106 (lv_at hl 5 rfl) ?_
                                exact hQ ((0 + zp (zda row)) + zp (zdb row)) (Or.inl ⟨by refine ⟨fun q => ?_, fun q => ?_, fun q => ?_⟩ <;> first | exact ⟨by omega, hl_a⟩ | exact ⟨by omega, hl_b⟩ | exact ⟨by omega, hl_c⟩ | (exfalso; omega), by have e1 := zdp_or (zda row); have e2 := zdp_or (zdb row); have e3 := zdp_or (zdc row); unfold zset; omega⟩) _ _ dX10_setOf_108
                              · omega
                            · skip
                              refine lv_iload S.1 S.2.1 dX10_setOf_46 (lv_at hl 5 rfl) ?_
                              refine z_if_ne (tgt := 78) S dX10_setOf_48 (by decide) (by omega) (fun c_48 => ?_) (fun c_48 => ?_)
                              · omega
                              · skip
                                refine lv_iload S.1 S.2.1 dX10_setOf_51 (lv_at hl 1 rfl) ?_
                                refine lv_iload S.1 S.2.1 dX10_setOf_53 (lv_at hl 3 rfl) ?_
                                refine z_icmp_le (tgt := 78) S dX10_setOf_55 (by decide) (by omega) (fun c_55 => ?_) (fun c_55 => ?_)
                                · skip
                                  refine z_bipush S (by decide +kernel) dX10_setOf_78 ?_
                                  exact hQ (-9) (Or.inr ⟨fun z => by first | (have q := (z.1 (by omega)).1; omega) | exact (z.1 (by omega)).2 (zB_t h_72 (by omega)) | (have q := (z.2.1 (by omega)).1; omega) | exact (z.2.1 (by omega)).2 (zB_t h_72 (by omega)) | (have q := (z.2.2 (by omega)).1; omega) | exact (z.2.2 (by omega)).2 (zB_t h_72 (by omega)), rfl⟩) _ _ dX10_setOf_80
                                · skip
                                  refine lv_iload S.1 S.2.1 dX10_setOf_58 (lv_at hl 1 rfl) ?_
                                  refine lv_aload_n S.1 S.2.1 dX10_setOf_60 rfl (lv_at hl 6 rfl) ?_
                                  refine z_get S hK hP 0 rfl rfl 1 (by decide) i_X10_setOf_10 q_X10_setOf_1 rfl dX10_setOf_61 ?_
                                  refine z_icmp_ge (tgt := 78) S dX10_setOf_64 (by decide) (by omega) (fun c_64 => ?_) (fun c_64 => ?_)
                                  · skip
                                    refine z_bipush S (by decide +kernel) dX10_setOf_78 ?_
                                    exact hQ (-9) (Or.inr ⟨fun z => by first | (have q := (z.1 (by omega)).1; omega) | exact (z.1 (by omega)).2 (zB_t h_72 (by omega)) | (have q := (z.2.1 (by omega)).1; omega) | exact (z.2.1 (by omega)).2 (zB_t h_72 (by omega)) | (have q := (z.2.2 (by omega)).1; omega) | exact (z.2.2 (by omega)).2 (zB_t h_72 (by omega)), rfl⟩) _ _ dX10_setOf_80
                                  · skip
                                    refine lv_aload_n S.1 S.2.1 dX10_setOf_67 rfl (lv_at hl 6 rfl) ?_
                                    refine lv_iload S.1 S.2.1 dX10_setOf_68 (lv_at hl 1 rfl) ?_
                                    refine lv_iload_n S.1 S.2.1 dX10_setOf_70 rfl (lv_at hl 8 rfl) ?_
                                    refine lv_iload_n S.1 S.2.1 dX10_setOf_71 rfl (lv_at hl 9 rfl) ?_
                                    refine z_ri (z_rV S hK (c_X10_doesLive l E ad flt ppl kd vl nb fr tl rA rP rk rv rn rf rt can fw fs ss sl sh hd tr (zdc row) v d (by omega) (by omega) (by omega) (by omega) (hpe)) gX10_setOf_X10_doesLive rfl hv_X10_doesLive ⟨Nat.le_of_ble_eq_true rfl, Nat.le_of_ble_eq_true rfl⟩ (va_recv hK hP (ci := 10) (q0 := 0) rfl rfl) hP hl.1 rfl (Nat.le_of_ble_eq_true rfl) ⟨by decide, by decide⟩ rfl dX10_setOf_72) (fun r_72 h_72 => ?_)
                                    refine z_if_eq (tgt := 81) S dX10_setOf_75 (by decide) (by omega) (fun c_75 => ?_) (fun c_75 => ?_)
                                    · skip
                                      have hl_c : ¬ zlive kd vl fr tl (zdc row) v d := zB_f h_72 (by omega)
                                      refine lv_iload S.1 S.2.1 dX10_setOf_81 (lv_at hl 4 rfl) ?_
                                      refine z_iconst S dX10_setOf_83 ?_
                                      refine lv_iload S.1 S.2.1 dX10_setOf_84 (lv_at hl 1 rfl) ?_
                                      refine z_shl1 S (by omega) dX10_setOf_86 ?_
                                      refine z_orp S (by have q1 := zp_pos (zda row); have q2 := zp_pos (zdb row); first | omega | (have := zp_lt (x := zda row) (y := zdb row) (by omega); omega) | (have := zp_two (x := zda row) (y := zdb row) (z := zdc row) (by omega); omega)) dX10_setOf_87 ?_
                                      refine lv_istore (lv' := [(4, .int (jI (((0 + zp (zda row)) + zp (zdb row)) + zp (zdc row)))), (7, .int (jI ((((((row % 121) * 11) % 121) * 11) % 121) * 11))), (9, .int (jI (zdc row))), (8, .int (jI ((0 + 1) + 1))), (5, .int (jI (zdb row))), (6, .int (jI (0))), (0, .ref (ad 0)), (1, .int (jI (row))), (2, .int (jI (v))), (3, .int (jI (d)))]) S.1 S.2.1 dX10_setOf_88 hl (by decide) rfl (fun ls hl => ?_)
                                      refine lv_iload S.1 S.2.1 dX10_setOf_90 (lv_at hl 2 rfl) ?_
                                      refine lv_istore (lv' := [(5, .int (jI (zdc row))), (4, .int (jI (((0 + zp (zda row)) + zp (zdb row)) + zp (zdc row)))), (7, .int (jI ((((((row % 121) * 11) % 121) * 11) % 121) * 11))), (9, .int (jI (zdc row))), (8, .int (jI ((0 + 1) + 1))), (6, .int (jI (0))), (0, .ref (ad 0)), (1, .int (jI (row))), (2, .int (jI (v))), (3, .int (jI (d)))]) S.1 S.2.1 dX10_setOf_92 hl (by decide) rfl (fun ls hl => ?_)
                                      refine z_goto (tgt := 100) S dX10_setOf_94 (by decide) ?_
                                      refine z_iinc (lv' := [(8, .int (jI (((0 + 1) + 1) + 1))), (5, .int (jI (zdc row))), (4, .int (jI (((0 + zp (zda row)) + zp (zdb row)) + zp (zdc row)))), (7, .int (jI ((((((row % 121) * 11) % 121) * 11) % 121) * 11))), (9, .int (jI (zdc row))), (6, .int (jI (0))), (0, .ref (ad 0)), (1, .int (jI (row))), (2, .int (jI (v))), (3, .int (jI (d)))]) S hl (k := 4) rfl (by decide) rfl dX10_setOf_100 (fun ls hl => ?_)
                                      refine z_goto (tgt := 16) S dX10_setOf_103 (by decide) ?_
                                      refine lv_iload S.1 S.2.1 dX10_setOf_16 (lv_at hl 0 rfl) ?_
                                      refine z_iconst S dX10_setOf_18 ?_
                                      refine z_icmp_ge (tgt := 106) S dX10_setOf_19 (by decide) (by omega) (fun c_19 => ?_) (fun c_19 => ?_)
                                      · skip
                                        refine lv_iload S.1 S.2.1 dX10_setOf_106 (lv_at hl 2 rfl) ?_
                                        exact hQ (((0 + zp (zda row)) + zp (zdb row)) + zp (zdc row)) (Or.inl ⟨by refine ⟨fun q => ?_, fun q => ?_, fun q => ?_⟩ <;> first | exact ⟨by omega, hl_a⟩ | exact ⟨by omega, hl_b⟩ | exact ⟨by omega, hl_c⟩ | (exfalso; omega), by have e1 := zdp_or (zda row); have e2 := zdp_or (zdb row); have e3 := zdp_or (zdc row); unfold zset; omega⟩) _ _ dX10_setOf_108
                                      · omega
                                    · skip
                                      refine z_bipush S (by decide +kernel) dX10_setOf_78 ?_
                                      exact hQ (-9) (Or.inr ⟨fun z => by first | (have q := (z.1 (by omega)).1; omega) | exact (z.1 (by omega)).2 (zB_t h_72 (by omega)) | (have q := (z.2.1 (by omega)).1; omega) | exact (z.2.1 (by omega)).2 (zB_t h_72 (by omega)) | (have q := (z.2.2 (by omega)).1; omega) | exact (z.2.2 (by omega)).2 (zB_t h_72 (by omega)), rfl⟩) _ _ dX10_setOf_80
                        · skip
                          refine z_bipush S (by decide +kernel) dX10_setOf_78 ?_
                          exact hQ (-9) (Or.inr ⟨fun z => by first | (have q := (z.1 (by omega)).1; omega) | exact (z.1 (by omega)).2 (zB_t h_72 (by omega)) | (have q := (z.2.1 (by omega)).1; omega) | exact (z.2.1 (by omega)).2 (zB_t h_72 (by omega)) | (have q := (z.2.2 (by omega)).1; omega) | exact (z.2.2 (by omega)).2 (zB_t h_72 (by omega)), rfl⟩) _ _ dX10_setOf_80
            · skip
              refine z_bipush S (by decide +kernel) dX10_setOf_78 ?_
              exact hQ (-9) (Or.inr ⟨fun z => by first | (have q := (z.1 (by omega)).1; omega) | exact (z.1 (by omega)).2 (zB_t h_72 (by omega)) | (have q := (z.2.1 (by omega)).1; omega) | exact (z.2.1 (by omega)).2 (zB_t h_72 (by omega)) | (have q := (z.2.2 (by omega)).1; omega) | exact (z.2.2 (by omega)).2 (zB_t h_72 (by omega)), rfl⟩) _ _ dX10_setOf_80

set_option maxHeartbeats 1000000 in
set_option maxRecDepth 20000 in
theorem c_X10_bits (l : Launch) (E : zE) (set : Int) (hset : 0 ≤ set ∧ set < 1024) : zRi l E yX10_bits wsX10_bits (zr 1 0 0) [.int (jI (set))] (fun _ => True) (fun r => r = zpop set) := by
  refine zRi_of (own := RX10) (cc := cX10_bits) (maxL := 3) (by decide) rfl (Nat.le_of_ble_eq_true rfl) rfl ?_
  intro p e s m args below meth c Q S hK hP hQ ls hl
  have hl : lv_has ls 3 [(0, .int (jI (set)))] := hl
  refine z_iconst S dX10_bits_0 ?_
  refine lv_istore_n (lv' := [(1, .int (jI (0))), (0, .int (jI (set)))]) S.1 S.2.1 dX10_bits_1 rfl hl (by decide) rfl (fun ls hl => ?_)
  refine lv_iload_n S.1 S.2.1 dX10_bits_2 rfl (lv_at hl 1 rfl) ?_
  refine lv_istore_n (lv' := [(2, .int (jI (set))), (1, .int (jI (0))), (0, .int (jI (set)))]) S.1 S.2.1 dX10_bits_3 rfl hl (by decide) rfl (fun ls hl => ?_)
  suffices HL_1 : ∀ (n_2 : Nat) (n : Int) (lf : Int), (lf).toNat < n_2 → (0 ≤ lf ∧ lf < 1024) → (0 ≤ n ∧ n + zpop lf = zpop set) → ∀ (ls : Array Slot), lv_has ls 3 [(1, .int (jI (n))), (2, .int (jI (lf))), (0, .int (jI (set)))] → W p l e (zr 1 0 0) s m args below meth c s.heap [] 0 0 Q (F0 m 4 ls []) from
    HL_1 _ 0 set (Nat.lt_succ_self _) (by omega) (by omega) ls (lv_sub hl [1, 0, 2] rfl)
  intro n_2
  induction n_2 with
  | zero => intro n lf hm hlf hn; exact absurd hm (Nat.not_lt_zero _)
  | succ n_2 ih_3 =>
    intro n lf hm hlf hn ls hl
    refine lv_iload_n S.1 S.2.1 dX10_bits_4 rfl (lv_at hl 1 rfl) ?_
    refine z_if_le (tgt := 21) S dX10_bits_5 (by decide) (by omega) (fun c_5 => ?_) (fun c_5 => ?_)
    · skip
      refine lv_iload_n S.1 S.2.1 dX10_bits_21 rfl (lv_at hl 0 rfl) ?_
      exact hQ (n) (by rw [show lf = 0 by omega, show zpop 0 = 0 by decide +kernel] at hn; omega) _ _ dX10_bits_22
    · skip
      have hz1 := zpop_rng (s := set) (by omega)
      have hz2 := zpop_rng (s := lf) (by omega)
      refine lv_iload_n S.1 S.2.1 dX10_bits_8 rfl (lv_at hl 0 rfl) ?_
      refine lv_iload_n S.1 S.2.1 dX10_bits_9 rfl (lv_at hl 1 rfl) ?_
      refine z_iconst S dX10_bits_10 ?_
      refine z_and1 S (by omega) dX10_bits_11 ?_
      refine z_iadd S dX10_bits_12 ?_
      refine lv_istore_n (lv' := [(1, .int (jI (n + (lf % 2)))), (2, .int (jI (lf))), (0, .int (jI (set)))]) S.1 S.2.1 dX10_bits_13 rfl hl (by decide) rfl (fun ls hl => ?_)
      refine lv_iload_n S.1 S.2.1 dX10_bits_14 rfl (lv_at hl 1 rfl) ?_
      refine z_iconst S dX10_bits_15 ?_
      refine z_shr1 S (by omega) dX10_bits_16 ?_
      refine lv_istore_n (lv' := [(2, .int (jI (lf / 2))), (1, .int (jI (n + (lf % 2)))), (0, .int (jI (set)))]) S.1 S.2.1 dX10_bits_17 rfl hl (by decide) rfl (fun ls hl => ?_)
      refine z_goto (tgt := 4) S dX10_bits_18 (by decide) ?_
      exact ih_3 (n + (lf % 2)) (lf / 2) (by omega) (by omega) (by have := zpop_next (s := lf) (by omega); omega) ls (lv_sub hl [1, 0, 2] rfl)

set_option maxHeartbeats 1000000 in
set_option maxRecDepth 20000 in
theorem c_X10_back (l : Launch) (E : zE) (ad : Nat → Nat) (flt ppl : Int) (kd vl nb fr tl : Int → Int) (rA rP : Int) (rk rv rn rf rt can fw fs ss sl sh hd : Int → Int) (tr : Int) (q : Int) (v : Int) (d : Int) (w : Int) (k : Int) (h_q : -2147483648 ≤ q ∧ q ≤ 2147483647) (h_v : -2147483648 ≤ v ∧ v ≤ 2147483647) (h_d : -2147483648 ≤ d ∧ d ≤ 2147483647) (h_w : -2147483648 ≤ w ∧ w ≤ 2147483647) (h_k : -2147483648 ≤ k ∧ k ≤ 2147483647) (hp : 0 ≤ ppl ∧ ppl ≤ 10) (hpe : zPeo ppl kd vl nb fr tl) : zMi l E yX10_back wsX10_back (zr 4 0 0) [.ref (ad 0), .int (jI (q)), .int (jI (v)), .int (jI (d)), .int (jI (w)), .int (jI (k))] (mW E ad flt ppl kd vl nb fr tl rA rP rk rv rn rf rt can fw fs ss sl sh hd tr) (fun _ => True) (fun r (u : (Int → Int) × (Int → Int)) => zA_back ppl kd vl nb fr tl q v d w k r) (fun (u : (Int → Int) × (Int → Int)) => mW E ad flt ppl kd vl nb fr tl rA rP rk rv rn rf rt u.1 u.2 fs ss sl sh hd tr) 0 0 := by
  refine zMi_of (own := RX10) (cc := cX10_back) (maxL := 10) (by decide) rfl (Nat.le_of_ble_eq_true rfl) rfl ?_
  intro p e s m args below meth c Q A S hK hA hS hP hD hAe hG hQ ls hl
  have hl : lv_has ls 10 [(0, .ref (ad 0)), (1, .int (jI (q))), (2, .int (jI (v))), (3, .int (jI (d))), (4, .int (jI (w))), (5, .int (jI (k)))] := hl
  refine lv_iload_n S.1 S.2.1 dX10_back_0 rfl (lv_at hl 2 rfl) ?_
  refine z_ri (z_rS S hK (c_X10_noVillage l E v (by omega)) gX10_back_X10_noVillage rfl hs_X10_noVillage ⟨Nat.le_of_ble_eq_true rfl, Nat.le_of_ble_eq_true rfl⟩ trivial hl.1 rfl (Nat.le_of_ble_eq_true rfl) ⟨by decide, by decide⟩ rfl dX10_back_1) (fun r_1 h_1 => ?_)
  refine z_if_ne (tgt := 22) S dX10_back_4 (by decide) (by omega) (fun c_4 => ?_) (fun c_4 => ?_)
  · skip
    refine z_iconst S dX10_back_22 ?_
    exact hQ (-1) ((can, fw)) _ _ (Or.inl ⟨by omega, rfl⟩) hP hD hS _ _ dX10_back_23
  · skip
    refine lv_iload S.1 S.2.1 dX10_back_7 (lv_at hl 5 rfl) ?_
    refine z_i2l S (by omega) dX10_back_9 ?_
    refine z_ldc2 (n := -1) S q_X10_back_1 (by decide +kernel) dX10_back_10 ?_
    refine z_ldc2 (n := 2) S q_X10_back_2 (by decide +kernel) dX10_back_13 ?_
    refine z_ri (z_rS S hK (c_X10_in l E k (-1) 2 (by omega) (by omega) (by omega)) gX10_back_X10_in rfl hs_X10_in ⟨Nat.le_of_ble_eq_true rfl, Nat.le_of_ble_eq_true rfl⟩ trivial hl.1 rfl (Nat.le_of_ble_eq_true rfl) ⟨by decide, by decide⟩ rfl dX10_back_16) (fun r_16 h_16 => ?_)
    refine z_if_ne (tgt := 24) S dX10_back_19 (by decide) (by omega) (fun c_19 => ?_) (fun c_19 => ?_)
    · skip
      refine lv_iload_n S.1 S.2.1 dX10_back_24 rfl (lv_at hl 1 rfl) ?_
      refine z_i2l S (by omega) dX10_back_25 ?_
      refine z_lconst (z := 0) S (by decide +kernel) dX10_back_26 ?_
      refine z_ldc2 (n := 999) S q_X10_back_3 (by decide +kernel) dX10_back_27 ?_
      refine z_ri (z_rS S hK (c_X10_in l E q 0 999 (by omega) (by omega) (by omega)) gX10_back_X10_in rfl hs_X10_in ⟨Nat.le_of_ble_eq_true rfl, Nat.le_of_ble_eq_true rfl⟩ trivial hl.1 rfl (Nat.le_of_ble_eq_true rfl) ⟨by decide, by decide⟩ rfl dX10_back_30) (fun r_30 h_30 => ?_)
      refine z_if_eq (tgt := 51) S dX10_back_33 (by decide) (by omega) (fun c_33 => ?_) (fun c_33 => ?_)
      · skip
        refine z_bipush S (by decide +kernel) dX10_back_51 ?_
        exact hQ (-2) ((can, fw)) _ _ (Or.inr ⟨by omega, Or.inl ⟨by omega, rfl⟩⟩) hP hD hS _ _ dX10_back_53
      · skip
        refine lv_iload_n S.1 S.2.1 dX10_back_36 rfl (lv_at hl 3 rfl) ?_
        refine z_ri (z_rS S hK (c_X10_isDay l E d (by omega)) gX10_back_X10_isDay rfl hs_X10_isDay ⟨Nat.le_of_ble_eq_true rfl, Nat.le_of_ble_eq_true rfl⟩ trivial hl.1 rfl (Nat.le_of_ble_eq_true rfl) ⟨by decide, by decide⟩ rfl dX10_back_37) (fun r_37 h_37 => ?_)
        refine z_if_eq (tgt := 51) S dX10_back_40 (by decide) (by omega) (fun c_40 => ?_) (fun c_40 => ?_)
        · skip
          refine z_bipush S (by decide +kernel) dX10_back_51 ?_
          exact hQ (-2) ((can, fw)) _ _ (Or.inr ⟨by omega, Or.inl ⟨by omega, rfl⟩⟩) hP hD hS _ _ dX10_back_53
        · skip
          refine lv_iload S.1 S.2.1 dX10_back_43 (lv_at hl 4 rfl) ?_
          refine z_ri (z_rS S hK (c_X10_isFew l E w (by omega)) gX10_back_X10_isFew rfl hs_X10_isFew ⟨Nat.le_of_ble_eq_true rfl, Nat.le_of_ble_eq_true rfl⟩ trivial hl.1 rfl (Nat.le_of_ble_eq_true rfl) ⟨by decide, by decide⟩ rfl dX10_back_45) (fun r_45 h_45 => ?_)
          refine z_if_ne (tgt := 54) S dX10_back_48 (by decide) (by omega) (fun c_48 => ?_) (fun c_48 => ?_)
          · skip
            refine z_bipush S (by decide +kernel) dX10_back_54 ?_
            refine lv_istore (lv' := [(6, .int (jI (-9))), (0, .ref (ad 0)), (1, .int (jI (q))), (2, .int (jI (v))), (3, .int (jI (d))), (4, .int (jI (w))), (5, .int (jI (k)))]) S.1 S.2.1 dX10_back_56 hl (by decide) rfl (fun ls hl => ?_)
            refine z_iconst S dX10_back_58 ?_
            refine lv_istore (lv' := [(7, .int (jI (0))), (6, .int (jI (-9))), (0, .ref (ad 0)), (1, .int (jI (q))), (2, .int (jI (v))), (3, .int (jI (d))), (4, .int (jI (w))), (5, .int (jI (k)))]) S.1 S.2.1 dX10_back_59 hl (by decide) rfl (fun ls hl => ?_)
            refine z_iconst S dX10_back_61 ?_
            refine lv_istore (lv' := [(8, .int (jI (0))), (7, .int (jI (0))), (6, .int (jI (-9))), (0, .ref (ad 0)), (1, .int (jI (q))), (2, .int (jI (v))), (3, .int (jI (d))), (4, .int (jI (w))), (5, .int (jI (k)))]) S.1 S.2.1 dX10_back_62 hl (by decide) rfl (fun ls hl => ?_)
            suffices HL_1 : ∀ (n_2 : Nat) (row : Int) (best : Int) (br : Int) (g1 : Int → Int) (g2 : Int → Int), (1331 - row).toNat < n_2 → (0 ≤ row ∧ row ≤ 1331) → (-9 ≤ best ∧ best < 1024 ∧ 0 ≤ br ∧ br < 1331) → (zBackI (zWk nb (fun x => zlive kd vl fr tl x v d) (zCan nb (fun x => zlive kd vl fr tl x v d) ppl) ppl w q) row best br) → ∀ (H : Heap) (locs : List Loc), zP E (mW E ad flt ppl kd vl nb fr tl rA rP rk rv rn rf rt g1 g2 fs ss sl sh hd tr) H → va_D A (mW E ad flt ppl kd vl nb fr tl rA rP rk rv rn rf rt g1 g2 fs ss sl sh hd tr) → va_S A s.heap H locs → ∀ (ls : Array Slot), lv_has ls 10 [(8, .int (jI (row))), (6, .int (jI (best))), (7, .int (jI (br))), (0, .ref (ad 0)), (1, .int (jI (q))), (2, .int (jI (v))), (3, .int (jI (d))), (4, .int (jI (w))), (5, .int (jI (k)))] → W p l e (zr 4 0 0) s m args below meth c H locs 0 0 Q (F0 m 64 ls []) from
              HL_1 _ 0 (-9) 0 can fw (Nat.lt_succ_self _) (by omega) (by omega) (zBackI_0) _ _ hP hD hS ls (lv_sub hl [0, 2, 1, 3, 4, 5, 6, 7, 8] rfl)
            intro n_2
            induction n_2 with
            | zero => intro row best br g1 g2 hm hrow hbr hB; exact absurd hm (Nat.not_lt_zero _)
            | succ n_2 ih_3 =>
              intro row best br g1 g2 hm hrow hbr hB H locs hP hD hS ls hl
              refine lv_iload S.1 S.2.1 dX10_back_64 (lv_at hl 0 rfl) ?_
              refine z_sipush S (by decide +kernel) dX10_back_66 ?_
              refine z_icmp_ge (tgt := 133) S dX10_back_69 (by decide) (by omega) (fun c_69 => ?_) (fun c_69 => ?_)
              · skip
                have hsg := zBackI_sg hB (by omega)
                refine lv_iload S.1 S.2.1 dX10_back_133 (lv_at hl 1 rfl) ?_
                refine z_if_ge (tgt := 141) S dX10_back_135 (by decide) (by omega) (fun c_135 => ?_) (fun c_135 => ?_)
                · skip
                  have hb5 : (0 ≤ best ∧ best < 1024) ∧ zpop best = zlen br := hsg.elim (fun z => absurd z.1 (by omega)) (fun z => ⟨z.1, z.2.1⟩)
                  have hlen := zlen_rng br
                  refine lv_iload S.1 S.2.1 dX10_back_141 (lv_at hl 1 rfl) ?_
                  refine z_ri (z_rS S hK (c_X10_bits l E best (by omega)) gX10_back_X10_bits rfl hs_X10_bits ⟨Nat.le_of_ble_eq_true rfl, Nat.le_of_ble_eq_true rfl⟩ trivial hl.1 rfl (Nat.le_of_ble_eq_true rfl) ⟨by decide, by decide⟩ rfl dX10_back_143) (fun r_143 h_143 => ?_)
                  refine lv_istore (lv' := [(8, .int (jI (r_143))), (6, .int (jI (best))), (7, .int (jI (br))), (0, .ref (ad 0)), (1, .int (jI (q))), (2, .int (jI (v))), (3, .int (jI (d))), (4, .int (jI (w))), (5, .int (jI (k)))]) S.1 S.2.1 dX10_back_146 hl (by decide) rfl (fun ls hl => ?_)
                  refine lv_iload S.1 S.2.1 dX10_back_148 (lv_at hl 8 rfl) ?_
                  refine z_if_ge (tgt := 158) S dX10_back_150 (by decide) (by omega) (fun c_150 => ?_) (fun c_150 => ?_)
                  · skip
                    refine lv_iload S.1 S.2.1 dX10_back_158 (lv_at hl 8 rfl) ?_
                    refine lv_iload S.1 S.2.1 dX10_back_160 (lv_at hl 0 rfl) ?_
                    refine z_icmp_lt (tgt := 170) S dX10_back_162 (by decide) (by omega) (fun c_162 => ?_) (fun c_162 => ?_)
                    · skip
                      refine lv_iload S.1 S.2.1 dX10_back_170 (lv_at hl 8 rfl) ?_
                      refine z_if_ne (tgt := 183) S dX10_back_172 (by decide) (by omega) (fun c_172 => ?_) (fun c_172 => ?_)
                      · skip
                        refine lv_iload S.1 S.2.1 dX10_back_183 (lv_at hl 8 rfl) ?_
                        refine z_iconst S dX10_back_185 ?_
                        refine z_icmp_ne (tgt := 200) S dX10_back_186 (by decide) (by omega) (fun c_186 => ?_) (fun c_186 => ?_)
                        · skip
                          refine lv_iload S.1 S.2.1 dX10_back_200 (lv_at hl 2 rfl) ?_
                          refine z_bipush S (by decide +kernel) dX10_back_202 ?_
                          refine z_irem S (by omega) (by omega) dX10_back_204 ?_
                          exact hQ (br % 11) ((g1, g2)) _ _ (Or.inr ⟨by omega, Or.inr ⟨by omega, Or.inr ⟨br, zBackI_end (by have e : row = 1331 := (by omega); subst e; exact hB) (by omega), by have q1 := hlen.1; first | exact Or.inl ⟨by omega, by omega⟩ | exact Or.inr (Or.inl ⟨by omega, by omega, rfl⟩) | exact Or.inr (Or.inr ⟨by omega, by unfold zda zdb zdc; omega⟩)⟩⟩⟩) hP hD hS _ _ dX10_back_205
                        · skip
                          refine lv_iload S.1 S.2.1 dX10_back_189 (lv_at hl 2 rfl) ?_
                          refine z_bipush S (by decide +kernel) dX10_back_191 ?_
                          refine z_idiv S (by omega) (by omega) dX10_back_193 ?_
                          refine z_bipush S (by decide +kernel) dX10_back_194 ?_
                          refine z_irem S (by omega) (by omega) dX10_back_196 ?_
                          refine z_goto (tgt := 205) S dX10_back_197 (by decide) ?_
                          exact hQ ((br / 11) % 11) ((g1, g2)) _ _ (Or.inr ⟨by omega, Or.inr ⟨by omega, Or.inr ⟨br, zBackI_end (by have e : row = 1331 := (by omega); subst e; exact hB) (by omega), by have q1 := hlen.1; first | exact Or.inl ⟨by omega, by omega⟩ | exact Or.inr (Or.inl ⟨by omega, by omega, rfl⟩) | exact Or.inr (Or.inr ⟨by omega, by unfold zda zdb zdc; omega⟩)⟩⟩⟩) hP hD hS _ _ dX10_back_205
                      · skip
                        refine lv_iload S.1 S.2.1 dX10_back_175 (lv_at hl 2 rfl) ?_
                        refine z_bipush S (by decide +kernel) dX10_back_177 ?_
                        refine z_idiv S (by omega) (by omega) dX10_back_179 ?_
                        refine z_goto (tgt := 205) S dX10_back_180 (by decide) ?_
                        exact hQ (br / 121) ((g1, g2)) _ _ (Or.inr ⟨by omega, Or.inr ⟨by omega, Or.inr ⟨br, zBackI_end (by have e : row = 1331 := (by omega); subst e; exact hB) (by omega), by have q1 := hlen.1; first | exact Or.inl ⟨by omega, by omega⟩ | exact Or.inr (Or.inl ⟨by omega, by omega, rfl⟩) | exact Or.inr (Or.inr ⟨by omega, by unfold zda zdb zdc; omega⟩)⟩⟩⟩) hP hD hS _ _ dX10_back_205
                    · skip
                      refine z_bipush S (by decide +kernel) dX10_back_165 ?_
                      refine z_goto (tgt := 205) S dX10_back_167 (by decide) ?_
                      exact hQ (-9) ((g1, g2)) _ _ (Or.inr ⟨by omega, Or.inr ⟨by omega, Or.inr ⟨br, zBackI_end (by have e : row = 1331 := (by omega); subst e; exact hB) (by omega), by have q1 := hlen.1; first | exact Or.inl ⟨by omega, by omega⟩ | exact Or.inr (Or.inl ⟨by omega, by omega, rfl⟩) | exact Or.inr (Or.inr ⟨by omega, by unfold zda zdb zdc; omega⟩)⟩⟩⟩) hP hD hS _ _ dX10_back_205
                  · skip
                    refine lv_iload S.1 S.2.1 dX10_back_153 (lv_at hl 0 rfl) ?_
                    refine z_goto (tgt := 205) S dX10_back_155 (by decide) ?_
                    exact hQ (r_143) ((g1, g2)) _ _ (Or.inr ⟨by omega, Or.inr ⟨by omega, Or.inr ⟨br, zBackI_end (by have e : row = 1331 := (by omega); subst e; exact hB) (by omega), by have q1 := hlen.1; first | exact Or.inl ⟨by omega, by omega⟩ | exact Or.inr (Or.inl ⟨by omega, by omega, rfl⟩) | exact Or.inr (Or.inr ⟨by omega, by unfold zda zdb zdc; omega⟩)⟩⟩⟩) hP hD hS _ _ dX10_back_205
                · skip
                  refine z_bipush S (by decide +kernel) dX10_back_138 ?_
                  exact hQ (-9) ((g1, g2)) _ _ (Or.inr ⟨by omega, Or.inr ⟨by omega, Or.inl ⟨fun y q1 q2 => (hsg.elim (fun z => z.2) (fun z => absurd z.1 (by omega))) y q1 (by omega), rfl⟩⟩⟩) hP hD hS _ _ dX10_back_140
              · skip
                have hsg := zBackI_sg hB (by omega)
                refine lv_aload_n S.1 S.2.1 dX10_back_72 rfl (lv_at hl 3 rfl) ?_
                refine lv_iload S.1 S.2.1 dX10_back_73 (lv_at hl 0 rfl) ?_
                refine lv_iload_n S.1 S.2.1 dX10_back_75 rfl (lv_at hl 5 rfl) ?_
                refine lv_iload_n S.1 S.2.1 dX10_back_76 rfl (lv_at hl 6 rfl) ?_
                refine z_ri (z_rV S hK (c_X10_setOf l E ad flt ppl kd vl nb fr tl rA rP rk rv rn rf rt g1 g2 fs ss sl sh hd tr row v d (by omega) (by omega) (by omega) (by omega) (hpe)) gX10_back_X10_setOf rfl hv_X10_setOf ⟨Nat.le_of_ble_eq_true rfl, Nat.le_of_ble_eq_true rfl⟩ (va_recv hK hP (ci := 10) (q0 := 0) rfl rfl) hP hl.1 rfl (Nat.le_of_ble_eq_true rfl) ⟨by decide, by decide⟩ rfl dX10_back_77) (fun r_77 h_77 => ?_)
                have hzr : r_77 = -9 ∨ (0 ≤ r_77 ∧ r_77 < 1024) := h_77.elim (fun y => by have := (zset_facts (row := row) (by omega) y.1).1; omega) (fun y => Or.inl y.2)
                refine lv_istore (lv' := [(9, .int (jI (r_77))), (8, .int (jI (row))), (6, .int (jI (best))), (7, .int (jI (br))), (0, .ref (ad 0)), (1, .int (jI (q))), (2, .int (jI (v))), (3, .int (jI (d))), (4, .int (jI (w))), (5, .int (jI (k)))]) S.1 S.2.1 dX10_back_80 hl (by decide) rfl (fun ls hl => ?_)
                refine lv_iload S.1 S.2.1 dX10_back_82 (lv_at hl 0 rfl) ?_
                refine z_if_lt (tgt := 127) S dX10_back_84 (by decide) (by omega) (fun c_84 => ?_) (fun c_84 => ?_)
                · skip
                  refine z_iinc (lv' := [(8, .int (jI (row + 1))), (9, .int (jI (r_77))), (6, .int (jI (best))), (7, .int (jI (br))), (0, .ref (ad 0)), (1, .int (jI (q))), (2, .int (jI (v))), (3, .int (jI (d))), (4, .int (jI (w))), (5, .int (jI (k)))]) S hl (k := 1) rfl (by decide) rfl dX10_back_127 (fun ls hl => ?_)
                  refine z_goto (tgt := 64) S dX10_back_130 (by decide) ?_
                  exact ih_3 (row + 1) best br g1 g2 (by omega) (by omega) (by first | omega | (rw [hv2]; omega)) (by first | exact zBackI_no hB (fun z => (h_77.elim (fun y => absurd y.2 (by have := (zset_facts (row := row) (by omega) y.1).1; omega)) (fun y => y.1)) z.1) | exact zBackI_ge hB (by omega) (by omega) | exact zBackI_no hB (fun z => zB_f h_113 (by omega) (by rw [hv2]; exact z.2)) | (rw [hv2]; exact zBackI_new hB (by omega) ⟨hv1, by rw [← hv2]; exact zB_t h_113 (by omega)⟩ (by first | exact Or.inr (Or.inl (by omega)) | exact Or.inr (Or.inr (hsg.elim (fun z => z.2) (fun z => absurd z.1 (by omega))))))) _ _ hP hD hS ls (lv_sub hl [0, 2, 3, 4, 5, 6, 7, 8, 9] rfl)
                · skip
                  obtain ⟨hv1, hv2⟩ := h_77.elim id (fun y => absurd y.2 (by omega))
                  obtain ⟨hf1, hf2, hf3⟩ := zset_facts (row := row) (by omega) hv1
                  rw [← hv2] at hf1 hf2
                  refine lv_iload S.1 S.2.1 dX10_back_87 (lv_at hl 2 rfl) ?_
                  refine z_if_lt (tgt := 105) S dX10_back_89 (by decide) (by omega) (fun c_89 => ?_) (fun c_89 => ?_)
                  · skip
                    refine lv_aload_n S.1 S.2.1 dX10_back_105 rfl (lv_at hl 4 rfl) ?_
                    refine lv_iload_n S.1 S.2.1 dX10_back_106 rfl (lv_at hl 5 rfl) ?_
                    refine lv_iload_n S.1 S.2.1 dX10_back_107 rfl (lv_at hl 6 rfl) ?_
                    refine lv_iload_n S.1 S.2.1 dX10_back_108 rfl (lv_at hl 7 rfl) ?_
                    refine lv_iload S.1 S.2.1 dX10_back_109 (lv_at hl 8 rfl) ?_
                    refine lv_iload S.1 S.2.1 dX10_back_111 (lv_at hl 0 rfl) ?_
                    refine z_miw (z_mV S hK (c_X10_isSaidBy l E ad flt ppl kd vl nb fr tl rA rP rk rv rn rf rt g1 g2 fs ss sl sh hd tr q v d w r_77 (by omega) (by omega) (by omega) (by omega) (by omega) (by omega) (hpe) _) gX10_back_X10_isSaidBy rfl hv_X10_isSaidBy ⟨Nat.le_of_ble_eq_true rfl, Nat.le_of_ble_eq_true rfl⟩ (va_recv hK hP (ci := 10) (q0 := 0) rfl rfl) hP hD trivial hl.1 rfl (Nat.le_of_ble_eq_true rfl) ⟨by decide, by decide⟩ rfl dX10_back_113) hD hS hA (fun r_113 u H locs h_113 hP hD hS => ?_)
                    obtain ⟨u113_can, u113_fw⟩ := u
                    try dsimp only at h_113
                    have hP : zP E (mW E ad flt ppl kd vl nb fr tl rA rP rk rv rn rf rt u113_can u113_fw fs ss sl sh hd tr) H := hP
                    have hD : va_D A (mW E ad flt ppl kd vl nb fr tl rA rP rk rv rn rf rt u113_can u113_fw fs ss sl sh hd tr) := hD
                    refine z_if_eq (tgt := 127) S dX10_back_116 (by decide) (by omega) (fun c_116 => ?_) (fun c_116 => ?_)
                    · skip
                      refine z_iinc (lv' := [(8, .int (jI (row + 1))), (9, .int (jI (r_77))), (6, .int (jI (best))), (7, .int (jI (br))), (0, .ref (ad 0)), (1, .int (jI (q))), (2, .int (jI (v))), (3, .int (jI (d))), (4, .int (jI (w))), (5, .int (jI (k)))]) S hl (k := 1) rfl (by decide) rfl dX10_back_127 (fun ls hl => ?_)
                      refine z_goto (tgt := 64) S dX10_back_130 (by decide) ?_
                      exact ih_3 (row + 1) best br u113_can u113_fw (by omega) (by omega) (by first | omega | (rw [hv2]; omega)) (by first | exact zBackI_no hB (fun z => (h_77.elim (fun y => absurd y.2 (by have := (zset_facts (row := row) (by omega) y.1).1; omega)) (fun y => y.1)) z.1) | exact zBackI_ge hB (by omega) (by omega) | exact zBackI_no hB (fun z => zB_f h_113 (by omega) (by rw [hv2]; exact z.2)) | (rw [hv2]; exact zBackI_new hB (by omega) ⟨hv1, by rw [← hv2]; exact zB_t h_113 (by omega)⟩ (by first | exact Or.inr (Or.inl (by omega)) | exact Or.inr (Or.inr (hsg.elim (fun z => z.2) (fun z => absurd z.1 (by omega))))))) _ _ hP hD hS ls (lv_sub hl [0, 2, 3, 4, 5, 6, 7, 8, 9] rfl)
                    · skip
                      refine lv_iload S.1 S.2.1 dX10_back_119 (lv_at hl 0 rfl) ?_
                      refine lv_istore (lv' := [(6, .int (jI (r_77))), (9, .int (jI (r_77))), (8, .int (jI (row))), (7, .int (jI (br))), (0, .ref (ad 0)), (1, .int (jI (q))), (2, .int (jI (v))), (3, .int (jI (d))), (4, .int (jI (w))), (5, .int (jI (k)))]) S.1 S.2.1 dX10_back_121 hl (by decide) rfl (fun ls hl => ?_)
                      refine lv_iload S.1 S.2.1 dX10_back_123 (lv_at hl 2 rfl) ?_
                      refine lv_istore (lv' := [(7, .int (jI (row))), (6, .int (jI (r_77))), (9, .int (jI (r_77))), (8, .int (jI (row))), (0, .ref (ad 0)), (1, .int (jI (q))), (2, .int (jI (v))), (3, .int (jI (d))), (4, .int (jI (w))), (5, .int (jI (k)))]) S.1 S.2.1 dX10_back_125 hl (by decide) rfl (fun ls hl => ?_)
                      refine z_iinc (lv' := [(8, .int (jI (row + 1))), (7, .int (jI (row))), (6, .int (jI (r_77))), (9, .int (jI (r_77))), (0, .ref (ad 0)), (1, .int (jI (q))), (2, .int (jI (v))), (3, .int (jI (d))), (4, .int (jI (w))), (5, .int (jI (k)))]) S hl (k := 3) rfl (by decide) rfl dX10_back_127 (fun ls hl => ?_)
                      refine z_goto (tgt := 64) S dX10_back_130 (by decide) ?_
                      exact ih_3 (row + 1) r_77 row u113_can u113_fw (by omega) (by omega) (by first | omega | (rw [hv2]; omega)) (by first | exact zBackI_no hB (fun z => (h_77.elim (fun y => absurd y.2 (by have := (zset_facts (row := row) (by omega) y.1).1; omega)) (fun y => y.1)) z.1) | exact zBackI_ge hB (by omega) (by omega) | exact zBackI_no hB (fun z => zB_f h_113 (by omega) (by rw [hv2]; exact z.2)) | (rw [hv2]; exact zBackI_new hB (by omega) ⟨hv1, by rw [← hv2]; exact zB_t h_113 (by omega)⟩ (by first | exact Or.inr (Or.inl (by omega)) | exact Or.inr (Or.inr (hsg.elim (fun z => z.2) (fun z => absurd z.1 (by omega))))))) _ _ hP hD hS ls (lv_sub hl [0, 2, 1, 4, 5, 6, 7, 8, 9] rfl)
                  · skip
                    refine lv_iload S.1 S.2.1 dX10_back_92 (lv_at hl 0 rfl) ?_
                    refine z_ri (z_rS S hK (c_X10_bits l E r_77 (by omega)) gX10_back_X10_bits rfl hs_X10_bits ⟨Nat.le_of_ble_eq_true rfl, Nat.le_of_ble_eq_true rfl⟩ trivial hl.1 rfl (Nat.le_of_ble_eq_true rfl) ⟨by decide, by decide⟩ rfl dX10_back_94) (fun r_94 h_94 => ?_)
                    have hz94 := zpop_rng (s := r_77) (by omega)
                    refine lv_iload S.1 S.2.1 dX10_back_97 (lv_at hl 2 rfl) ?_
                    refine z_ri (z_rS S hK (c_X10_bits l E best (by omega)) gX10_back_X10_bits rfl hs_X10_bits ⟨Nat.le_of_ble_eq_true rfl, Nat.le_of_ble_eq_true rfl⟩ trivial hl.1 rfl (Nat.le_of_ble_eq_true rfl) ⟨by decide, by decide⟩ rfl dX10_back_99) (fun r_99 h_99 => ?_)
                    have hz99 := zpop_rng (s := best) (by omega)
                    have hsg2 : zpop best = zlen br := hsg.elim (fun z => absurd z.1 (by omega)) (fun z => z.2.1)
                    refine z_icmp_ge (tgt := 127) S dX10_back_102 (by decide) (by omega) (fun c_102 => ?_) (fun c_102 => ?_)
                    · skip
                      refine z_iinc (lv' := [(8, .int (jI (row + 1))), (9, .int (jI (r_77))), (6, .int (jI (best))), (7, .int (jI (br))), (0, .ref (ad 0)), (1, .int (jI (q))), (2, .int (jI (v))), (3, .int (jI (d))), (4, .int (jI (w))), (5, .int (jI (k)))]) S hl (k := 1) rfl (by decide) rfl dX10_back_127 (fun ls hl => ?_)
                      refine z_goto (tgt := 64) S dX10_back_130 (by decide) ?_
                      exact ih_3 (row + 1) best br g1 g2 (by omega) (by omega) (by first | omega | (rw [hv2]; omega)) (by first | exact zBackI_no hB (fun z => (h_77.elim (fun y => absurd y.2 (by have := (zset_facts (row := row) (by omega) y.1).1; omega)) (fun y => y.1)) z.1) | exact zBackI_ge hB (by omega) (by omega) | exact zBackI_no hB (fun z => zB_f h_113 (by omega) (by rw [hv2]; exact z.2)) | (rw [hv2]; exact zBackI_new hB (by omega) ⟨hv1, by rw [← hv2]; exact zB_t h_113 (by omega)⟩ (by first | exact Or.inr (Or.inl (by omega)) | exact Or.inr (Or.inr (hsg.elim (fun z => z.2) (fun z => absurd z.1 (by omega))))))) _ _ hP hD hS ls (lv_sub hl [0, 2, 3, 4, 5, 6, 7, 8, 9] rfl)
                    · skip
                      refine lv_aload_n S.1 S.2.1 dX10_back_105 rfl (lv_at hl 4 rfl) ?_
                      refine lv_iload_n S.1 S.2.1 dX10_back_106 rfl (lv_at hl 5 rfl) ?_
                      refine lv_iload_n S.1 S.2.1 dX10_back_107 rfl (lv_at hl 6 rfl) ?_
                      refine lv_iload_n S.1 S.2.1 dX10_back_108 rfl (lv_at hl 7 rfl) ?_
                      refine lv_iload S.1 S.2.1 dX10_back_109 (lv_at hl 8 rfl) ?_
                      refine lv_iload S.1 S.2.1 dX10_back_111 (lv_at hl 0 rfl) ?_
                      refine z_miw (z_mV S hK (c_X10_isSaidBy l E ad flt ppl kd vl nb fr tl rA rP rk rv rn rf rt g1 g2 fs ss sl sh hd tr q v d w r_77 (by omega) (by omega) (by omega) (by omega) (by omega) (by omega) (hpe) _) gX10_back_X10_isSaidBy rfl hv_X10_isSaidBy ⟨Nat.le_of_ble_eq_true rfl, Nat.le_of_ble_eq_true rfl⟩ (va_recv hK hP (ci := 10) (q0 := 0) rfl rfl) hP hD trivial hl.1 rfl (Nat.le_of_ble_eq_true rfl) ⟨by decide, by decide⟩ rfl dX10_back_113) hD hS hA (fun r_113 u H locs h_113 hP hD hS => ?_)
                      obtain ⟨u113_can, u113_fw⟩ := u
                      try dsimp only at h_113
                      have hP : zP E (mW E ad flt ppl kd vl nb fr tl rA rP rk rv rn rf rt u113_can u113_fw fs ss sl sh hd tr) H := hP
                      have hD : va_D A (mW E ad flt ppl kd vl nb fr tl rA rP rk rv rn rf rt u113_can u113_fw fs ss sl sh hd tr) := hD
                      refine z_if_eq (tgt := 127) S dX10_back_116 (by decide) (by omega) (fun c_116 => ?_) (fun c_116 => ?_)
                      · skip
                        refine z_iinc (lv' := [(8, .int (jI (row + 1))), (9, .int (jI (r_77))), (6, .int (jI (best))), (7, .int (jI (br))), (0, .ref (ad 0)), (1, .int (jI (q))), (2, .int (jI (v))), (3, .int (jI (d))), (4, .int (jI (w))), (5, .int (jI (k)))]) S hl (k := 1) rfl (by decide) rfl dX10_back_127 (fun ls hl => ?_)
                        refine z_goto (tgt := 64) S dX10_back_130 (by decide) ?_
                        exact ih_3 (row + 1) best br u113_can u113_fw (by omega) (by omega) (by first | omega | (rw [hv2]; omega)) (by first | exact zBackI_no hB (fun z => (h_77.elim (fun y => absurd y.2 (by have := (zset_facts (row := row) (by omega) y.1).1; omega)) (fun y => y.1)) z.1) | exact zBackI_ge hB (by omega) (by omega) | exact zBackI_no hB (fun z => zB_f h_113 (by omega) (by rw [hv2]; exact z.2)) | (rw [hv2]; exact zBackI_new hB (by omega) ⟨hv1, by rw [← hv2]; exact zB_t h_113 (by omega)⟩ (by first | exact Or.inr (Or.inl (by omega)) | exact Or.inr (Or.inr (hsg.elim (fun z => z.2) (fun z => absurd z.1 (by omega))))))) _ _ hP hD hS ls (lv_sub hl [0, 2, 3, 4, 5, 6, 7, 8, 9] rfl)
                      · skip
                        refine lv_iload S.1 S.2.1 dX10_back_119 (lv_at hl 0 rfl) ?_
                        refine lv_istore (lv' := [(6, .int (jI (r_77))), (9, .int (jI (r_77))), (8, .int (jI (row))), (7, .int (jI (br))), (0, .ref (ad 0)), (1, .int (jI (q))), (2, .int (jI (v))), (3, .int (jI (d))), (4, .int (jI (w))), (5, .int (jI (k)))]) S.1 S.2.1 dX10_back_121 hl (by decide) rfl (fun ls hl => ?_)
                        refine lv_iload S.1 S.2.1 dX10_back_123 (lv_at hl 2 rfl) ?_
                        refine lv_istore (lv' := [(7, .int (jI (row))), (6, .int (jI (r_77))), (9, .int (jI (r_77))), (8, .int (jI (row))), (0, .ref (ad 0)), (1, .int (jI (q))), (2, .int (jI (v))), (3, .int (jI (d))), (4, .int (jI (w))), (5, .int (jI (k)))]) S.1 S.2.1 dX10_back_125 hl (by decide) rfl (fun ls hl => ?_)
                        refine z_iinc (lv' := [(8, .int (jI (row + 1))), (7, .int (jI (row))), (6, .int (jI (r_77))), (9, .int (jI (r_77))), (0, .ref (ad 0)), (1, .int (jI (q))), (2, .int (jI (v))), (3, .int (jI (d))), (4, .int (jI (w))), (5, .int (jI (k)))]) S hl (k := 3) rfl (by decide) rfl dX10_back_127 (fun ls hl => ?_)
                        refine z_goto (tgt := 64) S dX10_back_130 (by decide) ?_
                        exact ih_3 (row + 1) r_77 row u113_can u113_fw (by omega) (by omega) (by first | omega | (rw [hv2]; omega)) (by first | exact zBackI_no hB (fun z => (h_77.elim (fun y => absurd y.2 (by have := (zset_facts (row := row) (by omega) y.1).1; omega)) (fun y => y.1)) z.1) | exact zBackI_ge hB (by omega) (by omega) | exact zBackI_no hB (fun z => zB_f h_113 (by omega) (by rw [hv2]; exact z.2)) | (rw [hv2]; exact zBackI_new hB (by omega) ⟨hv1, by rw [← hv2]; exact zB_t h_113 (by omega)⟩ (by first | exact Or.inr (Or.inl (by omega)) | exact Or.inr (Or.inr (hsg.elim (fun z => z.2) (fun z => absurd z.1 (by omega))))))) _ _ hP hD hS ls (lv_sub hl [0, 2, 1, 4, 5, 6, 7, 8, 9] rfl)
          · skip
            refine z_bipush S (by decide +kernel) dX10_back_51 ?_
            exact hQ (-2) ((can, fw)) _ _ (Or.inr ⟨by omega, Or.inl ⟨by omega, rfl⟩⟩) hP hD hS _ _ dX10_back_53
    · skip
      refine z_iconst S dX10_back_22 ?_
      exact hQ (-1) ((can, fw)) _ _ (Or.inl ⟨by omega, rfl⟩) hP hD hS _ _ dX10_back_23

set_option maxHeartbeats 1000000 in
set_option maxRecDepth 20000 in
theorem c_X10_child (l : Launch) (E : zE) (ad : Nat → Nat) (flt ppl : Int) (kd vl nb fr tl : Int → Int) (rA rP : Int) (rk rv rn rf rt can fw fs ss sl sh hd : Int → Int) (tr : Int) (v : Int) (d : Int) (w : Int) (k : Int) (lane : Int) (i : Int) (n : Int) (what : Int) (h_v : -2147483648 ≤ v ∧ v ≤ 2147483647) (h_d : -2147483648 ≤ d ∧ d ≤ 2147483647) (h_w : -2147483648 ≤ w ∧ w ≤ 2147483647) (h_k : -2147483648 ≤ k ∧ k ≤ 2147483647) (h_lane : -2147483648 ≤ lane ∧ lane ≤ 2147483647) (h_i : -2147483648 ≤ i ∧ i ≤ 2147483647) (h_n : -2147483648 ≤ n ∧ n ≤ 2147483647) (h_what : -2147483648 ≤ what ∧ what ≤ 2147483647) (hp : 0 ≤ ppl ∧ ppl ≤ 10) (hpe : zPeo ppl kd vl nb fr tl) (hsh : zShe ss sl) (hcr : zRg sh) : zMi l E yX10_child wsX10_child (zr 5 0 0) [.ref (ad 0), .int (jI (v)), .int (jI (d)), .int (jI (w)), .int (jI (k)), .int (jI (lane)), .int (jI (i)), .int (jI (n)), .int (jI (what))] (mW E ad flt ppl kd vl nb fr tl rA rP rk rv rn rf rt can fw fs ss sl sh hd tr) (fun _ => True) (fun r (u : Int × ((Int → Int) × (Int → Int))) => zA_child ppl kd vl nb fr tl ss sl sh v d w k lane i n what r u.1) (fun (u : Int × ((Int → Int) × (Int → Int))) => mW E ad u.1 ppl kd vl nb fr tl rA rP rk rv rn rf rt u.2.1 u.2.2 fs ss sl sh hd tr) 0 0 := by
  refine zMi_of (own := RX10) (cc := cX10_child) (maxL := 16) (by decide) rfl (Nat.le_of_ble_eq_true rfl) rfl ?_
  intro p e s m args below meth c Q A S hK hA hS hP hD hAe hG hQ ls hl
  have hl : lv_has ls 16 [(0, .ref (ad 0)), (1, .int (jI (v))), (2, .int (jI (d))), (3, .int (jI (w))), (4, .int (jI (k))), (5, .int (jI (lane))), (6, .int (jI (i))), (7, .int (jI (n))), (8, .int (jI (what)))] := hl
  refine lv_iload_n S.1 S.2.1 dX10_child_0 rfl (lv_at hl 1 rfl) ?_
  refine z_ri (z_rS S hK (c_X10_noVillage l E v (by omega)) gX10_child_X10_noVillage rfl hs_X10_noVillage ⟨Nat.le_of_ble_eq_true rfl, Nat.le_of_ble_eq_true rfl⟩ trivial hl.1 rfl (Nat.le_of_ble_eq_true rfl) ⟨by decide, by decide⟩ rfl dX10_child_1) (fun r_1 h_1 => ?_)
  refine z_if_eq (tgt := 13) S dX10_child_4 (by decide) (by omega) (fun c_4 => ?_) (fun c_4 => ?_)
  · skip
    refine lv_aload_n S.1 S.2.1 dX10_child_13 rfl (lv_at hl 0 rfl) ?_
    refine lv_iload S.1 S.2.1 dX10_child_14 (lv_at hl 4 rfl) ?_
    refine lv_iload S.1 S.2.1 dX10_child_16 (lv_at hl 5 rfl) ?_
    refine lv_iload S.1 S.2.1 dX10_child_18 (lv_at hl 6 rfl) ?_
    refine lv_iload S.1 S.2.1 dX10_child_20 (lv_at hl 7 rfl) ?_
    refine z_i2l S (by omega) dX10_child_22 ?_
    refine lv_iload_n S.1 S.2.1 dX10_child_23 rfl (lv_at hl 2 rfl) ?_
    refine z_ri (z_rS S hK (c_X10_isDay l E d (by omega)) gX10_child_X10_isDay rfl hs_X10_isDay ⟨Nat.le_of_ble_eq_true rfl, Nat.le_of_ble_eq_true rfl⟩ trivial hl.1 rfl (Nat.le_of_ble_eq_true rfl) ⟨by decide, by decide⟩ rfl dX10_child_24) (fun r_24 h_24 => ?_)
    refine z_if_eq (tgt := 52) S dX10_child_27 (by decide) (by omega) (fun c_27 => ?_) (fun c_27 => ?_)
    · skip
      refine z_iconst S dX10_child_52 ?_
      refine z_miw (z_mV S hK (c_X10_barred l E ad flt ppl kd vl nb fr tl rA rP rk rv rn rf rt can fw fs ss sl sh hd tr k lane i n 0 (by omega) (by omega) (by omega) (by omega) (by omega) (hsh) _) gX10_child_X10_barred rfl hv_X10_barred ⟨Nat.le_of_ble_eq_true rfl, Nat.le_of_ble_eq_true rfl⟩ (va_recv hK hP (ci := 10) (q0 := 0) rfl rfl) hP hD trivial hl.1 rfl (Nat.le_of_ble_eq_true rfl) ⟨by decide, by decide⟩ rfl dX10_child_53) hD hS hA (fun r_53 u H locs h_53 hP hD hS => ?_)
      obtain ⟨u53_flt, u53_flt_e⟩ : ∃ z, z = u := ⟨_, rfl⟩
      subst u53_flt_e
      try dsimp only at h_53
      have hP : zP E (mW E ad u53_flt ppl kd vl nb fr tl rA rP rk rv rn rf rt can fw fs ss sl sh hd tr) H := hP
      have hD : va_D A (mW E ad u53_flt ppl kd vl nb fr tl rA rP rk rv rn rf rt can fw fs ss sl sh hd tr) := hD
      have h_53b := zBar_r2 h_53
      refine lv_istore (lv' := [(9, .int (jI (r_53))), (0, .ref (ad 0)), (1, .int (jI (v))), (2, .int (jI (d))), (3, .int (jI (w))), (4, .int (jI (k))), (5, .int (jI (lane))), (6, .int (jI (i))), (7, .int (jI (n))), (8, .int (jI (what)))]) S.1 S.2.1 dX10_child_56 hl (by decide) rfl (fun ls hl => ?_)
      refine lv_iload S.1 S.2.1 dX10_child_58 (lv_at hl 0 rfl) ?_
      refine z_if_ge (tgt := 66) S dX10_child_60 (by decide) (by omega) (fun c_60 => ?_) (fun c_60 => ?_)
      · exact absurd rfl (zBar_ok (h_53.elim (fun q => absurd q.1 (by omega)) (fun q => q.2.1)))
      · skip
        refine lv_iload S.1 S.2.1 dX10_child_63 (lv_at hl 0 rfl) ?_
        exact hQ (r_53) ((u53_flt, (can, fw))) _ _ (Or.inr ⟨by omega, _, _, zBar_cong (h_53.elim (fun q => q.2) (fun q => absurd q.1 (by omega))) (by omega), Or.inl ⟨by omega, rfl, rfl⟩⟩) hP hD hS _ _ dX10_child_65
    · skip
      refine lv_iload_n S.1 S.2.1 dX10_child_30 rfl (lv_at hl 3 rfl) ?_
      refine z_ri (z_rS S hK (c_X10_isFew l E w (by omega)) gX10_child_X10_isFew rfl hs_X10_isFew ⟨Nat.le_of_ble_eq_true rfl, Nat.le_of_ble_eq_true rfl⟩ trivial hl.1 rfl (Nat.le_of_ble_eq_true rfl) ⟨by decide, by decide⟩ rfl dX10_child_31) (fun r_31 h_31 => ?_)
      refine z_if_eq (tgt := 52) S dX10_child_34 (by decide) (by omega) (fun c_34 => ?_) (fun c_34 => ?_)
      · skip
        refine z_iconst S dX10_child_52 ?_
        refine z_miw (z_mV S hK (c_X10_barred l E ad flt ppl kd vl nb fr tl rA rP rk rv rn rf rt can fw fs ss sl sh hd tr k lane i n 0 (by omega) (by omega) (by omega) (by omega) (by omega) (hsh) _) gX10_child_X10_barred rfl hv_X10_barred ⟨Nat.le_of_ble_eq_true rfl, Nat.le_of_ble_eq_true rfl⟩ (va_recv hK hP (ci := 10) (q0 := 0) rfl rfl) hP hD trivial hl.1 rfl (Nat.le_of_ble_eq_true rfl) ⟨by decide, by decide⟩ rfl dX10_child_53) hD hS hA (fun r_53 u H locs h_53 hP hD hS => ?_)
        obtain ⟨u53_flt, u53_flt_e⟩ : ∃ z, z = u := ⟨_, rfl⟩
        subst u53_flt_e
        try dsimp only at h_53
        have hP : zP E (mW E ad u53_flt ppl kd vl nb fr tl rA rP rk rv rn rf rt can fw fs ss sl sh hd tr) H := hP
        have hD : va_D A (mW E ad u53_flt ppl kd vl nb fr tl rA rP rk rv rn rf rt can fw fs ss sl sh hd tr) := hD
        have h_53b := zBar_r2 h_53
        refine lv_istore (lv' := [(9, .int (jI (r_53))), (0, .ref (ad 0)), (1, .int (jI (v))), (2, .int (jI (d))), (3, .int (jI (w))), (4, .int (jI (k))), (5, .int (jI (lane))), (6, .int (jI (i))), (7, .int (jI (n))), (8, .int (jI (what)))]) S.1 S.2.1 dX10_child_56 hl (by decide) rfl (fun ls hl => ?_)
        refine lv_iload S.1 S.2.1 dX10_child_58 (lv_at hl 0 rfl) ?_
        refine z_if_ge (tgt := 66) S dX10_child_60 (by decide) (by omega) (fun c_60 => ?_) (fun c_60 => ?_)
        · exact absurd rfl (zBar_ok (h_53.elim (fun q => absurd q.1 (by omega)) (fun q => q.2.1)))
        · skip
          refine lv_iload S.1 S.2.1 dX10_child_63 (lv_at hl 0 rfl) ?_
          exact hQ (r_53) ((u53_flt, (can, fw))) _ _ (Or.inr ⟨by omega, _, _, zBar_cong (h_53.elim (fun q => q.2) (fun q => absurd q.1 (by omega))) (by omega), Or.inl ⟨by omega, rfl, rfl⟩⟩) hP hD hS _ _ dX10_child_65
      · skip
        refine lv_iload S.1 S.2.1 dX10_child_37 (lv_at hl 8 rfl) ?_
        refine z_i2l S (by omega) dX10_child_39 ?_
        refine z_lconst (z := 0) S (by decide +kernel) dX10_child_40 ?_
        refine z_lconst (z := 1) S (by decide +kernel) dX10_child_41 ?_
        refine z_ri (z_rS S hK (c_X10_in l E what 0 1 (by omega) (by omega) (by omega)) gX10_child_X10_in rfl hs_X10_in ⟨Nat.le_of_ble_eq_true rfl, Nat.le_of_ble_eq_true rfl⟩ trivial hl.1 rfl (Nat.le_of_ble_eq_true rfl) ⟨by decide, by decide⟩ rfl dX10_child_42) (fun r_42 h_42 => ?_)
        refine z_if_eq (tgt := 52) S dX10_child_45 (by decide) (by omega) (fun c_45 => ?_) (fun c_45 => ?_)
        · skip
          refine z_iconst S dX10_child_52 ?_
          refine z_miw (z_mV S hK (c_X10_barred l E ad flt ppl kd vl nb fr tl rA rP rk rv rn rf rt can fw fs ss sl sh hd tr k lane i n 0 (by omega) (by omega) (by omega) (by omega) (by omega) (hsh) _) gX10_child_X10_barred rfl hv_X10_barred ⟨Nat.le_of_ble_eq_true rfl, Nat.le_of_ble_eq_true rfl⟩ (va_recv hK hP (ci := 10) (q0 := 0) rfl rfl) hP hD trivial hl.1 rfl (Nat.le_of_ble_eq_true rfl) ⟨by decide, by decide⟩ rfl dX10_child_53) hD hS hA (fun r_53 u H locs h_53 hP hD hS => ?_)
          obtain ⟨u53_flt, u53_flt_e⟩ : ∃ z, z = u := ⟨_, rfl⟩
          subst u53_flt_e
          try dsimp only at h_53
          have hP : zP E (mW E ad u53_flt ppl kd vl nb fr tl rA rP rk rv rn rf rt can fw fs ss sl sh hd tr) H := hP
          have hD : va_D A (mW E ad u53_flt ppl kd vl nb fr tl rA rP rk rv rn rf rt can fw fs ss sl sh hd tr) := hD
          have h_53b := zBar_r2 h_53
          refine lv_istore (lv' := [(9, .int (jI (r_53))), (0, .ref (ad 0)), (1, .int (jI (v))), (2, .int (jI (d))), (3, .int (jI (w))), (4, .int (jI (k))), (5, .int (jI (lane))), (6, .int (jI (i))), (7, .int (jI (n))), (8, .int (jI (what)))]) S.1 S.2.1 dX10_child_56 hl (by decide) rfl (fun ls hl => ?_)
          refine lv_iload S.1 S.2.1 dX10_child_58 (lv_at hl 0 rfl) ?_
          refine z_if_ge (tgt := 66) S dX10_child_60 (by decide) (by omega) (fun c_60 => ?_) (fun c_60 => ?_)
          · exact absurd rfl (zBar_ok (h_53.elim (fun q => absurd q.1 (by omega)) (fun q => q.2.1)))
          · skip
            refine lv_iload S.1 S.2.1 dX10_child_63 (lv_at hl 0 rfl) ?_
            exact hQ (r_53) ((u53_flt, (can, fw))) _ _ (Or.inr ⟨by omega, _, _, zBar_cong (h_53.elim (fun q => q.2) (fun q => absurd q.1 (by omega))) (by omega), Or.inl ⟨by omega, rfl, rfl⟩⟩) hP hD hS _ _ dX10_child_65
        · skip
          refine z_iconst S dX10_child_48 ?_
          refine z_goto (tgt := 53) S dX10_child_49 (by decide) ?_
          refine z_miw (z_mV S hK (c_X10_barred l E ad flt ppl kd vl nb fr tl rA rP rk rv rn rf rt can fw fs ss sl sh hd tr k lane i n 1 (by omega) (by omega) (by omega) (by omega) (by omega) (hsh) _) gX10_child_X10_barred rfl hv_X10_barred ⟨Nat.le_of_ble_eq_true rfl, Nat.le_of_ble_eq_true rfl⟩ (va_recv hK hP (ci := 10) (q0 := 0) rfl rfl) hP hD trivial hl.1 rfl (Nat.le_of_ble_eq_true rfl) ⟨by decide, by decide⟩ rfl dX10_child_53) hD hS hA (fun r_53 u H locs h_53 hP hD hS => ?_)
          obtain ⟨u53_flt, u53_flt_e⟩ : ∃ z, z = u := ⟨_, rfl⟩
          subst u53_flt_e
          try dsimp only at h_53
          have hP : zP E (mW E ad u53_flt ppl kd vl nb fr tl rA rP rk rv rn rf rt can fw fs ss sl sh hd tr) H := hP
          have hD : va_D A (mW E ad u53_flt ppl kd vl nb fr tl rA rP rk rv rn rf rt can fw fs ss sl sh hd tr) := hD
          have h_53b := zBar_r2 h_53
          refine lv_istore (lv' := [(9, .int (jI (r_53))), (0, .ref (ad 0)), (1, .int (jI (v))), (2, .int (jI (d))), (3, .int (jI (w))), (4, .int (jI (k))), (5, .int (jI (lane))), (6, .int (jI (i))), (7, .int (jI (n))), (8, .int (jI (what)))]) S.1 S.2.1 dX10_child_56 hl (by decide) rfl (fun ls hl => ?_)
          refine lv_iload S.1 S.2.1 dX10_child_58 (lv_at hl 0 rfl) ?_
          refine z_if_ge (tgt := 66) S dX10_child_60 (by decide) (by omega) (fun c_60 => ?_) (fun c_60 => ?_)
          · skip
            have hb0 := h_53.elim (fun q => absurd q.1 (by omega)) (fun q => q.2.1)
            have hbr : (0 ≤ k ∧ k ≤ 3) ∧ 0 ≤ n ∧ 0 ≤ i ∧ i + n ≤ 100 := by have q := hsh k; unfold zBar at hb0; omega
            have hbz := zBar_cong (ok' := (0 ≤ d ∧ d ≤ 109) ∧ (1 ≤ w ∧ w ≤ 9) ∧ (0 ≤ what ∧ what ≤ 1)) hb0 (by omega)
            have hok := zBar_ok hbz
            clear h_53 hb0
            refine z_bipush S (by decide +kernel) dX10_child_66 ?_
            refine lv_iload S.1 S.2.1 dX10_child_68 (lv_at hl 5 rfl) ?_
            refine z_imul S dX10_child_70 ?_
            refine lv_iload S.1 S.2.1 dX10_child_71 (lv_at hl 7 rfl) ?_
            refine z_iadd S dX10_child_73 ?_
            refine lv_istore (lv' := [(10, .int (jI ((100 * k) + i))), (9, .int (jI (r_53))), (0, .ref (ad 0)), (1, .int (jI (v))), (2, .int (jI (d))), (3, .int (jI (w))), (4, .int (jI (k))), (5, .int (jI (lane))), (6, .int (jI (i))), (7, .int (jI (n))), (8, .int (jI (what)))]) S.1 S.2.1 dX10_child_74 hl (by decide) rfl (fun ls hl => ?_)
            refine lv_iload S.1 S.2.1 dX10_child_76 (lv_at hl 9 rfl) ?_
            refine z_bipush S (by decide +kernel) dX10_child_78 ?_
            refine z_icmp_le (tgt := 90) S dX10_child_80 (by decide) (by omega) (fun c_80 => ?_) (fun c_80 => ?_)
            · skip
              refine z_iconst S dX10_child_90 ?_
              refine lv_istore (lv' := [(11, .int (jI (0))), (10, .int (jI ((100 * k) + i))), (9, .int (jI (r_53))), (0, .ref (ad 0)), (1, .int (jI (v))), (2, .int (jI (d))), (3, .int (jI (w))), (4, .int (jI (k))), (5, .int (jI (lane))), (6, .int (jI (i))), (7, .int (jI (n))), (8, .int (jI (what)))]) S.1 S.2.1 dX10_child_91 hl (by decide) rfl (fun ls hl => ?_)
              suffices HL_1 : ∀ (n_2 : Nat) (j : Int), (n - j).toNat < n_2 → (0 ≤ j ∧ j ≤ n) → (zBarg (fun j => sh (100 * k + i + j)) j) → ∀ (H : Heap) (locs : List Loc), zP E (mW E ad u53_flt ppl kd vl nb fr tl rA rP rk rv rn rf rt can fw fs ss sl sh hd tr) H → va_D A (mW E ad u53_flt ppl kd vl nb fr tl rA rP rk rv rn rf rt can fw fs ss sl sh hd tr) → va_S A s.heap H locs → ∀ (ls : Array Slot), lv_has ls 16 [(11, .int (jI (j))), (10, .int (jI (100 * k + i))), (0, .ref (ad 0)), (1, .int (jI (v))), (2, .int (jI (d))), (3, .int (jI (w))), (4, .int (jI (k))), (5, .int (jI (lane))), (6, .int (jI (i))), (7, .int (jI (n))), (8, .int (jI (what)))] → W p l e (zr 5 0 0) s m args below meth c H locs 0 0 Q (F0 m 93 ls []) from
                HL_1 _ 0 (Nat.lt_succ_self _) (by omega) (zall_0) _ _ hP hD hS ls (lv_sub hl [0, 1, 3, 4, 5, 6, 7, 8, 9, 10, 11] rfl)
              intro n_2
              induction n_2 with
              | zero => intro j hm hj hba; exact absurd hm (Nat.not_lt_zero _)
              | succ n_2 ih_3 =>
                intro j hm hj hba H locs hP hD hS ls hl
                refine lv_iload S.1 S.2.1 dX10_child_93 (lv_at hl 0 rfl) ?_
                refine lv_iload S.1 S.2.1 dX10_child_95 (lv_at hl 9 rfl) ?_
                refine z_icmp_ge (tgt := 134) S dX10_child_97 (by decide) (by omega) (fun c_97 => ?_) (fun c_97 => ?_)
                · skip
                  have hba2 : zBarg (fun j => sh (100 * k + i + j)) n := fun y q1 q2 => hba y q1 (by omega)
                  refine z_iconst S dX10_child_134 ?_
                  refine lv_istore (lv' := [(11, .int (jI (0))), (10, .int (jI (100 * k + i))), (0, .ref (ad 0)), (1, .int (jI (v))), (2, .int (jI (d))), (3, .int (jI (w))), (4, .int (jI (k))), (5, .int (jI (lane))), (6, .int (jI (i))), (7, .int (jI (n))), (8, .int (jI (what)))]) S.1 S.2.1 dX10_child_135 hl (by decide) rfl (fun ls hl => ?_)
                  refine z_bipush S (by decide +kernel) dX10_child_137 ?_
                  refine lv_istore (lv' := [(12, .int (jI (-9))), (11, .int (jI (0))), (10, .int (jI (100 * k + i))), (0, .ref (ad 0)), (1, .int (jI (v))), (2, .int (jI (d))), (3, .int (jI (w))), (4, .int (jI (k))), (5, .int (jI (lane))), (6, .int (jI (i))), (7, .int (jI (n))), (8, .int (jI (what)))]) S.1 S.2.1 dX10_child_139 hl (by decide) rfl (fun ls hl => ?_)
                  refine z_iconst S dX10_child_141 ?_
                  refine lv_istore (lv' := [(13, .int (jI (1))), (12, .int (jI (-9))), (11, .int (jI (0))), (10, .int (jI (100 * k + i))), (0, .ref (ad 0)), (1, .int (jI (v))), (2, .int (jI (d))), (3, .int (jI (w))), (4, .int (jI (k))), (5, .int (jI (lane))), (6, .int (jI (i))), (7, .int (jI (n))), (8, .int (jI (what)))]) S.1 S.2.1 dX10_child_142 hl (by decide) rfl (fun ls hl => ?_)
                  suffices HL_4 : ∀ (n_5 : Nat) (num : Int) (best : Int) (most : Int) (g1 : Int → Int) (g2 : Int → Int), (100 - num).toNat < n_5 → (1 ≤ num ∧ num ≤ 100) → (0 ≤ best ∧ best ≤ 99 ∧ -9 ≤ most ∧ most ≤ 12) → (zArgI (zBcnt (zCan nb (fun x => zlive kd vl fr tl x v d) ppl) w (fun j => sh (100 * k + i + j)) n) num best most) → ∀ (H : Heap) (locs : List Loc), zP E (mW E ad u53_flt ppl kd vl nb fr tl rA rP rk rv rn rf rt g1 g2 fs ss sl sh hd tr) H → va_D A (mW E ad u53_flt ppl kd vl nb fr tl rA rP rk rv rn rf rt g1 g2 fs ss sl sh hd tr) → va_S A s.heap H locs → ∀ (ls : Array Slot), lv_has ls 16 [(13, .int (jI (num))), (11, .int (jI (best))), (12, .int (jI (most))), (10, .int (jI (100 * k + i))), (0, .ref (ad 0)), (1, .int (jI (v))), (2, .int (jI (d))), (3, .int (jI (w))), (4, .int (jI (k))), (5, .int (jI (lane))), (6, .int (jI (i))), (7, .int (jI (n))), (8, .int (jI (what)))] → W p l e (zr 5 0 0) s m args below meth c H locs 0 0 Q (F0 m 144 ls []) from
                    HL_4 _ 1 0 (-9) can fw (Nat.lt_succ_self _) (by omega) (by omega) (Or.inl ⟨rfl, rfl, rfl⟩) _ _ hP hD hS ls (lv_sub hl [0, 2, 1, 3, 4, 5, 6, 7, 8, 9, 10, 11, 12] rfl)
                  intro n_5
                  induction n_5 with
                  | zero => intro num best most g1 g2 hm hnum hbm hAr; exact absurd hm (Nat.not_lt_zero _)
                  | succ n_5 ih_6 =>
                    intro num best most g1 g2 hm hnum hbm hAr H locs hP hD hS ls hl
                    refine lv_iload S.1 S.2.1 dX10_child_144 (lv_at hl 0 rfl) ?_
                    refine z_bipush S (by decide +kernel) dX10_child_146 ?_
                    refine z_icmp_ge (tgt := 243) S dX10_child_148 (by decide) (by omega) (fun c_148 => ?_) (fun c_148 => ?_)
                    · skip
                      refine lv_aload_n S.1 S.2.1 dX10_child_243 rfl (lv_at hl 4 rfl) ?_
                      refine lv_iload S.1 S.2.1 dX10_child_244 (lv_at hl 12 rfl) ?_
                      refine z_if_ne (tgt := 254) S dX10_child_246 (by decide) (by omega) (fun c_246 => ?_) (fun c_246 => ?_)
                      · skip
                        refine lv_iload S.1 S.2.1 dX10_child_254 (lv_at hl 2 rfl) ?_
                        refine z_miw (z_mV S hK (c_X10_refused l E ad u53_flt ppl kd vl nb fr tl rA rP rk rv rn rf rt g1 g2 fs ss sl sh hd tr most _) gX10_child_X10_refused rfl hv_X10_refused ⟨Nat.le_of_ble_eq_true rfl, Nat.le_of_ble_eq_true rfl⟩ (va_recv hK hP (ci := 10) (q0 := 0) rfl rfl) hP hD trivial hl.1 rfl (Nat.le_of_ble_eq_true rfl) ⟨by decide, by decide⟩ rfl dX10_child_256) hD hS hA (fun r_256 u H locs h_256 hP hD hS => ?_)
                        rw [h_256]
                        have hP : zP E (mW E ad 0 ppl kd vl nb fr tl rA rP rk rv rn rf rt g1 g2 fs ss sl sh hd tr) H := hP
                        have hD : va_D A (mW E ad 0 ppl kd vl nb fr tl rA rP rk rv rn rf rt g1 g2 fs ss sl sh hd tr) := hD
                        exact hQ (most) ((0, (g1, g2))) _ _ (Or.inr ⟨by omega, _, _, hbz, Or.inr ⟨rfl, rfl, Or.inr ⟨⟨by omega, hba2⟩, best, most, zArgI_end (by have e : num = 100 := (by omega); subst e; exact hAr), by omega⟩⟩⟩) hP hD hS _ _ dX10_child_259
                      · skip
                        refine lv_iload S.1 S.2.1 dX10_child_249 (lv_at hl 1 rfl) ?_
                        refine z_goto (tgt := 256) S dX10_child_251 (by decide) ?_
                        refine z_miw (z_mV S hK (c_X10_refused l E ad u53_flt ppl kd vl nb fr tl rA rP rk rv rn rf rt g1 g2 fs ss sl sh hd tr best _) gX10_child_X10_refused rfl hv_X10_refused ⟨Nat.le_of_ble_eq_true rfl, Nat.le_of_ble_eq_true rfl⟩ (va_recv hK hP (ci := 10) (q0 := 0) rfl rfl) hP hD trivial hl.1 rfl (Nat.le_of_ble_eq_true rfl) ⟨by decide, by decide⟩ rfl dX10_child_256) hD hS hA (fun r_256 u H locs h_256 hP hD hS => ?_)
                        rw [h_256]
                        have hP : zP E (mW E ad 0 ppl kd vl nb fr tl rA rP rk rv rn rf rt g1 g2 fs ss sl sh hd tr) H := hP
                        have hD : va_D A (mW E ad 0 ppl kd vl nb fr tl rA rP rk rv rn rf rt g1 g2 fs ss sl sh hd tr) := hD
                        exact hQ (best) ((0, (g1, g2))) _ _ (Or.inr ⟨by omega, _, _, hbz, Or.inr ⟨rfl, rfl, Or.inr ⟨⟨by omega, hba2⟩, best, most, zArgI_end (by have e : num = 100 := (by omega); subst e; exact hAr), by omega⟩⟩⟩) hP hD hS _ _ dX10_child_259
                    · skip
                      refine lv_aload_n S.1 S.2.1 dX10_child_151 rfl (lv_at hl 4 rfl) ?_
                      refine lv_iload_n S.1 S.2.1 dX10_child_152 rfl (lv_at hl 5 rfl) ?_
                      refine lv_iload_n S.1 S.2.1 dX10_child_153 rfl (lv_at hl 6 rfl) ?_
                      refine z_bipush S (by decide +kernel) dX10_child_154 ?_
                      refine z_mvw (z_mV S hK (c_X10_layCan l E ad u53_flt ppl kd vl nb fr tl rA rP rk rv rn rf rt g1 g2 fs ss sl sh hd tr v d (-9) (by omega) (by omega) (by omega) (by omega) (hpe) _) gX10_child_X10_layCan rfl hv_X10_layCan ⟨Nat.le_of_ble_eq_true rfl, Nat.le_of_ble_eq_true rfl⟩ (va_recv hK hP (ci := 10) (q0 := 0) rfl rfl) hP hD trivial hl.1 rfl (Nat.le_of_ble_eq_true rfl) ⟨by decide, by decide⟩ rfl dX10_child_156) hD hS hA (fun u H locs h_156 hP hD hS => ?_)
                      obtain ⟨u156_can, u156_can_e⟩ : ∃ z, z = u := ⟨_, rfl⟩
                      subst u156_can_e
                      try dsimp only at h_156
                      have hP : zP E (mW E ad u53_flt ppl kd vl nb fr tl rA rP rk rv rn rf rt u156_can g2 fs ss sl sh hd tr) H := hP
                      have hD : va_D A (mW E ad u53_flt ppl kd vl nb fr tl rA rP rk rv rn rf rt u156_can g2 fs ss sl sh hd tr) := hD
                      refine lv_aload_n S.1 S.2.1 dX10_child_159 rfl (lv_at hl 4 rfl) ?_
                      refine z_get S hK hP 0 rfl rfl 14 (by decide) i_X10_child_10 q_X10_child_3 rfl dX10_child_160 ?_
                      refine lv_iload S.1 S.2.1 dX10_child_163 (lv_at hl 0 rfl) ?_
                      refine z_iconst S dX10_child_165 ?_
                      refine z_zast S hK hP hD hS 11 rfl (by omega) (by omega) dX10_child_166 (fun H locs hP hD hS => ?_)
                      have hP : zP E (mW E ad u53_flt ppl kd vl nb fr tl rA rP rk rv rn rf rt (zu u156_can num 1) g2 fs ss sl sh hd tr) H := hP
                      have hD : va_D A (mW E ad u53_flt ppl kd vl nb fr tl rA rP rk rv rn rf rt (zu u156_can num 1) g2 fs ss sl sh hd tr) := hD
                      refine lv_aload_n S.1 S.2.1 dX10_child_167 rfl (lv_at hl 4 rfl) ?_
                      refine z_sipush S (by decide +kernel) dX10_child_168 ?_
                      refine z_mvw (z_mV S hK (c_X10_layFewest l E ad u53_flt ppl kd vl nb fr tl rA rP rk rv rn rf rt (zu u156_can num 1) g2 fs ss sl sh hd tr 999 (by omega) (fun a q1 q2 => by rcases zSet_01 h_156 ⟨q1, q2⟩ with h | h <;> (by_cases e : a = num) <;> first | exact Or.inr (zu_e e) | (rw [zu_n e]; omega)) _) gX10_child_X10_layFewest rfl hv_X10_layFewest ⟨Nat.le_of_ble_eq_true rfl, Nat.le_of_ble_eq_true rfl⟩ (va_recv hK hP (ci := 10) (q0 := 0) rfl rfl) hP hD trivial hl.1 rfl (Nat.le_of_ble_eq_true rfl) ⟨by decide, by decide⟩ rfl dX10_child_171) hD hS hA (fun u H locs h_171 hP hD hS => ?_)
                      obtain ⟨u171_fw, u171_fw_e⟩ : ∃ z, z = u := ⟨_, rfl⟩
                      subst u171_fw_e
                      try dsimp only at h_171
                      have hP : zP E (mW E ad u53_flt ppl kd vl nb fr tl rA rP rk rv rn rf rt (zu u156_can num 1) u171_fw fs ss sl sh hd tr) H := hP
                      have hD : va_D A (mW E ad u53_flt ppl kd vl nb fr tl rA rP rk rv rn rf rt (zu u156_can num 1) u171_fw fs ss sl sh hd tr) := hD
                      have hT : zTab (fun a => (zCan nb (fun x => zlive kd vl fr tl x v d) ppl) a ∨ a = num) u171_fw 999 5000 := zTab_cong (zSet_add (zSet_cong h_156 (fun a _ _ => zCanW_9))) h_171
                      refine z_iconst S dX10_child_174 ?_
                      refine lv_istore (lv' := [(14, .int (jI (0))), (13, .int (jI (num))), (11, .int (jI (best))), (12, .int (jI (most))), (10, .int (jI (100 * k + i))), (0, .ref (ad 0)), (1, .int (jI (v))), (2, .int (jI (d))), (3, .int (jI (w))), (4, .int (jI (k))), (5, .int (jI (lane))), (6, .int (jI (i))), (7, .int (jI (n))), (8, .int (jI (what)))]) S.1 S.2.1 dX10_child_175 hl (by decide) rfl (fun ls hl => ?_)
                      refine z_iconst S dX10_child_177 ?_
                      refine lv_istore (lv' := [(15, .int (jI (0))), (14, .int (jI (0))), (13, .int (jI (num))), (11, .int (jI (best))), (12, .int (jI (most))), (10, .int (jI (100 * k + i))), (0, .ref (ad 0)), (1, .int (jI (v))), (2, .int (jI (d))), (3, .int (jI (w))), (4, .int (jI (k))), (5, .int (jI (lane))), (6, .int (jI (i))), (7, .int (jI (n))), (8, .int (jI (what)))]) S.1 S.2.1 dX10_child_178 hl (by decide) rfl (fun ls hl => ?_)
                      suffices HL_7 : ∀ (n_8 : Nat) (j2 : Int) (its : Int), (n - j2).toNat < n_8 → (0 ≤ j2 ∧ j2 ≤ n) → (its = zcnt (fun x => zIn (fun a => (zCan nb (fun x => zlive kd vl fr tl x v d) ppl) a ∨ a = num) w (sh (100 * k + i + (x - 1)))) j2.toNat) → (0 ≤ its ∧ its ≤ j2) → ∀ (H : Heap) (locs : List Loc), zP E (mW E ad u53_flt ppl kd vl nb fr tl rA rP rk rv rn rf rt (zu u156_can num 1) u171_fw fs ss sl sh hd tr) H → va_D A (mW E ad u53_flt ppl kd vl nb fr tl rA rP rk rv rn rf rt (zu u156_can num 1) u171_fw fs ss sl sh hd tr) → va_S A s.heap H locs → ∀ (ls : Array Slot), lv_has ls 16 [(15, .int (jI (j2))), (14, .int (jI (its))), (13, .int (jI (num))), (11, .int (jI (best))), (12, .int (jI (most))), (10, .int (jI (100 * k + i))), (0, .ref (ad 0)), (1, .int (jI (v))), (2, .int (jI (d))), (3, .int (jI (w))), (4, .int (jI (k))), (5, .int (jI (lane))), (6, .int (jI (i))), (7, .int (jI (n))), (8, .int (jI (what)))] → W p l e (zr 5 0 0) s m args below meth c H locs 0 0 Q (F0 m 180 ls []) from
                        HL_7 _ 0 0 (Nat.lt_succ_self _) (by omega) (rfl) (by omega) _ _ hP hD hS ls (lv_sub hl [0, 1, 2, 3, 4, 5, 6, 7, 8, 9, 10, 11, 12, 13, 14] rfl)
                      intro n_8
                      induction n_8 with
                      | zero => intro j2 its hm hj2 hits hitr; exact absurd hm (Nat.not_lt_zero _)
                      | succ n_8 ih_9 =>
                        intro j2 its hm hj2 hits hitr H locs hP hD hS ls hl
                        refine lv_iload S.1 S.2.1 dX10_child_180 (lv_at hl 0 rfl) ?_
                        refine lv_iload S.1 S.2.1 dX10_child_182 (lv_at hl 13 rfl) ?_
                        refine z_icmp_ge (tgt := 222) S dX10_child_184 (by decide) (by omega) (fun c_184 => ?_) (fun c_184 => ?_)
                        · skip
                          have hits2 : its = (zBcnt (zCan nb (fun x => zlive kd vl fr tl x v d) ppl) w (fun j => sh (100 * k + i + j)) n) num := by rw [hits, show j2 = n by omega]; rfl
                          refine lv_iload S.1 S.2.1 dX10_child_222 (lv_at hl 1 rfl) ?_
                          refine lv_iload S.1 S.2.1 dX10_child_224 (lv_at hl 4 rfl) ?_
                          refine z_icmp_le (tgt := 237) S dX10_child_226 (by decide) (by omega) (fun c_226 => ?_) (fun c_226 => ?_)
                          · skip
                            refine z_iinc (lv' := [(13, .int (jI (num + 1))), (15, .int (jI (j2))), (14, .int (jI (its))), (11, .int (jI (best))), (12, .int (jI (most))), (10, .int (jI (100 * k + i))), (0, .ref (ad 0)), (1, .int (jI (v))), (2, .int (jI (d))), (3, .int (jI (w))), (4, .int (jI (k))), (5, .int (jI (lane))), (6, .int (jI (i))), (7, .int (jI (n))), (8, .int (jI (what)))]) S hl (k := 2) rfl (by decide) rfl dX10_child_237 (fun ls hl => ?_)
                            refine z_goto (tgt := 144) S dX10_child_240 (by decide) ?_
                            exact ih_6 (num + 1) best most (zu u156_can num 1) u171_fw (by omega) (by omega) (by omega) (by first | exact zArgI_keep hAr (by omega) (by omega) | (rw [hits2]; exact zArgI_new hAr (by omega) (by omega))) _ _ hP hD hS ls (lv_sub hl [0, 3, 4, 5, 6, 7, 8, 9, 10, 11, 12, 13, 14] rfl)
                          · skip
                            refine lv_iload S.1 S.2.1 dX10_child_229 (lv_at hl 2 rfl) ?_
                            refine lv_istore (lv' := [(11, .int (jI (num))), (15, .int (jI (j2))), (14, .int (jI (its))), (13, .int (jI (num))), (12, .int (jI (most))), (10, .int (jI (100 * k + i))), (0, .ref (ad 0)), (1, .int (jI (v))), (2, .int (jI (d))), (3, .int (jI (w))), (4, .int (jI (k))), (5, .int (jI (lane))), (6, .int (jI (i))), (7, .int (jI (n))), (8, .int (jI (what)))]) S.1 S.2.1 dX10_child_231 hl (by decide) rfl (fun ls hl => ?_)
                            refine lv_iload S.1 S.2.1 dX10_child_233 (lv_at hl 2 rfl) ?_
                            refine lv_istore (lv' := [(12, .int (jI (its))), (11, .int (jI (num))), (15, .int (jI (j2))), (14, .int (jI (its))), (13, .int (jI (num))), (10, .int (jI (100 * k + i))), (0, .ref (ad 0)), (1, .int (jI (v))), (2, .int (jI (d))), (3, .int (jI (w))), (4, .int (jI (k))), (5, .int (jI (lane))), (6, .int (jI (i))), (7, .int (jI (n))), (8, .int (jI (what)))]) S.1 S.2.1 dX10_child_235 hl (by decide) rfl (fun ls hl => ?_)
                            refine z_iinc (lv' := [(13, .int (jI (num + 1))), (12, .int (jI (its))), (11, .int (jI (num))), (15, .int (jI (j2))), (14, .int (jI (its))), (10, .int (jI (100 * k + i))), (0, .ref (ad 0)), (1, .int (jI (v))), (2, .int (jI (d))), (3, .int (jI (w))), (4, .int (jI (k))), (5, .int (jI (lane))), (6, .int (jI (i))), (7, .int (jI (n))), (8, .int (jI (what)))]) S hl (k := 4) rfl (by decide) rfl dX10_child_237 (fun ls hl => ?_)
                            refine z_goto (tgt := 144) S dX10_child_240 (by decide) ?_
                            exact ih_6 (num + 1) num its (zu u156_can num 1) u171_fw (by omega) (by omega) (by omega) (by first | exact zArgI_keep hAr (by omega) (by omega) | (rw [hits2]; exact zArgI_new hAr (by omega) (by omega))) _ _ hP hD hS ls (lv_sub hl [0, 2, 1, 5, 6, 7, 8, 9, 10, 11, 12, 13, 14] rfl)
                        · skip
                          have hq2 : 0 ≤ sh (100 * k + i + j2) ∧ sh (100 * k + i + j2) ≤ 999 := hba2 j2 (by omega) (by omega)
                          have hI := zTab_le hT (q := sh (100 * k + i + j2)) (w := w) (by omega) (by omega) (by omega)
                          have hfr := zTab_rng hT (q := sh (100 * k + i + j2)) (by omega) (by omega)
                          have hcr2 := zcnt_rng (fun x => zIn (fun a => (zCan nb (fun x => zlive kd vl fr tl x v d) ppl) a ∨ a = num) w (sh (100 * k + i + (x - 1)))) j2.toNat
                          refine lv_iload S.1 S.2.1 dX10_child_187 (lv_at hl 1 rfl) ?_
                          refine lv_aload_n S.1 S.2.1 dX10_child_189 rfl (lv_at hl 6 rfl) ?_
                          refine z_get S hK hP 0 rfl rfl 15 (by decide) i_X10_child_10 q_X10_child_4 rfl dX10_child_190 ?_
                          refine lv_aload_n S.1 S.2.1 dX10_child_193 rfl (lv_at hl 6 rfl) ?_
                          refine z_get S hK hP 0 rfl rfl 19 (by decide) i_X10_child_10 q_X10_child_1 rfl dX10_child_194 ?_
                          refine lv_iload S.1 S.2.1 dX10_child_197 (lv_at hl 5 rfl) ?_
                          refine lv_iload S.1 S.2.1 dX10_child_199 (lv_at hl 0 rfl) ?_
                          refine z_iadd S dX10_child_201 ?_
                          refine z_iald S hK hP 16 rfl (by omega) dX10_child_202 ?_
                          have hf_10 := hcr (((100 * k + i) + j2))
                          refine z_iald S hK hP 12 rfl (by omega) dX10_child_203 ?_
                          refine lv_iload_n S.1 S.2.1 dX10_child_204 rfl (lv_at hl 9 rfl) ?_
                          refine z_icmp_gt (tgt := 212) S dX10_child_205 (by decide) (by omega) (fun c_205 => ?_) (fun c_205 => ?_)
                          · skip
                            refine z_iconst S dX10_child_212 ?_
                            refine z_iadd S dX10_child_213 ?_
                            refine lv_istore (lv' := [(14, .int (jI (its + 0))), (15, .int (jI (j2))), (13, .int (jI (num))), (11, .int (jI (best))), (12, .int (jI (most))), (10, .int (jI (100 * k + i))), (0, .ref (ad 0)), (1, .int (jI (v))), (2, .int (jI (d))), (3, .int (jI (w))), (4, .int (jI (k))), (5, .int (jI (lane))), (6, .int (jI (i))), (7, .int (jI (n))), (8, .int (jI (what)))]) S.1 S.2.1 dX10_child_214 hl (by decide) rfl (fun ls hl => ?_)
                            refine z_iinc (lv' := [(15, .int (jI (j2 + 1))), (14, .int (jI (its + 0))), (13, .int (jI (num))), (11, .int (jI (best))), (12, .int (jI (most))), (10, .int (jI (100 * k + i))), (0, .ref (ad 0)), (1, .int (jI (v))), (2, .int (jI (d))), (3, .int (jI (w))), (4, .int (jI (k))), (5, .int (jI (lane))), (6, .int (jI (i))), (7, .int (jI (n))), (8, .int (jI (what)))]) S hl (k := 1) rfl (by decide) rfl dX10_child_216 (fun ls hl => ?_)
                            refine z_goto (tgt := 180) S dX10_child_219 (by decide) ?_
                            exact ih_9 (j2 + 1) (its + 0) (by omega) (by omega) (by first | exact (congrArg (fun z => z + 1) hits).trans (zcnt0_t (P := fun x => zIn (fun a => (zCan nb (fun x => zlive kd vl fr tl x v d) ppl) a ∨ a = num) w (sh (100 * k + i + x))) (by omega) (hI.mp (by omega))).symm | exact (Int.add_zero its).trans (hits.trans (zcnt0_f (P := fun x => zIn (fun a => (zCan nb (fun x => zlive kd vl fr tl x v d) ppl) a ∨ a = num) w (sh (100 * k + i + x))) (by omega) (fun z => absurd (hI.mpr z) (by omega))).symm)) (by omega) _ _ hP hD hS ls (lv_sub hl [0, 1, 2, 3, 4, 5, 6, 7, 8, 9, 10, 11, 12, 13, 14] rfl)
                          · skip
                            refine z_iconst S dX10_child_208 ?_
                            refine z_goto (tgt := 213) S dX10_child_209 (by decide) ?_
                            refine z_iadd S dX10_child_213 ?_
                            refine lv_istore (lv' := [(14, .int (jI (its + 1))), (15, .int (jI (j2))), (13, .int (jI (num))), (11, .int (jI (best))), (12, .int (jI (most))), (10, .int (jI (100 * k + i))), (0, .ref (ad 0)), (1, .int (jI (v))), (2, .int (jI (d))), (3, .int (jI (w))), (4, .int (jI (k))), (5, .int (jI (lane))), (6, .int (jI (i))), (7, .int (jI (n))), (8, .int (jI (what)))]) S.1 S.2.1 dX10_child_214 hl (by decide) rfl (fun ls hl => ?_)
                            refine z_iinc (lv' := [(15, .int (jI (j2 + 1))), (14, .int (jI (its + 1))), (13, .int (jI (num))), (11, .int (jI (best))), (12, .int (jI (most))), (10, .int (jI (100 * k + i))), (0, .ref (ad 0)), (1, .int (jI (v))), (2, .int (jI (d))), (3, .int (jI (w))), (4, .int (jI (k))), (5, .int (jI (lane))), (6, .int (jI (i))), (7, .int (jI (n))), (8, .int (jI (what)))]) S hl (k := 1) rfl (by decide) rfl dX10_child_216 (fun ls hl => ?_)
                            refine z_goto (tgt := 180) S dX10_child_219 (by decide) ?_
                            exact ih_9 (j2 + 1) (its + 1) (by omega) (by omega) (by first | exact (congrArg (fun z => z + 1) hits).trans (zcnt0_t (P := fun x => zIn (fun a => (zCan nb (fun x => zlive kd vl fr tl x v d) ppl) a ∨ a = num) w (sh (100 * k + i + x))) (by omega) (hI.mp (by omega))).symm | exact (Int.add_zero its).trans (hits.trans (zcnt0_f (P := fun x => zIn (fun a => (zCan nb (fun x => zlive kd vl fr tl x v d) ppl) a ∨ a = num) w (sh (100 * k + i + x))) (by omega) (fun z => absurd (hI.mpr z) (by omega))).symm)) (by omega) _ _ hP hD hS ls (lv_sub hl [0, 1, 2, 3, 4, 5, 6, 7, 8, 9, 10, 11, 12, 13, 14] rfl)
                · skip
                  refine lv_aload_n S.1 S.2.1 dX10_child_100 rfl (lv_at hl 2 rfl) ?_
                  refine z_get S hK hP 0 rfl rfl 19 (by decide) i_X10_child_10 q_X10_child_1 rfl dX10_child_101 ?_
                  refine lv_iload S.1 S.2.1 dX10_child_104 (lv_at hl 1 rfl) ?_
                  refine lv_iload S.1 S.2.1 dX10_child_106 (lv_at hl 0 rfl) ?_
                  refine z_iadd S dX10_child_108 ?_
                  refine z_iald S hK hP 16 rfl (by omega) dX10_child_109 ?_
                  have hf_11 := hcr (((100 * k + i) + j))
                  refine z_i2l S (by omega) dX10_child_110 ?_
                  refine z_lconst (z := 0) S (by decide +kernel) dX10_child_111 ?_
                  refine z_ldc2 (n := 999) S q_X10_child_2 (by decide +kernel) dX10_child_112 ?_
                  refine z_ri (z_rS S hK (c_X10_in l E (sh ((100 * k + i) + j)) 0 999 (by omega) (by omega) (by omega)) gX10_child_X10_in rfl hs_X10_in ⟨Nat.le_of_ble_eq_true rfl, Nat.le_of_ble_eq_true rfl⟩ trivial hl.1 rfl (Nat.le_of_ble_eq_true rfl) ⟨by decide, by decide⟩ rfl dX10_child_115) (fun r_115 h_115 => ?_)
                  refine z_if_ne (tgt := 128) S dX10_child_118 (by decide) (by omega) (fun c_118 => ?_) (fun c_118 => ?_)
                  · skip
                    refine z_iinc (lv' := [(11, .int (jI (j + 1))), (10, .int (jI (100 * k + i))), (0, .ref (ad 0)), (1, .int (jI (v))), (2, .int (jI (d))), (3, .int (jI (w))), (4, .int (jI (k))), (5, .int (jI (lane))), (6, .int (jI (i))), (7, .int (jI (n))), (8, .int (jI (what)))]) S hl (k := 0) rfl (by decide) rfl dX10_child_128 (fun ls hl => ?_)
                    refine z_goto (tgt := 93) S dX10_child_131 (by decide) ?_
                    exact ih_3 (j + 1) (by omega) (by omega) (zall_step hba (show 0 ≤ sh (100 * k + i + j) ∧ sh (100 * k + i + j) ≤ 999 by omega)) _ _ hP hD hS ls (lv_sub hl [0, 1, 2, 3, 4, 5, 6, 7, 8, 9, 10] rfl)
                  · skip
                    refine lv_aload_n S.1 S.2.1 dX10_child_121 rfl (lv_at hl 2 rfl) ?_
                    refine z_bipush S (by decide +kernel) dX10_child_122 ?_
                    refine z_miw (z_mV S hK (c_X10_refused l E ad u53_flt ppl kd vl nb fr tl rA rP rk rv rn rf rt can fw fs ss sl sh hd tr (-2) _) gX10_child_X10_refused rfl hv_X10_refused ⟨Nat.le_of_ble_eq_true rfl, Nat.le_of_ble_eq_true rfl⟩ (va_recv hK hP (ci := 10) (q0 := 0) rfl rfl) hP hD trivial hl.1 rfl (Nat.le_of_ble_eq_true rfl) ⟨by decide, by decide⟩ rfl dX10_child_124) hD hS hA (fun r_124 u H locs h_124 hP hD hS => ?_)
                    rw [h_124]
                    have hP : zP E (mW E ad 0 ppl kd vl nb fr tl rA rP rk rv rn rf rt can fw fs ss sl sh hd tr) H := hP
                    have hD : va_D A (mW E ad 0 ppl kd vl nb fr tl rA rP rk rv rn rf rt can fw fs ss sl sh hd tr) := hD
                    exact hQ (((-2))) ((0, (can, fw))) _ _ (Or.inr ⟨by omega, _, _, hbz, Or.inr ⟨rfl, rfl, Or.inl ⟨Or.inr (fun z => by have q1 : 0 ≤ sh (100 * k + i + j) ∧ sh (100 * k + i + j) ≤ 999 := z j (by omega) (by omega); omega), rfl⟩⟩⟩) hP hD hS _ _ dX10_child_127
            · skip
              refine lv_aload_n S.1 S.2.1 dX10_child_83 rfl (lv_at hl 2 rfl) ?_
              refine z_bipush S (by decide +kernel) dX10_child_84 ?_
              refine z_miw (z_mV S hK (c_X10_refused l E ad u53_flt ppl kd vl nb fr tl rA rP rk rv rn rf rt can fw fs ss sl sh hd tr (-2) _) gX10_child_X10_refused rfl hv_X10_refused ⟨Nat.le_of_ble_eq_true rfl, Nat.le_of_ble_eq_true rfl⟩ (va_recv hK hP (ci := 10) (q0 := 0) rfl rfl) hP hD trivial hl.1 rfl (Nat.le_of_ble_eq_true rfl) ⟨by decide, by decide⟩ rfl dX10_child_86) hD hS hA (fun r_86 u H locs h_86 hP hD hS => ?_)
              rw [h_86]
              have hP : zP E (mW E ad 0 ppl kd vl nb fr tl rA rP rk rv rn rf rt can fw fs ss sl sh hd tr) H := hP
              have hD : va_D A (mW E ad 0 ppl kd vl nb fr tl rA rP rk rv rn rf rt can fw fs ss sl sh hd tr) := hD
              exact hQ (((-2))) ((0, (can, fw))) _ _ (Or.inr ⟨by omega, _, _, hbz, Or.inr ⟨rfl, rfl, Or.inl ⟨Or.inl (by omega), rfl⟩⟩⟩) hP hD hS _ _ dX10_child_89
          · skip
            refine lv_iload S.1 S.2.1 dX10_child_63 (lv_at hl 0 rfl) ?_
            exact hQ (r_53) ((u53_flt, (can, fw))) _ _ (Or.inr ⟨by omega, _, _, zBar_cong (h_53.elim (fun q => q.2) (fun q => absurd q.1 (by omega))) (by omega), Or.inl ⟨by omega, rfl, rfl⟩⟩) hP hD hS _ _ dX10_child_65
  · skip
    refine lv_aload_n S.1 S.2.1 dX10_child_7 rfl (lv_at hl 0 rfl) ?_
    refine z_iconst S dX10_child_8 ?_
    refine z_miw (z_mV S hK (c_X10_refused l E ad flt ppl kd vl nb fr tl rA rP rk rv rn rf rt can fw fs ss sl sh hd tr (-1) _) gX10_child_X10_refused rfl hv_X10_refused ⟨Nat.le_of_ble_eq_true rfl, Nat.le_of_ble_eq_true rfl⟩ (va_recv hK hP (ci := 10) (q0 := 0) rfl rfl) hP hD trivial hl.1 rfl (Nat.le_of_ble_eq_true rfl) ⟨by decide, by decide⟩ rfl dX10_child_9) hD hS hA (fun r_9 u H locs h_9 hP hD hS => ?_)
    rw [h_9]
    have hP : zP E (mW E ad 0 ppl kd vl nb fr tl rA rP rk rv rn rf rt can fw fs ss sl sh hd tr) H := hP
    have hD : va_D A (mW E ad 0 ppl kd vl nb fr tl rA rP rk rv rn rf rt can fw fs ss sl sh hd tr) := hD
    exact hQ (((-1))) ((0, (can, fw))) _ _ (Or.inl ⟨by omega, rfl, rfl⟩) hP hD hS _ _ dX10_child_12
