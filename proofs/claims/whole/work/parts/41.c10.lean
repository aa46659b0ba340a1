theorem hs_X9_isWords : yX9_isWords.cls ≠ "java/lang/invoke/MethodHandle" ∧ yX9_isWords.cls ≠ "java/lang/invoke/VarHandle" ∧ (parseMethodDescriptor yX9_isWords.desc).map (fun d => d.parameters.length) = some 1 := by decide +kernel
theorem i_X9_both_9 : ∀ w ∈ u_ws RX9 TX9 8, w ∈ wsX9_both := fun w h => List.mem_cons_of_mem _ (List.mem_append_left _ (List.mem_append_left _ (List.mem_append_left _ (List.mem_append_left _ (List.mem_append_left _ (List.mem_append_right _ h))))))
theorem q_X9_both_1 : Cond.fieldLink RX9 28 "LivingNumbers" "people" "LLivingNumbers$People;" ∈ wsX9_both := List.mem_of_getElem? (i := 1) rfl
theorem q_X9_both_2 : Cond.fieldLink RX9 42 "LivingNumbers" "fewest" "LLivingNumbers$Fewest;" ∈ wsX9_both := List.mem_of_getElem? (i := 2) rfl
theorem q_X9_both_3 : Cond.fieldLink RX9 46 "LivingNumbers" "compared" "LLivingNumbers$Fewest;" ∈ wsX9_both := List.mem_of_getElem? (i := 3) rfl
theorem i_X9_lost_9 : ∀ w ∈ u_ws RX9 TX9 8, w ∈ wsX9_lost := fun w h => List.mem_cons_of_mem _ (List.mem_append_left _ (List.mem_append_left _ (List.mem_append_left _ (List.mem_append_left _ (List.mem_append_left _ (List.mem_append_right _ h))))))
theorem q_X9_lost_1 : Cond.fieldLink RX9 28 "LivingNumbers" "people" "LLivingNumbers$People;" ∈ wsX9_lost := List.mem_of_getElem? (i := 1) rfl
theorem q_X9_lost_2 : Cond.fieldLink RX9 42 "LivingNumbers" "fewest" "LLivingNumbers$Fewest;" ∈ wsX9_lost := List.mem_of_getElem? (i := 2) rfl
theorem q_X9_lost_3 : Cond.fieldLink RX9 46 "LivingNumbers" "compared" "LLivingNumbers$Fewest;" ∈ wsX9_lost := List.mem_of_getElem? (i := 3) rfl
theorem q_X9_told_1 : Cond.constantLong RX9 145 (-9223372036854775808) ∈ wsX9_told := List.mem_of_getElem? (i := 1) rfl
theorem i_X9_told_9 : ∀ w ∈ u_ws RX9 TX9 8, w ∈ wsX9_told := fun w h => List.mem_cons_of_mem _ (List.mem_append_left _ (List.mem_append_left _ (List.mem_append_left _ (List.mem_append_left _ (List.mem_append_left _ (List.mem_append_right _ h))))))
theorem q_X9_told_2 : Cond.fieldLink RX9 28 "LivingNumbers" "people" "LLivingNumbers$People;" ∈ wsX9_told := List.mem_of_getElem? (i := 2) rfl
theorem q_X9_told_3 : Cond.fieldLink RX9 42 "LivingNumbers" "fewest" "LLivingNumbers$Fewest;" ∈ wsX9_told := List.mem_of_getElem? (i := 3) rfl
theorem hs_X9_reduced : yX9_reduced.cls ≠ "java/lang/invoke/MethodHandle" ∧ yX9_reduced.cls ≠ "java/lang/invoke/VarHandle" ∧ (parseMethodDescriptor yX9_reduced.desc).map (fun d => d.parameters.length) = some 2 := by decide +kernel
theorem i_X9_back_9 : ∀ w ∈ u_ws RX9 TX9 8, w ∈ wsX9_back := fun w h => List.mem_cons_of_mem _ (List.mem_append_left _ (List.mem_append_left _ (List.mem_append_left _ (List.mem_append_left _ (List.mem_append_left _ (List.mem_append_left _ (List.mem_append_right _ h)))))))
theorem q_X9_back_1 : Cond.fieldLink RX9 28 "LivingNumbers" "people" "LLivingNumbers$People;" ∈ wsX9_back := List.mem_of_getElem? (i := 1) rfl
theorem q_X9_back_2 : Cond.fieldLink RX9 42 "LivingNumbers" "fewest" "LLivingNumbers$Fewest;" ∈ wsX9_back := List.mem_of_getElem? (i := 2) rfl
theorem q_X9_back_3 : Cond.fieldLink RX9 52 "LivingNumbers" "recall" "LLivingNumbers$Recall;" ∈ wsX9_back := List.mem_of_getElem? (i := 3) rfl
theorem hv_X5_search : yX5_search.cls = RX5 ∧ yX5_search.cls ≠ "java/lang/invoke/MethodHandle" ∧ yX5_search.cls ≠ "java/lang/invoke/VarHandle" ∧ (parseMethodDescriptor yX5_search.desc).map (fun d => d.parameters.length) = some 4 := by decide +kernel
theorem hv_X5_calledAt : yX5_calledAt.cls = RX5 ∧ yX5_calledAt.cls ≠ "java/lang/invoke/MethodHandle" ∧ yX5_calledAt.cls ≠ "java/lang/invoke/VarHandle" ∧ (parseMethodDescriptor yX5_calledAt.desc).map (fun d => d.parameters.length) = some 1 := by decide +kernel
theorem hv_X9_areBargains : yX9_areBargains.cls = RX9 ∧ yX9_areBargains.cls ≠ "java/lang/invoke/MethodHandle" ∧ yX9_areBargains.cls ≠ "java/lang/invoke/VarHandle" ∧ (parseMethodDescriptor yX9_areBargains.desc).map (fun d => d.parameters.length) = some 3 := by decide +kernel
theorem i_X9_child_9 : ∀ w ∈ u_ws RX9 TX9 8, w ∈ wsX9_child := fun w h => List.mem_cons_of_mem _ (List.mem_append_left _ (List.mem_append_left _ (List.mem_append_left _ (List.mem_append_left _ (List.mem_append_left _ (List.mem_append_left _ (List.mem_append_right _ h)))))))
theorem q_X9_child_1 : Cond.fieldLink RX9 28 "LivingNumbers" "people" "LLivingNumbers$People;" ∈ wsX9_child := List.mem_of_getElem? (i := 1) rfl
theorem q_X9_child_2 : Cond.fieldLink RX9 42 "LivingNumbers" "fewest" "LLivingNumbers$Fewest;" ∈ wsX9_child := List.mem_of_getElem? (i := 2) rfl
theorem hv_X9_bargainsSaid : yX9_bargainsSaid.cls = RX9 ∧ yX9_bargainsSaid.cls ≠ "java/lang/invoke/MethodHandle" ∧ yX9_bargainsSaid.cls ≠ "java/lang/invoke/VarHandle" ∧ (parseMethodDescriptor yX9_bargainsSaid.desc).map (fun d => d.parameters.length) = some 5 := by decide +kernel
set_option maxHeartbeats 1000000 in
set_option maxRecDepth 20000 in
theorem c_X9_written (l : Launch) (E : zE) (ac : Nat → Nat) (flt : Int) (ce la si : Int → Int) (ln : Int) (co : Int → Int) (n : Int) (on : Nat → Option Nat) (tr : Int) (fw cw ch nm : Int → Int) (an : Int → Nat) (kd vl nb fr tl : Int → Int) (v : Int) (k : Int) (lane : Int) (i : Int) (cn : Int) (what : Int) (ss : Int → Int) (sl : Int → Int) (hrel : zRel la si ss sl) (hce : zRg ce) (h_v : -2147483648 ≤ v ∧ v ≤ 2147483647) (h_k : -2147483648 ≤ k ∧ k ≤ 2147483647) (h_lane : -2147483648 ≤ lane ∧ lane ≤ 2147483647) (h_i : -2147483648 ≤ i ∧ i ≤ 2147483647) (h_cn : -2147483648 ≤ cn ∧ cn ≤ 2147483647) (h_what : -2147483648 ≤ what ∧ what ≤ 2147483647) (hp : 0 ≤ n ∧ n ≤ 10) (hon : zOns n on an) (hpe : zPeo n kd vl nb fr tl) (hap : zAp (cW E ac flt ce la si ln co n on tr fw cw ch nm) n an) : zMi l E yX9_written wsX9_written (zr 7 0 0) [.ref (ac 0), .int (jI (v)), .int (jI (k)), .int (jI (lane)), .int (jI (i)), .int (jI (cn)), .int (jI (what))] (cW E ac flt ce la si ln co n on tr fw cw ch nm) (fun H => zNm E n an kd vl nb fr tl H) (fun r (u : Int) => zA_written n kd vl nb fr tl ss sl ce v k lane i cn what r u) (fun (u : Int) => cW E ac u ce la si ln co n on tr fw cw ch nm) 0 0 := by
  refine zMi_of (own := RX9) (cc := cX9_written) (maxL := 12) (by decide) rfl (Nat.le_of_ble_eq_true rfl) rfl ?_
  intro p e s m args below meth c Q A S hK hA hS hP hD hAe hG hQ ls hl
  have hl : lv_has ls 12 [(0, .ref (ac 0)), (1, .int (jI (v))), (2, .int (jI (k))), (3, .int (jI (lane))), (4, .int (jI (i))), (5, .int (jI (cn))), (6, .int (jI (what)))] := hl
  have hNA := zNm_A hG hAe hap
  have hls := zRel_ls hrel
  refine lv_aload_n S.1 S.2.1 dX9_written_0 rfl (lv_at hl 0 rfl) ?_
  refine lv_iload_n S.1 S.2.1 dX9_written_1 rfl (lv_at hl 1 rfl) ?_
  refine lv_iload_n S.1 S.2.1 dX9_written_2 rfl (lv_at hl 2 rfl) ?_
  refine lv_iload S.1 S.2.1 dX9_written_3 (lv_at hl 6 rfl) ?_
  refine z_if_lt (tgt := 14) S dX9_written_5 (by decide) (by omega) (fun c_5 => ?_) (fun c_5 => ?_)
  · skip
    refine z_iconst S dX9_written_14 ?_
    refine z_goto (tgt := 19) S dX9_written_15 (by decide) ?_
    refine lv_iload_n S.1 S.2.1 dX9_written_19 rfl (lv_at hl 3 rfl) ?_
    refine lv_iload S.1 S.2.1 dX9_written_20 (lv_at hl 4 rfl) ?_
    refine lv_iload S.1 S.2.1 dX9_written_22 (lv_at hl 5 rfl) ?_
    refine z_miw (z_mV S hK (c_X9_refusalOfRow l E ac flt ce la si ln co n on tr fw cw ch nm v k 1 lane i cn ss sl an (by omega) (by omega) (by omega) (by omega) (by omega) (by omega) (hrel) (hce) (by omega) (hon) _) gX9_written_X9_refusalOfRow rfl hv_X9_refusalOfRow ⟨Nat.le_of_ble_eq_true rfl, Nat.le_of_ble_eq_true rfl⟩ (va_recv hK hP (ci := 9) (q0 := 0) rfl rfl) hP hD trivial hl.1 rfl (Nat.le_of_ble_eq_true rfl) ⟨by decide, by decide⟩ rfl dX9_written_24) hD hS hA (fun r_24 u H locs h_24 hP hD hS => ?_)
    obtain ⟨u24_flt, u24_flt_e⟩ : ∃ z, z = u := ⟨_, rfl⟩
    subst u24_flt_e
    try dsimp only at h_24
    have hP : zP E (cW E ac u24_flt ce la si ln co n on tr fw cw ch nm) H := hP
    have hD : va_D A (cW E ac u24_flt ce la si ln co n on tr fw cw ch nm) := hD
    have h_24b := zRow_rng h_24
    refine lv_istore (lv' := [(7, .int (jI (r_24))), (0, .ref (ac 0)), (1, .int (jI (v))), (2, .int (jI (k))), (3, .int (jI (lane))), (4, .int (jI (i))), (5, .int (jI (cn))), (6, .int (jI (what)))]) S.1 S.2.1 dX9_written_27 hl (by decide) rfl (fun ls hl => ?_)
    refine lv_iload S.1 S.2.1 dX9_written_29 (lv_at hl 0 rfl) ?_
    refine z_if_ge (tgt := 37) S dX9_written_31 (by decide) (by omega) (fun c_31 => ?_) (fun c_31 => ?_)
    · skip
      have ok2 := zRow_ok2 hrel h_24 (by omega)
      refine z_iconst S dX9_written_37 ?_
      refine lv_istore (lv' := [(8, .int (jI (0))), (7, .int (jI (r_24))), (0, .ref (ac 0)), (1, .int (jI (v))), (2, .int (jI (k))), (3, .int (jI (lane))), (4, .int (jI (i))), (5, .int (jI (cn))), (6, .int (jI (what)))]) S.1 S.2.1 dX9_written_38 hl (by decide) rfl (fun ls hl => ?_)
      refine z_bipush S (by decide +kernel) dX9_written_40 ?_
      refine lv_istore (lv' := [(9, .int (jI (-9))), (8, .int (jI (0))), (7, .int (jI (r_24))), (0, .ref (ac 0)), (1, .int (jI (v))), (2, .int (jI (k))), (3, .int (jI (lane))), (4, .int (jI (i))), (5, .int (jI (cn))), (6, .int (jI (what)))]) S.1 S.2.1 dX9_written_42 hl (by decide) rfl (fun ls hl => ?_)
      refine z_bipush S (by decide +kernel) dX9_written_44 ?_
      refine lv_istore (lv' := [(10, .int (jI (-9))), (9, .int (jI (-9))), (8, .int (jI (0))), (7, .int (jI (r_24))), (0, .ref (ac 0)), (1, .int (jI (v))), (2, .int (jI (k))), (3, .int (jI (lane))), (4, .int (jI (i))), (5, .int (jI (cn))), (6, .int (jI (what)))]) S.1 S.2.1 dX9_written_46 hl (by decide) rfl (fun ls hl => ?_)
      refine z_iconst S dX9_written_48 ?_
      refine lv_istore (lv' := [(11, .int (jI (0))), (10, .int (jI (-9))), (9, .int (jI (-9))), (8, .int (jI (0))), (7, .int (jI (r_24))), (0, .ref (ac 0)), (1, .int (jI (v))), (2, .int (jI (k))), (3, .int (jI (lane))), (4, .int (jI (i))), (5, .int (jI (cn))), (6, .int (jI (what)))]) S.1 S.2.1 dX9_written_49 hl (by decide) rfl (fun ls hl => ?_)
      suffices HL_1 : ∀ (n_2 : Nat) (dy : Int) (mn : Int) (so : Int) (lt : Int), (110 - dy).toNat < n_2 → (0 ≤ dy ∧ dy ≤ 110) → (mn = zcnt (fun x => (fun d => ∀ j, 0 ≤ j → j < cn → zlive kd vl fr tl (ce (100 * k + i + j)) v d) (x - 1)) dy.toNat) → ((0 ≤ mn ∧ mn ≤ dy) ∧ (-9 ≤ so ∧ so ≤ 110) ∧ (-9 ≤ lt ∧ lt ≤ 110)) → (zFst (fun d => ∀ j, 0 ≤ j → j < cn → zlive kd vl fr tl (ce (100 * k + i + j)) v d) dy so) → (zLst (fun d => ∀ j, 0 ≤ j → j < cn → zlive kd vl fr tl (ce (100 * k + i + j)) v d) dy lt) → ∀ (H : Heap) (locs : List Loc), zP E (cW E ac u24_flt ce la si ln co n on tr fw cw ch nm) H → va_D A (cW E ac u24_flt ce la si ln co n on tr fw cw ch nm) → va_S A s.heap H locs → ∀ (ls : Array Slot), lv_has ls 12 [(11, .int (jI (dy))), (8, .int (jI (mn))), (9, .int (jI (so))), (10, .int (jI (lt))), (0, .ref (ac 0)), (1, .int (jI (v))), (2, .int (jI (k))), (3, .int (jI (lane))), (4, .int (jI (i))), (5, .int (jI (cn))), (6, .int (jI (what)))] → W p l e (zr 7 0 0) s m args below meth c H locs 0 0 Q (F0 m 51 ls []) from
        HL_1 _ 0 0 (-9) (-9) (Nat.lt_succ_self _) (by omega) (rfl) (by omega) (zFst_0) (zLst_0) _ _ hP hD hS ls (lv_sub hl [0, 3, 2, 1, 5, 6, 7, 8, 9, 10, 11] rfl)
      intro n_2
      induction n_2 with
      | zero => intro dy mn so lt hm hdy hmn hr3 hso hla; exact absurd hm (Nat.not_lt_zero _)
      | succ n_2 ih_3 =>
        intro dy mn so lt hm hdy hmn hr3 hso hla H locs hP hD hS ls hl
        refine lv_iload S.1 S.2.1 dX9_written_51 (lv_at hl 0 rfl) ?_
        refine z_bipush S (by decide +kernel) dX9_written_53 ?_
        refine z_icmp_ge (tgt := 102) S dX9_written_55 (by decide) (by omega) (fun c_55 => ?_) (fun c_55 => ?_)
        · skip
          refine lv_iload S.1 S.2.1 dX9_written_102 (lv_at hl 10 rfl) ?_
          refine z_if_ne (tgt := 110) S dX9_written_104 (by decide) (by omega) (fun c_104 => ?_) (fun c_104 => ?_)
          · skip
            refine lv_iload S.1 S.2.1 dX9_written_110 (lv_at hl 10 rfl) ?_
            refine z_iconst S dX9_written_112 ?_
            refine z_icmp_ne (tgt := 121) S dX9_written_113 (by decide) (by omega) (fun c_113 => ?_) (fun c_113 => ?_)
            · skip
              refine lv_iload S.1 S.2.1 dX9_written_121 (lv_at hl 3 rfl) ?_
              exact hQ (lt) (u24_flt) _ _ (⟨_, _, zRow_cong h_24 (by omega), Or.inr ⟨ok2.2.2.2.1.1, ok2.2.2.2.1.2, by first | exact Or.inl ⟨by omega, by rw [hmn, show dy = 110 by omega]; rfl⟩ | exact Or.inr (Or.inl ⟨by omega, by rw [show dy = 110 by omega] at hso; exact hso⟩) | exact Or.inr (Or.inr ⟨by omega, by rw [show dy = 110 by omega] at hla; exact hla⟩)⟩⟩) hP hD hS _ _ dX9_written_123
            · skip
              refine lv_iload S.1 S.2.1 dX9_written_116 (lv_at hl 2 rfl) ?_
              refine z_goto (tgt := 123) S dX9_written_118 (by decide) ?_
              exact hQ (so) (u24_flt) _ _ (⟨_, _, zRow_cong h_24 (by omega), Or.inr ⟨ok2.2.2.2.1.1, ok2.2.2.2.1.2, by first | exact Or.inl ⟨by omega, by rw [hmn, show dy = 110 by omega]; rfl⟩ | exact Or.inr (Or.inl ⟨by omega, by rw [show dy = 110 by omega] at hso; exact hso⟩) | exact Or.inr (Or.inr ⟨by omega, by rw [show dy = 110 by omega] at hla; exact hla⟩)⟩⟩) hP hD hS _ _ dX9_written_123
          · skip
            refine lv_iload S.1 S.2.1 dX9_written_107 (lv_at hl 1 rfl) ?_
            exact hQ (mn) (u24_flt) _ _ (⟨_, _, zRow_cong h_24 (by omega), Or.inr ⟨ok2.2.2.2.1.1, ok2.2.2.2.1.2, by first | exact Or.inl ⟨by omega, by rw [hmn, show dy = 110 by omega]; rfl⟩ | exact Or.inr (Or.inl ⟨by omega, by rw [show dy = 110 by omega] at hso; exact hso⟩) | exact Or.inr (Or.inr ⟨by omega, by rw [show dy = 110 by omega] at hla; exact hla⟩)⟩⟩) hP hD hS _ _ dX9_written_109
        · skip
          refine lv_aload_n S.1 S.2.1 dX9_written_58 rfl (lv_at hl 4 rfl) ?_
          refine lv_iload_n S.1 S.2.1 dX9_written_59 rfl (lv_at hl 6 rfl) ?_
          refine lv_iload S.1 S.2.1 dX9_written_60 (lv_at hl 8 rfl) ?_
          refine lv_iload S.1 S.2.1 dX9_written_62 (lv_at hl 9 rfl) ?_
          refine lv_iload_n S.1 S.2.1 dX9_written_64 rfl (lv_at hl 5 rfl) ?_
          refine lv_iload S.1 S.2.1 dX9_written_65 (lv_at hl 0 rfl) ?_
          refine z_ri (z_rV S hK (c_X9_meaning l E ac u24_flt ce la si ln co n on tr fw cw ch nm an kd vl nb fr tl k i cn v dy ss sl (hrel) (hce) (by omega) (by omega) (ok2.2.2.2.2) (by omega) (by omega) (by omega) (hon) (hpe)) gX9_written_X9_meaning rfl hv_X9_meaning ⟨Nat.le_of_ble_eq_true rfl, Nat.le_of_ble_eq_true rfl⟩ (va_recv hK hP (ci := 9) (q0 := 0) rfl rfl) ⟨hP, (zNm_keep hG hS hNA)⟩ hl.1 rfl (Nat.le_of_ble_eq_true rfl) ⟨by decide, by decide⟩ rfl dX9_written_67) (fun r_67 h_67 => ?_)
          have hsg := zMean_sg h_67 (by omega) (fun j q1 q2 => (hpe _ (ok2.2.2.2.2 j q1 q2).1 (ok2.2.2.2.2 j q1 q2).2).2.2.1)
          have hmr := zMean_rng h_67 (by omega) (fun j q1 q2 => (hpe _ (ok2.2.2.2.2 j q1 q2).1 (ok2.2.2.2.2 j q1 q2).2).2.2.1)
          refine z_if_lt (tgt := 96) S dX9_written_70 (by decide) (by omega) (fun c_70 => ?_) (fun c_70 => ?_)
          · skip
            refine z_iinc (lv' := [(11, .int (jI (dy + 1))), (8, .int (jI (mn))), (9, .int (jI (so))), (10, .int (jI (lt))), (0, .ref (ac 0)), (1, .int (jI (v))), (2, .int (jI (k))), (3, .int (jI (lane))), (4, .int (jI (i))), (5, .int (jI (cn))), (6, .int (jI (what)))]) S hl (k := 0) rfl (by decide) rfl dX9_written_96 (fun ls hl => ?_)
            refine z_goto (tgt := 51) S dX9_written_99 (by decide) ?_
            exact ih_3 (dy + 1) mn so lt (by omega) (by omega) (by first | exact hmn.trans (zcnt0_f (P := (fun d => ∀ j, 0 ≤ j → j < cn → zlive kd vl fr tl (ce (100 * k + i + j)) v d)) (by omega) (hsg.elim (fun q => absurd q.1 (by omega)) (fun q => q.2))).symm | rw [zcnt0_t (P := (fun d => ∀ j, 0 ≤ j → j < cn → zlive kd vl fr tl (ce (100 * k + i + j)) v d)) (by omega) (hsg.elim (fun q => q.2) (fun q => absurd q.1 (by omega))), ← hmn]) (by omega) (by first | exact zFst_no hso (hsg.elim (fun q => absurd q.1 (by omega)) (fun q => q.2)) | exact zFst_keep hso (by unfold zFst at hso; omega) | exact zFst_new hso (by omega) (by omega) (hsg.elim (fun q => q.2) (fun q => absurd q.1 (by omega)))) (by first | exact zLst_no hla (hsg.elim (fun q => absurd q.1 (by omega)) (fun q => q.2)) | exact zLst_yes (by omega) (hsg.elim (fun q => q.2) (fun q => absurd q.1 (by omega)))) _ _ hP hD hS ls (lv_sub hl [0, 1, 2, 3, 4, 5, 6, 7, 8, 9, 10] rfl)
          · skip
            refine z_iinc (lv' := [(8, .int (jI (mn + 1))), (11, .int (jI (dy))), (9, .int (jI (so))), (10, .int (jI (lt))), (0, .ref (ac 0)), (1, .int (jI (v))), (2, .int (jI (k))), (3, .int (jI (lane))), (4, .int (jI (i))), (5, .int (jI (cn))), (6, .int (jI (what)))]) S hl (k := 1) rfl (by decide) rfl dX9_written_73 (fun ls hl => ?_)
            refine lv_iload S.1 S.2.1 dX9_written_76 (lv_at hl 2 rfl) ?_
            refine z_bipush S (by decide +kernel) dX9_written_78 ?_
            refine z_icmp_ne (tgt := 88) S dX9_written_80 (by decide) (by omega) (fun c_80 => ?_) (fun c_80 => ?_)
            · skip
              refine lv_iload S.1 S.2.1 dX9_written_88 (lv_at hl 2 rfl) ?_
              refine lv_istore (lv' := [(9, .int (jI (so))), (8, .int (jI (mn + 1))), (11, .int (jI (dy))), (10, .int (jI (lt))), (0, .ref (ac 0)), (1, .int (jI (v))), (2, .int (jI (k))), (3, .int (jI (lane))), (4, .int (jI (i))), (5, .int (jI (cn))), (6, .int (jI (what)))]) S.1 S.2.1 dX9_written_90 hl (by decide) rfl (fun ls hl => ?_)
              refine lv_iload S.1 S.2.1 dX9_written_92 (lv_at hl 2 rfl) ?_
              refine lv_istore (lv' := [(10, .int (jI (dy))), (9, .int (jI (so))), (8, .int (jI (mn + 1))), (11, .int (jI (dy))), (0, .ref (ac 0)), (1, .int (jI (v))), (2, .int (jI (k))), (3, .int (jI (lane))), (4, .int (jI (i))), (5, .int (jI (cn))), (6, .int (jI (what)))]) S.1 S.2.1 dX9_written_94 hl (by decide) rfl (fun ls hl => ?_)
              refine z_iinc (lv' := [(11, .int (jI (dy + 1))), (10, .int (jI (dy))), (9, .int (jI (so))), (8, .int (jI (mn + 1))), (0, .ref (ac 0)), (1, .int (jI (v))), (2, .int (jI (k))), (3, .int (jI (lane))), (4, .int (jI (i))), (5, .int (jI (cn))), (6, .int (jI (what)))]) S hl (k := 3) rfl (by decide) rfl dX9_written_96 (fun ls hl => ?_)
              refine z_goto (tgt := 51) S dX9_written_99 (by decide) ?_
              exact ih_3 (dy + 1) (mn + 1) so dy (by omega) (by omega) (by first | exact hmn.trans (zcnt0_f (P := (fun d => ∀ j, 0 ≤ j → j < cn → zlive kd vl fr tl (ce (100 * k + i + j)) v d)) (by omega) (hsg.elim (fun q => absurd q.1 (by omega)) (fun q => q.2))).symm | rw [zcnt0_t (P := (fun d => ∀ j, 0 ≤ j → j < cn → zlive kd vl fr tl (ce (100 * k + i + j)) v d)) (by omega) (hsg.elim (fun q => q.2) (fun q => absurd q.1 (by omega))), ← hmn]) (by omega) (by first | exact zFst_no hso (hsg.elim (fun q => absurd q.1 (by omega)) (fun q => q.2)) | exact zFst_keep hso (by unfold zFst at hso; omega) | exact zFst_new hso (by omega) (by omega) (hsg.elim (fun q => q.2) (fun q => absurd q.1 (by omega)))) (by first | exact zLst_no hla (hsg.elim (fun q => absurd q.1 (by omega)) (fun q => q.2)) | exact zLst_yes (by omega) (hsg.elim (fun q => q.2) (fun q => absurd q.1 (by omega)))) _ _ hP hD hS ls (lv_sub hl [0, 3, 2, 1, 4, 5, 6, 7, 8, 9, 10] rfl)
            · skip
              refine lv_iload S.1 S.2.1 dX9_written_83 (lv_at hl 1 rfl) ?_
              refine z_goto (tgt := 90) S dX9_written_85 (by decide) ?_
              refine lv_istore (lv' := [(9, .int (jI (dy))), (8, .int (jI (mn + 1))), (11, .int (jI (dy))), (10, .int (jI (lt))), (0, .ref (ac 0)), (1, .int (jI (v))), (2, .int (jI (k))), (3, .int (jI (lane))), (4, .int (jI (i))), (5, .int (jI (cn))), (6, .int (jI (what)))]) S.1 S.2.1 dX9_written_90 hl (by decide) rfl (fun ls hl => ?_)
              refine lv_iload S.1 S.2.1 dX9_written_92 (lv_at hl 2 rfl) ?_
              refine lv_istore (lv' := [(10, .int (jI (dy))), (9, .int (jI (dy))), (8, .int (jI (mn + 1))), (11, .int (jI (dy))), (0, .ref (ac 0)), (1, .int (jI (v))), (2, .int (jI (k))), (3, .int (jI (lane))), (4, .int (jI (i))), (5, .int (jI (cn))), (6, .int (jI (what)))]) S.1 S.2.1 dX9_written_94 hl (by decide) rfl (fun ls hl => ?_)
              refine z_iinc (lv' := [(11, .int (jI (dy + 1))), (10, .int (jI (dy))), (9, .int (jI (dy))), (8, .int (jI (mn + 1))), (0, .ref (ac 0)), (1, .int (jI (v))), (2, .int (jI (k))), (3, .int (jI (lane))), (4, .int (jI (i))), (5, .int (jI (cn))), (6, .int (jI (what)))]) S hl (k := 3) rfl (by decide) rfl dX9_written_96 (fun ls hl => ?_)
              refine z_goto (tgt := 51) S dX9_written_99 (by decide) ?_
              exact ih_3 (dy + 1) (mn + 1) dy dy (by omega) (by omega) (by first | exact hmn.trans (zcnt0_f (P := (fun d => ∀ j, 0 ≤ j → j < cn → zlive kd vl fr tl (ce (100 * k + i + j)) v d)) (by omega) (hsg.elim (fun q => absurd q.1 (by omega)) (fun q => q.2))).symm | rw [zcnt0_t (P := (fun d => ∀ j, 0 ≤ j → j < cn → zlive kd vl fr tl (ce (100 * k + i + j)) v d)) (by omega) (hsg.elim (fun q => q.2) (fun q => absurd q.1 (by omega))), ← hmn]) (by omega) (by first | exact zFst_no hso (hsg.elim (fun q => absurd q.1 (by omega)) (fun q => q.2)) | exact zFst_keep hso (by unfold zFst at hso; omega) | exact zFst_new hso (by omega) (by omega) (hsg.elim (fun q => q.2) (fun q => absurd q.1 (by omega)))) (by first | exact zLst_no hla (hsg.elim (fun q => absurd q.1 (by omega)) (fun q => q.2)) | exact zLst_yes (by omega) (hsg.elim (fun q => q.2) (fun q => absurd q.1 (by omega)))) _ _ hP hD hS ls (lv_sub hl [0, 3, 2, 1, 4, 5, 6, 7, 8, 9, 10] rfl)
    · skip
      refine lv_iload S.1 S.2.1 dX9_written_34 (lv_at hl 0 rfl) ?_
      exact hQ (r_24) (u24_flt) _ _ (⟨_, _, zRow_cong h_24 (by omega), Or.inl ⟨by omega, rfl, rfl⟩⟩) hP hD hS _ _ dX9_written_36
  · skip
    refine lv_iload S.1 S.2.1 dX9_written_8 (lv_at hl 6 rfl) ?_
    refine z_iconst S dX9_written_10 ?_
    refine z_icmp_le (tgt := 18) S dX9_written_11 (by decide) (by omega) (fun c_11 => ?_) (fun c_11 => ?_)
    · skip
      refine z_iconst S dX9_written_18 ?_
      refine lv_iload_n S.1 S.2.1 dX9_written_19 rfl (lv_at hl 3 rfl) ?_
      refine lv_iload S.1 S.2.1 dX9_written_20 (lv_at hl 4 rfl) ?_
      refine lv_iload S.1 S.2.1 dX9_written_22 (lv_at hl 5 rfl) ?_
      refine z_miw (z_mV S hK (c_X9_refusalOfRow l E ac flt ce la si ln co n on tr fw cw ch nm v k 0 lane i cn ss sl an (by omega) (by omega) (by omega) (by omega) (by omega) (by omega) (hrel) (hce) (by omega) (hon) _) gX9_written_X9_refusalOfRow rfl hv_X9_refusalOfRow ⟨Nat.le_of_ble_eq_true rfl, Nat.le_of_ble_eq_true rfl⟩ (va_recv hK hP (ci := 9) (q0 := 0) rfl rfl) hP hD trivial hl.1 rfl (Nat.le_of_ble_eq_true rfl) ⟨by decide, by decide⟩ rfl dX9_written_24) hD hS hA (fun r_24 u H locs h_24 hP hD hS => ?_)
      obtain ⟨u24_flt, u24_flt_e⟩ : ∃ z, z = u := ⟨_, rfl⟩
      subst u24_flt_e
      try dsimp only at h_24
      have hP : zP E (cW E ac u24_flt ce la si ln co n on tr fw cw ch nm) H := hP
      have hD : va_D A (cW E ac u24_flt ce la si ln co n on tr fw cw ch nm) := hD
      have h_24b := zRow_rng h_24
      refine lv_istore (lv' := [(7, .int (jI (r_24))), (0, .ref (ac 0)), (1, .int (jI (v))), (2, .int (jI (k))), (3, .int (jI (lane))), (4, .int (jI (i))), (5, .int (jI (cn))), (6, .int (jI (what)))]) S.1 S.2.1 dX9_written_27 hl (by decide) rfl (fun ls hl => ?_)
      refine lv_iload S.1 S.2.1 dX9_written_29 (lv_at hl 0 rfl) ?_
      refine z_if_ge (tgt := 37) S dX9_written_31 (by decide) (by omega) (fun c_31 => ?_) (fun c_31 => ?_)
      · skip
        have ok2 := zRow_ok2 hrel h_24 (by omega)
        refine z_iconst S dX9_written_37 ?_
        refine lv_istore (lv' := [(8, .int (jI (0))), (7, .int (jI (r_24))), (0, .ref (ac 0)), (1, .int (jI (v))), (2, .int (jI (k))), (3, .int (jI (lane))), (4, .int (jI (i))), (5, .int (jI (cn))), (6, .int (jI (what)))]) S.1 S.2.1 dX9_written_38 hl (by decide) rfl (fun ls hl => ?_)
        refine z_bipush S (by decide +kernel) dX9_written_40 ?_
        refine lv_istore (lv' := [(9, .int (jI (-9))), (8, .int (jI (0))), (7, .int (jI (r_24))), (0, .ref (ac 0)), (1, .int (jI (v))), (2, .int (jI (k))), (3, .int (jI (lane))), (4, .int (jI (i))), (5, .int (jI (cn))), (6, .int (jI (what)))]) S.1 S.2.1 dX9_written_42 hl (by decide) rfl (fun ls hl => ?_)
        refine z_bipush S (by decide +kernel) dX9_written_44 ?_
        refine lv_istore (lv' := [(10, .int (jI (-9))), (9, .int (jI (-9))), (8, .int (jI (0))), (7, .int (jI (r_24))), (0, .ref (ac 0)), (1, .int (jI (v))), (2, .int (jI (k))), (3, .int (jI (lane))), (4, .int (jI (i))), (5, .int (jI (cn))), (6, .int (jI (what)))]) S.1 S.2.1 dX9_written_46 hl (by decide) rfl (fun ls hl => ?_)
        refine z_iconst S dX9_written_48 ?_
        refine lv_istore (lv' := [(11, .int (jI (0))), (10, .int (jI (-9))), (9, .int (jI (-9))), (8, .int (jI (0))), (7, .int (jI (r_24))), (0, .ref (ac 0)), (1, .int (jI (v))), (2, .int (jI (k))), (3, .int (jI (lane))), (4, .int (jI (i))), (5, .int (jI (cn))), (6, .int (jI (what)))]) S.1 S.2.1 dX9_written_49 hl (by decide) rfl (fun ls hl => ?_)
        suffices HL_4 : ∀ (n_5 : Nat) (dy : Int) (mn : Int) (so : Int) (lt : Int), (110 - dy).toNat < n_5 → (0 ≤ dy ∧ dy ≤ 110) → (mn = zcnt (fun x => (fun d => ∀ j, 0 ≤ j → j < cn → zlive kd vl fr tl (ce (100 * k + i + j)) v d) (x - 1)) dy.toNat) → ((0 ≤ mn ∧ mn ≤ dy) ∧ (-9 ≤ so ∧ so ≤ 110) ∧ (-9 ≤ lt ∧ lt ≤ 110)) → (zFst (fun d => ∀ j, 0 ≤ j → j < cn → zlive kd vl fr tl (ce (100 * k + i + j)) v d) dy so) → (zLst (fun d => ∀ j, 0 ≤ j → j < cn → zlive kd vl fr tl (ce (100 * k + i + j)) v d) dy lt) → ∀ (H : Heap) (locs : List Loc), zP E (cW E ac u24_flt ce la si ln co n on tr fw cw ch nm) H → va_D A (cW E ac u24_flt ce la si ln co n on tr fw cw ch nm) → va_S A s.heap H locs → ∀ (ls : Array Slot), lv_has ls 12 [(11, .int (jI (dy))), (8, .int (jI (mn))), (9, .int (jI (so))), (10, .int (jI (lt))), (0, .ref (ac 0)), (1, .int (jI (v))), (2, .int (jI (k))), (3, .int (jI (lane))), (4, .int (jI (i))), (5, .int (jI (cn))), (6, .int (jI (what)))] → W p l e (zr 7 0 0) s m args below meth c H locs 0 0 Q (F0 m 51 ls []) from
          HL_4 _ 0 0 (-9) (-9) (Nat.lt_succ_self _) (by omega) (rfl) (by omega) (zFst_0) (zLst_0) _ _ hP hD hS ls (lv_sub hl [0, 3, 2, 1, 5, 6, 7, 8, 9, 10, 11] rfl)
        intro n_5
        induction n_5 with
        | zero => intro dy mn so lt hm hdy hmn hr3 hso hla; exact absurd hm (Nat.not_lt_zero _)
        | succ n_5 ih_6 =>
          intro dy mn so lt hm hdy hmn hr3 hso hla H locs hP hD hS ls hl
          refine lv_iload S.1 S.2.1 dX9_written_51 (lv_at hl 0 rfl) ?_
          refine z_bipush S (by decide +kernel) dX9_written_53 ?_
          refine z_icmp_ge (tgt := 102) S dX9_written_55 (by decide) (by omega) (fun c_55 => ?_) (fun c_55 => ?_)
          · skip
            refine lv_iload S.1 S.2.1 dX9_written_102 (lv_at hl 10 rfl) ?_
            refine z_if_ne (tgt := 110) S dX9_written_104 (by decide) (by omega) (fun c_104 => ?_) (fun c_104 => ?_)
            · skip
              refine lv_iload S.1 S.2.1 dX9_written_110 (lv_at hl 10 rfl) ?_
              refine z_iconst S dX9_written_112 ?_
              refine z_icmp_ne (tgt := 121) S dX9_written_113 (by decide) (by omega) (fun c_113 => ?_) (fun c_113 => ?_)
              · skip
                refine lv_iload S.1 S.2.1 dX9_written_121 (lv_at hl 3 rfl) ?_
                exact hQ (lt) (u24_flt) _ _ (⟨_, _, zRow_cong h_24 (by omega), Or.inr ⟨ok2.2.2.2.1.1, ok2.2.2.2.1.2, by first | exact Or.inl ⟨by omega, by rw [hmn, show dy = 110 by omega]; rfl⟩ | exact Or.inr (Or.inl ⟨by omega, by rw [show dy = 110 by omega] at hso; exact hso⟩) | exact Or.inr (Or.inr ⟨by omega, by rw [show dy = 110 by omega] at hla; exact hla⟩)⟩⟩) hP hD hS _ _ dX9_written_123
              · skip
                refine lv_iload S.1 S.2.1 dX9_written_116 (lv_at hl 2 rfl) ?_
                refine z_goto (tgt := 123) S dX9_written_118 (by decide) ?_
                exact hQ (so) (u24_flt) _ _ (⟨_, _, zRow_cong h_24 (by omega), Or.inr ⟨ok2.2.2.2.1.1, ok2.2.2.2.1.2, by first | exact Or.inl ⟨by omega, by rw [hmn, show dy = 110 by omega]; rfl⟩ | exact Or.inr (Or.inl ⟨by omega, by rw [show dy = 110 by omega] at hso; exact hso⟩) | exact Or.inr (Or.inr ⟨by omega, by rw [show dy = 110 by omega] at hla; exact hla⟩)⟩⟩) hP hD hS _ _ dX9_written_123
            · skip
              refine lv_iload S.1 S.2.1 dX9_written_107 (lv_at hl 1 rfl) ?_
              exact hQ (mn) (u24_flt) _ _ (⟨_, _, zRow_cong h_24 (by omega), Or.inr ⟨ok2.2.2.2.1.1, ok2.2.2.2.1.2, by first | exact Or.inl ⟨by omega, by rw [hmn, show dy = 110 by omega]; rfl⟩ | exact Or.inr (Or.inl ⟨by omega, by rw [show dy = 110 by omega] at hso; exact hso⟩) | exact Or.inr (Or.inr ⟨by omega, by rw [show dy = 110 by omega] at hla; exact hla⟩)⟩⟩) hP hD hS _ _ dX9_written_109
          · skip
            refine lv_aload_n S.1 S.2.1 dX9_written_58 rfl (lv_at hl 4 rfl) ?_
            refine lv_iload_n S.1 S.2.1 dX9_written_59 rfl (lv_at hl 6 rfl) ?_
            refine lv_iload S.1 S.2.1 dX9_written_60 (lv_at hl 8 rfl) ?_
            refine lv_iload S.1 S.2.1 dX9_written_62 (lv_at hl 9 rfl) ?_
            refine lv_iload_n S.1 S.2.1 dX9_written_64 rfl (lv_at hl 5 rfl) ?_
            refine lv_iload S.1 S.2.1 dX9_written_65 (lv_at hl 0 rfl) ?_
            refine z_ri (z_rV S hK (c_X9_meaning l E ac u24_flt ce la si ln co n on tr fw cw ch nm an kd vl nb fr tl k i cn v dy ss sl (hrel) (hce) (by omega) (by omega) (ok2.2.2.2.2) (by omega) (by omega) (by omega) (hon) (hpe)) gX9_written_X9_meaning rfl hv_X9_meaning ⟨Nat.le_of_ble_eq_true rfl, Nat.le_of_ble_eq_true rfl⟩ (va_recv hK hP (ci := 9) (q0 := 0) rfl rfl) ⟨hP, (zNm_keep hG hS hNA)⟩ hl.1 rfl (Nat.le_of_ble_eq_true rfl) ⟨by decide, by decide⟩ rfl dX9_written_67) (fun r_67 h_67 => ?_)
            have hsg := zMean_sg h_67 (by omega) (fun j q1 q2 => (hpe _ (ok2.2.2.2.2 j q1 q2).1 (ok2.2.2.2.2 j q1 q2).2).2.2.1)
            have hmr := zMean_rng h_67 (by omega) (fun j q1 q2 => (hpe _ (ok2.2.2.2.2 j q1 q2).1 (ok2.2.2.2.2 j q1 q2).2).2.2.1)
            refine z_if_lt (tgt := 96) S dX9_written_70 (by decide) (by omega) (fun c_70 => ?_) (fun c_70 => ?_)
            · skip
              refine z_iinc (lv' := [(11, .int (jI (dy + 1))), (8, .int (jI (mn))), (9, .int (jI (so))), (10, .int (jI (lt))), (0, .ref (ac 0)), (1, .int (jI (v))), (2, .int (jI (k))), (3, .int (jI (lane))), (4, .int (jI (i))), (5, .int (jI (cn))), (6, .int (jI (what)))]) S hl (k := 0) rfl (by decide) rfl dX9_written_96 (fun ls hl => ?_)
              refine z_goto (tgt := 51) S dX9_written_99 (by decide) ?_
              exact ih_6 (dy + 1) mn so lt (by omega) (by omega) (by first | exact hmn.trans (zcnt0_f (P := (fun d => ∀ j, 0 ≤ j → j < cn → zlive kd vl fr tl (ce (100 * k + i + j)) v d)) (by omega) (hsg.elim (fun q => absurd q.1 (by omega)) (fun q => q.2))).symm | rw [zcnt0_t (P := (fun d => ∀ j, 0 ≤ j → j < cn → zlive kd vl fr tl (ce (100 * k + i + j)) v d)) (by omega) (hsg.elim (fun q => q.2) (fun q => absurd q.1 (by omega))), ← hmn]) (by omega) (by first | exact zFst_no hso (hsg.elim (fun q => absurd q.1 (by omega)) (fun q => q.2)) | exact zFst_keep hso (by unfold zFst at hso; omega) | exact zFst_new hso (by omega) (by omega) (hsg.elim (fun q => q.2) (fun q => absurd q.1 (by omega)))) (by first | exact zLst_no hla (hsg.elim (fun q => absurd q.1 (by omega)) (fun q => q.2)) | exact zLst_yes (by omega) (hsg.elim (fun q => q.2) (fun q => absurd q.1 (by omega)))) _ _ hP hD hS ls (lv_sub hl [0, 1, 2, 3, 4, 5, 6, 7, 8, 9, 10] rfl)
            · skip
              refine z_iinc (lv' := [(8, .int (jI (mn + 1))), (11, .int (jI (dy))), (9, .int (jI (so))), (10, .int (jI (lt))), (0, .ref (ac 0)), (1, .int (jI (v))), (2, .int (jI (k))), (3, .int (jI (lane))), (4, .int (jI (i))), (5, .int (jI (cn))), (6, .int (jI (what)))]) S hl (k := 1) rfl (by decide) rfl dX9_written_73 (fun ls hl => ?_)
              refine lv_iload S.1 S.2.1 dX9_written_76 (lv_at hl 2 rfl) ?_
              refine z_bipush S (by decide +kernel) dX9_written_78 ?_
              refine z_icmp_ne (tgt := 88) S dX9_written_80 (by decide) (by omega) (fun c_80 => ?_) (fun c_80 => ?_)
              · skip
                refine lv_iload S.1 S.2.1 dX9_written_88 (lv_at hl 2 rfl) ?_
                refine lv_istore (lv' := [(9, .int (jI (so))), (8, .int (jI (mn + 1))), (11, .int (jI (dy))), (10, .int (jI (lt))), (0, .ref (ac 0)), (1, .int (jI (v))), (2, .int (jI (k))), (3, .int (jI (lane))), (4, .int (jI (i))), (5, .int (jI (cn))), (6, .int (jI (what)))]) S.1 S.2.1 dX9_written_90 hl (by decide) rfl (fun ls hl => ?_)
                refine lv_iload S.1 S.2.1 dX9_written_92 (lv_at hl 2 rfl) ?_
                refine lv_istore (lv' := [(10, .int (jI (dy))), (9, .int (jI (so))), (8, .int (jI (mn + 1))), (11, .int (jI (dy))), (0, .ref (ac 0)), (1, .int (jI (v))), (2, .int (jI (k))), (3, .int (jI (lane))), (4, .int (jI (i))), (5, .int (jI (cn))), (6, .int (jI (what)))]) S.1 S.2.1 dX9_written_94 hl (by decide) rfl (fun ls hl => ?_)
                refine z_iinc (lv' := [(11, .int (jI (dy + 1))), (10, .int (jI (dy))), (9, .int (jI (so))), (8, .int (jI (mn + 1))), (0, .ref (ac 0)), (1, .int (jI (v))), (2, .int (jI (k))), (3, .int (jI (lane))), (4, .int (jI (i))), (5, .int (jI (cn))), (6, .int (jI (what)))]) S hl (k := 3) rfl (by decide) rfl dX9_written_96 (fun ls hl => ?_)
                refine z_goto (tgt := 51) S dX9_written_99 (by decide) ?_
                exact ih_6 (dy + 1) (mn + 1) so dy (by omega) (by omega) (by first | exact hmn.trans (zcnt0_f (P := (fun d => ∀ j, 0 ≤ j → j < cn → zlive kd vl fr tl (ce (100 * k + i + j)) v d)) (by omega) (hsg.elim (fun q => absurd q.1 (by omega)) (fun q => q.2))).symm | rw [zcnt0_t (P := (fun d => ∀ j, 0 ≤ j → j < cn → zlive kd vl fr tl (ce (100 * k + i + j)) v d)) (by omega) (hsg.elim (fun q => q.2) (fun q => absurd q.1 (by omega))), ← hmn]) (by omega) (by first | exact zFst_no hso (hsg.elim (fun q => absurd q.1 (by omega)) (fun q => q.2)) | exact zFst_keep hso (by unfold zFst at hso; omega) | exact zFst_new hso (by omega) (by omega) (hsg.elim (fun q => q.2) (fun q => absurd q.1 (by omega)))) (by first | exact zLst_no hla (hsg.elim (fun q => absurd q.1 (by omega)) (fun q => q.2)) | exact zLst_yes (by omega) (hsg.elim (fun q => q.2) (fun q => absurd q.1 (by omega)))) _ _ hP hD hS ls (lv_sub hl [0, 3, 2, 1, 4, 5, 6, 7, 8, 9, 10] rfl)
              · skip
                refine lv_iload S.1 S.2.1 dX9_written_83 (lv_at hl 1 rfl) ?_
                refine z_goto (tgt := 90) S dX9_written_85 (by decide) ?_
                refine lv_istore (lv' := [(9, .int (jI (dy))), (8, .int (jI (mn + 1))), (11, .int (jI (dy))), (10, .int (jI (lt))), (0, .ref (ac 0)), (1, .int (jI (v))), (2, .int (jI (k))), (3, .int (jI (lane))), (4, .int (jI (i))), (5, .int (jI (cn))), (6, .int (jI (what)))]) S.1 S.2.1 dX9_written_90 hl (by decide) rfl (fun ls hl => ?_)
                refine lv_iload S.1 S.2.1 dX9_written_92 (lv_at hl 2 rfl) ?_
                refine lv_istore (lv' := [(10, .int (jI (dy))), (9, .int (jI (dy))), (8, .int (jI (mn + 1))), (11, .int (jI (dy))), (0, .ref (ac 0)), (1, .int (jI (v))), (2, .int (jI (k))), (3, .int (jI (lane))), (4, .int (jI (i))), (5, .int (jI (cn))), (6, .int (jI (what)))]) S.1 S.2.1 dX9_written_94 hl (by decide) rfl (fun ls hl => ?_)
                refine z_iinc (lv' := [(11, .int (jI (dy + 1))), (10, .int (jI (dy))), (9, .int (jI (dy))), (8, .int (jI (mn + 1))), (0, .ref (ac 0)), (1, .int (jI (v))), (2, .int (jI (k))), (3, .int (jI (lane))), (4, .int (jI (i))), (5, .int (jI (cn))), (6, .int (jI (what)))]) S hl (k := 3) rfl (by decide) rfl dX9_written_96 (fun ls hl => ?_)
                refine z_goto (tgt := 51) S dX9_written_99 (by decide) ?_
                exact ih_6 (dy + 1) (mn + 1) dy dy (by omega) (by omega) (by first | exact hmn.trans (zcnt0_f (P := (fun d => ∀ j, 0 ≤ j → j < cn → zlive kd vl fr tl (ce (100 * k + i + j)) v d)) (by omega) (hsg.elim (fun q => absurd q.1 (by omega)) (fun q => q.2))).symm | rw [zcnt0_t (P := (fun d => ∀ j, 0 ≤ j → j < cn → zlive kd vl fr tl (ce (100 * k + i + j)) v d)) (by omega) (hsg.elim (fun q => q.2) (fun q => absurd q.1 (by omega))), ← hmn]) (by omega) (by first | exact zFst_no hso (hsg.elim (fun q => absurd q.1 (by omega)) (fun q => q.2)) | exact zFst_keep hso (by unfold zFst at hso; omega) | exact zFst_new hso (by omega) (by omega) (hsg.elim (fun q => q.2) (fun q => absurd q.1 (by omega)))) (by first | exact zLst_no hla (hsg.elim (fun q => absurd q.1 (by omega)) (fun q => q.2)) | exact zLst_yes (by omega) (hsg.elim (fun q => q.2) (fun q => absurd q.1 (by omega)))) _ _ hP hD hS ls (lv_sub hl [0, 3, 2, 1, 4, 5, 6, 7, 8, 9, 10] rfl)
      · skip
        refine lv_iload S.1 S.2.1 dX9_written_34 (lv_at hl 0 rfl) ?_
        exact hQ (r_24) (u24_flt) _ _ (⟨_, _, zRow_cong h_24 (by omega), Or.inl ⟨by omega, rfl, rfl⟩⟩) hP hD hS _ _ dX9_written_36
    · skip
      refine z_iconst S dX9_written_14 ?_
      refine z_goto (tgt := 19) S dX9_written_15 (by decide) ?_
      refine lv_iload_n S.1 S.2.1 dX9_written_19 rfl (lv_at hl 3 rfl) ?_
      refine lv_iload S.1 S.2.1 dX9_written_20 (lv_at hl 4 rfl) ?_
      refine lv_iload S.1 S.2.1 dX9_written_22 (lv_at hl 5 rfl) ?_
      refine z_miw (z_mV S hK (c_X9_refusalOfRow l E ac flt ce la si ln co n on tr fw cw ch nm v k 1 lane i cn ss sl an (by omega) (by omega) (by omega) (by omega) (by omega) (by omega) (hrel) (hce) (by omega) (hon) _) gX9_written_X9_refusalOfRow rfl hv_X9_refusalOfRow ⟨Nat.le_of_ble_eq_true rfl, Nat.le_of_ble_eq_true rfl⟩ (va_recv hK hP (ci := 9) (q0 := 0) rfl rfl) hP hD trivial hl.1 rfl (Nat.le_of_ble_eq_true rfl) ⟨by decide, by decide⟩ rfl dX9_written_24) hD hS hA (fun r_24 u H locs h_24 hP hD hS => ?_)
      obtain ⟨u24_flt, u24_flt_e⟩ : ∃ z, z = u := ⟨_, rfl⟩
      subst u24_flt_e
      try dsimp only at h_24
      have hP : zP E (cW E ac u24_flt ce la si ln co n on tr fw cw ch nm) H := hP
      have hD : va_D A (cW E ac u24_flt ce la si ln co n on tr fw cw ch nm) := hD
      have h_24b := zRow_rng h_24
      refine lv_istore (lv' := [(7, .int (jI (r_24))), (0, .ref (ac 0)), (1, .int (jI (v))), (2, .int (jI (k))), (3, .int (jI (lane))), (4, .int (jI (i))), (5, .int (jI (cn))), (6, .int (jI (what)))]) S.1 S.2.1 dX9_written_27 hl (by decide) rfl (fun ls hl => ?_)
      refine lv_iload S.1 S.2.1 dX9_written_29 (lv_at hl 0 rfl) ?_
      refine z_if_ge (tgt := 37) S dX9_written_31 (by decide) (by omega) (fun c_31 => ?_) (fun c_31 => ?_)
      · skip
        have ok2 := zRow_ok2 hrel h_24 (by omega)
        refine z_iconst S dX9_written_37 ?_
        refine lv_istore (lv' := [(8, .int (jI (0))), (7, .int (jI (r_24))), (0, .ref (ac 0)), (1, .int (jI (v))), (2, .int (jI (k))), (3, .int (jI (lane))), (4, .int (jI (i))), (5, .int (jI (cn))), (6, .int (jI (what)))]) S.1 S.2.1 dX9_written_38 hl (by decide) rfl (fun ls hl => ?_)
        refine z_bipush S (by decide +kernel) dX9_written_40 ?_
        refine lv_istore (lv' := [(9, .int (jI (-9))), (8, .int (jI (0))), (7, .int (jI (r_24))), (0, .ref (ac 0)), (1, .int (jI (v))), (2, .int (jI (k))), (3, .int (jI (lane))), (4, .int (jI (i))), (5, .int (jI (cn))), (6, .int (jI (what)))]) S.1 S.2.1 dX9_written_42 hl (by decide) rfl (fun ls hl => ?_)
        refine z_bipush S (by decide +kernel) dX9_written_44 ?_
        refine lv_istore (lv' := [(10, .int (jI (-9))), (9, .int (jI (-9))), (8, .int (jI (0))), (7, .int (jI (r_24))), (0, .ref (ac 0)), (1, .int (jI (v))), (2, .int (jI (k))), (3, .int (jI (lane))), (4, .int (jI (i))), (5, .int (jI (cn))), (6, .int (jI (what)))]) S.1 S.2.1 dX9_written_46 hl (by decide) rfl (fun ls hl => ?_)
        refine z_iconst S dX9_written_48 ?_
        refine lv_istore (lv' := [(11, .int (jI (0))), (10, .int (jI (-9))), (9, .int (jI (-9))), (8, .int (jI (0))), (7, .int (jI (r_24))), (0, .ref (ac 0)), (1, .int (jI (v))), (2, .int (jI (k))), (3, .int (jI (lane))), (4, .int (jI (i))), (5, .int (jI (cn))), (6, .int (jI (what)))]) S.1 S.2.1 dX9_written_49 hl (by decide) rfl (fun ls hl => ?_)
        suffices HL_7 : ∀ (n_8 : Nat) (dy : Int) (mn : Int) (so : Int) (lt : Int), (110 - dy).toNat < n_8 → (0 ≤ dy ∧ dy ≤ 110) → (mn = zcnt (fun x => (fun d => ∀ j, 0 ≤ j → j < cn → zlive kd vl fr tl (ce (100 * k + i + j)) v d) (x - 1)) dy.toNat) → ((0 ≤ mn ∧ mn ≤ dy) ∧ (-9 ≤ so ∧ so ≤ 110) ∧ (-9 ≤ lt ∧ lt ≤ 110)) → (zFst (fun d => ∀ j, 0 ≤ j → j < cn → zlive kd vl fr tl (ce (100 * k + i + j)) v d) dy so) → (zLst (fun d => ∀ j, 0 ≤ j → j < cn → zlive kd vl fr tl (ce (100 * k + i + j)) v d) dy lt) → ∀ (H : Heap) (locs : List Loc), zP E (cW E ac u24_flt ce la si ln co n on tr fw cw ch nm) H → va_D A (cW E ac u24_flt ce la si ln co n on tr fw cw ch nm) → va_S A s.heap H locs → ∀ (ls : Array Slot), lv_has ls 12 [(11, .int (jI (dy))), (8, .int (jI (mn))), (9, .int (jI (so))), (10, .int (jI (lt))), (0, .ref (ac 0)), (1, .int (jI (v))), (2, .int (jI (k))), (3, .int (jI (lane))), (4, .int (jI (i))), (5, .int (jI (cn))), (6, .int (jI (what)))] → W p l e (zr 7 0 0) s m args below meth c H locs 0 0 Q (F0 m 51 ls []) from
          HL_7 _ 0 0 (-9) (-9) (Nat.lt_succ_self _) (by omega) (rfl) (by omega) (zFst_0) (zLst_0) _ _ hP hD hS ls (lv_sub hl [0, 3, 2, 1, 5, 6, 7, 8, 9, 10, 11] rfl)
        intro n_8
        induction n_8 with
        | zero => intro dy mn so lt hm hdy hmn hr3 hso hla; exact absurd hm (Nat.not_lt_zero _)
        | succ n_8 ih_9 =>
          intro dy mn so lt hm hdy hmn hr3 hso hla H locs hP hD hS ls hl
          refine lv_iload S.1 S.2.1 dX9_written_51 (lv_at hl 0 rfl) ?_
          refine z_bipush S (by decide +kernel) dX9_written_53 ?_
          refine z_icmp_ge (tgt := 102) S dX9_written_55 (by decide) (by omega) (fun c_55 => ?_) (fun c_55 => ?_)
          · skip
            refine lv_iload S.1 S.2.1 dX9_written_102 (lv_at hl 10 rfl) ?_
            refine z_if_ne (tgt := 110) S dX9_written_104 (by decide) (by omega) (fun c_104 => ?_) (fun c_104 => ?_)
            · skip
              refine lv_iload S.1 S.2.1 dX9_written_110 (lv_at hl 10 rfl) ?_
              refine z_iconst S dX9_written_112 ?_
              refine z_icmp_ne (tgt := 121) S dX9_written_113 (by decide) (by omega) (fun c_113 => ?_) (fun c_113 => ?_)
              · skip
                refine lv_iload S.1 S.2.1 dX9_written_121 (lv_at hl 3 rfl) ?_
                exact hQ (lt) (u24_flt) _ _ (⟨_, _, zRow_cong h_24 (by omega), Or.inr ⟨ok2.2.2.2.1.1, ok2.2.2.2.1.2, by first | exact Or.inl ⟨by omega, by rw [hmn, show dy = 110 by omega]; rfl⟩ | exact Or.inr (Or.inl ⟨by omega, by rw [show dy = 110 by omega] at hso; exact hso⟩) | exact Or.inr (Or.inr ⟨by omega, by rw [show dy = 110 by omega] at hla; exact hla⟩)⟩⟩) hP hD hS _ _ dX9_written_123
              · skip
                refine lv_iload S.1 S.2.1 dX9_written_116 (lv_at hl 2 rfl) ?_
                refine z_goto (tgt := 123) S dX9_written_118 (by decide) ?_
                exact hQ (so) (u24_flt) _ _ (⟨_, _, zRow_cong h_24 (by omega), Or.inr ⟨ok2.2.2.2.1.1, ok2.2.2.2.1.2, by first | exact Or.inl ⟨by omega, by rw [hmn, show dy = 110 by omega]; rfl⟩ | exact Or.inr (Or.inl ⟨by omega, by rw [show dy = 110 by omega] at hso; exact hso⟩) | exact Or.inr (Or.inr ⟨by omega, by rw [show dy = 110 by omega] at hla; exact hla⟩)⟩⟩) hP hD hS _ _ dX9_written_123
            · skip
              refine lv_iload S.1 S.2.1 dX9_written_107 (lv_at hl 1 rfl) ?_
              exact hQ (mn) (u24_flt) _ _ (⟨_, _, zRow_cong h_24 (by omega), Or.inr ⟨ok2.2.2.2.1.1, ok2.2.2.2.1.2, by first | exact Or.inl ⟨by omega, by rw [hmn, show dy = 110 by omega]; rfl⟩ | exact Or.inr (Or.inl ⟨by omega, by rw [show dy = 110 by omega] at hso; exact hso⟩) | exact Or.inr (Or.inr ⟨by omega, by rw [show dy = 110 by omega] at hla; exact hla⟩)⟩⟩) hP hD hS _ _ dX9_written_109
          · skip
            refine lv_aload_n S.1 S.2.1 dX9_written_58 rfl (lv_at hl 4 rfl) ?_
            refine lv_iload_n S.1 S.2.1 dX9_written_59 rfl (lv_at hl 6 rfl) ?_
            refine lv_iload S.1 S.2.1 dX9_written_60 (lv_at hl 8 rfl) ?_
            refine lv_iload S.1 S.2.1 dX9_written_62 (lv_at hl 9 rfl) ?_
            refine lv_iload_n S.1 S.2.1 dX9_written_64 rfl (lv_at hl 5 rfl) ?_
            refine lv_iload S.1 S.2.1 dX9_written_65 (lv_at hl 0 rfl) ?_
            refine z_ri (z_rV S hK (c_X9_meaning l E ac u24_flt ce la si ln co n on tr fw cw ch nm an kd vl nb fr tl k i cn v dy ss sl (hrel) (hce) (by omega) (by omega) (ok2.2.2.2.2) (by omega) (by omega) (by omega) (hon) (hpe)) gX9_written_X9_meaning rfl hv_X9_meaning ⟨Nat.le_of_ble_eq_true rfl, Nat.le_of_ble_eq_true rfl⟩ (va_recv hK hP (ci := 9) (q0 := 0) rfl rfl) ⟨hP, (zNm_keep hG hS hNA)⟩ hl.1 rfl (Nat.le_of_ble_eq_true rfl) ⟨by decide, by decide⟩ rfl dX9_written_67) (fun r_67 h_67 => ?_)
            have hsg := zMean_sg h_67 (by omega) (fun j q1 q2 => (hpe _ (ok2.2.2.2.2 j q1 q2).1 (ok2.2.2.2.2 j q1 q2).2).2.2.1)
            have hmr := zMean_rng h_67 (by omega) (fun j q1 q2 => (hpe _ (ok2.2.2.2.2 j q1 q2).1 (ok2.2.2.2.2 j q1 q2).2).2.2.1)
            refine z_if_lt (tgt := 96) S dX9_written_70 (by decide) (by omega) (fun c_70 => ?_) (fun c_70 => ?_)
            · skip
              refine z_iinc (lv' := [(11, .int (jI (dy + 1))), (8, .int (jI (mn))), (9, .int (jI (so))), (10, .int (jI (lt))), (0, .ref (ac 0)), (1, .int (jI (v))), (2, .int (jI (k))), (3, .int (jI (lane))), (4, .int (jI (i))), (5, .int (jI (cn))), (6, .int (jI (what)))]) S hl (k := 0) rfl (by decide) rfl dX9_written_96 (fun ls hl => ?_)
              refine z_goto (tgt := 51) S dX9_written_99 (by decide) ?_
              exact ih_9 (dy + 1) mn so lt (by omega) (by omega) (by first | exact hmn.trans (zcnt0_f (P := (fun d => ∀ j, 0 ≤ j → j < cn → zlive kd vl fr tl (ce (100 * k + i + j)) v d)) (by omega) (hsg.elim (fun q => absurd q.1 (by omega)) (fun q => q.2))).symm | rw [zcnt0_t (P := (fun d => ∀ j, 0 ≤ j → j < cn → zlive kd vl fr tl (ce (100 * k + i + j)) v d)) (by omega) (hsg.elim (fun q => q.2) (fun q => absurd q.1 (by omega))), ← hmn]) (by omega) (by first | exact zFst_no hso (hsg.elim (fun q => absurd q.1 (by omega)) (fun q => q.2)) | exact zFst_keep hso (by unfold zFst at hso; omega) | exact zFst_new hso (by omega) (by omega) (hsg.elim (fun q => q.2) (fun q => absurd q.1 (by omega)))) (by first | exact zLst_no hla (hsg.elim (fun q => absurd q.1 (by omega)) (fun q => q.2)) | exact zLst_yes (by omega) (hsg.elim (fun q => q.2) (fun q => absurd q.1 (by omega)))) _ _ hP hD hS ls (lv_sub hl [0, 1, 2, 3, 4, 5, 6, 7, 8, 9, 10] rfl)
            · skip
              refine z_iinc (lv' := [(8, .int (jI (mn + 1))), (11, .int (jI (dy))), (9, .int (jI (so))), (10, .int (jI (lt))), (0, .ref (ac 0)), (1, .int (jI (v))), (2, .int (jI (k))), (3, .int (jI (lane))), (4, .int (jI (i))), (5, .int (jI (cn))), (6, .int (jI (what)))]) S hl (k := 1) rfl (by decide) rfl dX9_written_73 (fun ls hl => ?_)
              refine lv_iload S.1 S.2.1 dX9_written_76 (lv_at hl 2 rfl) ?_
              refine z_bipush S (by decide +kernel) dX9_written_78 ?_
              refine z_icmp_ne (tgt := 88) S dX9_written_80 (by decide) (by omega) (fun c_80 => ?_) (fun c_80 => ?_)
              · skip
                refine lv_iload S.1 S.2.1 dX9_written_88 (lv_at hl 2 rfl) ?_
                refine lv_istore (lv' := [(9, .int (jI (so))), (8, .int (jI (mn + 1))), (11, .int (jI (dy))), (10, .int (jI (lt))), (0, .ref (ac 0)), (1, .int (jI (v))), (2, .int (jI (k))), (3, .int (jI (lane))), (4, .int (jI (i))), (5, .int (jI (cn))), (6, .int (jI (what)))]) S.1 S.2.1 dX9_written_90 hl (by decide) rfl (fun ls hl => ?_)
                refine lv_iload S.1 S.2.1 dX9_written_92 (lv_at hl 2 rfl) ?_
                refine lv_istore (lv' := [(10, .int (jI (dy))), (9, .int (jI (so))), (8, .int (jI (mn + 1))), (11, .int (jI (dy))), (0, .ref (ac 0)), (1, .int (jI (v))), (2, .int (jI (k))), (3, .int (jI (lane))), (4, .int (jI (i))), (5, .int (jI (cn))), (6, .int (jI (what)))]) S.1 S.2.1 dX9_written_94 hl (by decide) rfl (fun ls hl => ?_)
                refine z_iinc (lv' := [(11, .int (jI (dy + 1))), (10, .int (jI (dy))), (9, .int (jI (so))), (8, .int (jI (mn + 1))), (0, .ref (ac 0)), (1, .int (jI (v))), (2, .int (jI (k))), (3, .int (jI (lane))), (4, .int (jI (i))), (5, .int (jI (cn))), (6, .int (jI (what)))]) S hl (k := 3) rfl (by decide) rfl dX9_written_96 (fun ls hl => ?_)
                refine z_goto (tgt := 51) S dX9_written_99 (by decide) ?_
                exact ih_9 (dy + 1) (mn + 1) so dy (by omega) (by omega) (by first | exact hmn.trans (zcnt0_f (P := (fun d => ∀ j, 0 ≤ j → j < cn → zlive kd vl fr tl (ce (100 * k + i + j)) v d)) (by omega) (hsg.elim (fun q => absurd q.1 (by omega)) (fun q => q.2))).symm | rw [zcnt0_t (P := (fun d => ∀ j, 0 ≤ j → j < cn → zlive kd vl fr tl (ce (100 * k + i + j)) v d)) (by omega) (hsg.elim (fun q => q.2) (fun q => absurd q.1 (by omega))), ← hmn]) (by omega) (by first | exact zFst_no hso (hsg.elim (fun q => absurd q.1 (by omega)) (fun q => q.2)) | exact zFst_keep hso (by unfold zFst at hso; omega) | exact zFst_new hso (by omega) (by omega) (hsg.elim (fun q => q.2) (fun q => absurd q.1 (by omega)))) (by first | exact zLst_no hla (hsg.elim (fun q => absurd q.1 (by omega)) (fun q => q.2)) | exact zLst_yes (by omega) (hsg.elim (fun q => q.2) (fun q => absurd q.1 (by omega)))) _ _ hP hD hS ls (lv_sub hl [0, 3, 2, 1, 4, 5, 6, 7, 8, 9, 10] rfl)
              · skip
                refine lv_iload S.1 S.2.1 dX9_written_83 (lv_at hl 1 rfl) ?_
                refine z_goto (tgt := 90) S dX9_written_85 (by decide) ?_
                refine lv_istore (lv' := [(9, .int (jI (dy))), (8, .int (jI (mn + 1))), (11, .int (jI (dy))), (10, .int (jI (lt))), (0, .ref (ac 0)), (1, .int (jI (v))), (2, .int (jI (k))), (3, .int (jI (lane))), (4, .int (jI (i))), (5, .int (jI (cn))), (6, .int (jI (what)))]) S.1 S.2.1 dX9_written_90 hl (by decide) rfl (fun ls hl => ?_)
                refine lv_iload S.1 S.2.1 dX9_written_92 (lv_at hl 2 rfl) ?_
                refine lv_istore (lv' := [(10, .int (jI (dy))), (9, .int (jI (dy))), (8, .int (jI (mn + 1))), (11, .int (jI (dy))), (0, .ref (ac 0)), (1, .int (jI (v))), (2, .int (jI (k))), (3, .int (jI (lane))), (4, .int (jI (i))), (5, .int (jI (cn))), (6, .int (jI (what)))]) S.1 S.2.1 dX9_written_94 hl (by decide) rfl (fun ls hl => ?_)
                refine z_iinc (lv' := [(11, .int (jI (dy + 1))), (10, .int (jI (dy))), (9, .int (jI (dy))), (8, .int (jI (mn + 1))), (0, .ref (ac 0)), (1, .int (jI (v))), (2, .int (jI (k))), (3, .int (jI (lane))), (4, .int (jI (i))), (5, .int (jI (cn))), (6, .int (jI (what)))]) S hl (k := 3) rfl (by decide) rfl dX9_written_96 (fun ls hl => ?_)
                refine z_goto (tgt := 51) S dX9_written_99 (by decide) ?_
                exact ih_9 (dy + 1) (mn + 1) dy dy (by omega) (by omega) (by first | exact hmn.trans (zcnt0_f (P := (fun d => ∀ j, 0 ≤ j → j < cn → zlive kd vl fr tl (ce (100 * k + i + j)) v d)) (by omega) (hsg.elim (fun q => absurd q.1 (by omega)) (fun q => q.2))).symm | rw [zcnt0_t (P := (fun d => ∀ j, 0 ≤ j → j < cn → zlive kd vl fr tl (ce (100 * k + i + j)) v d)) (by omega) (hsg.elim (fun q => q.2) (fun q => absurd q.1 (by omega))), ← hmn]) (by omega) (by first | exact zFst_no hso (hsg.elim (fun q => absurd q.1 (by omega)) (fun q => q.2)) | exact zFst_keep hso (by unfold zFst at hso; omega) | exact zFst_new hso (by omega) (by omega) (hsg.elim (fun q => q.2) (fun q => absurd q.1 (by omega)))) (by first | exact zLst_no hla (hsg.elim (fun q => absurd q.1 (by omega)) (fun q => q.2)) | exact zLst_yes (by omega) (hsg.elim (fun q => q.2) (fun q => absurd q.1 (by omega)))) _ _ hP hD hS ls (lv_sub hl [0, 3, 2, 1, 4, 5, 6, 7, 8, 9, 10] rfl)
      · skip
        refine lv_iload S.1 S.2.1 dX9_written_34 (lv_at hl 0 rfl) ?_
        exact hQ (r_24) (u24_flt) _ _ (⟨_, _, zRow_cong h_24 (by omega), Or.inl ⟨by omega, rfl, rfl⟩⟩) hP hD hS _ _ dX9_written_36

set_option maxHeartbeats 1000000 in
set_option maxRecDepth 20000 in
theorem c_X9_both (l : Launch) (E : zE) (ac : Nat → Nat) (flt : Int) (ce la si : Int → Int) (ln : Int) (co : Int → Int) (n : Int) (on : Nat → Option Nat) (tr : Int) (fw cw ch nm : Int → Int) (an : Int → Nat) (kd vl nb fr tl : Int → Int) (q : Int) (w : Int) (d : Int) (h_q : -2147483648 ≤ q ∧ q ≤ 2147483647) (h_w : -2147483648 ≤ w ∧ w ≤ 2147483647) (h_d : -2147483648 ≤ d ∧ d ≤ 2147483647) (hp : 0 ≤ n ∧ n ≤ 10) (hon : zOns n on an) (hpe : zPeo n kd vl nb fr tl) (hap : zAp (cW E ac flt ce la si ln co n on tr fw cw ch nm) n an) : zMi l E yX9_both wsX9_both (zr 5 0 0) [.ref (ac 0), .int (jI (q)), .int (jI (w)), .int (jI (d))] (cW E ac flt ce la si ln co n on tr fw cw ch nm) (fun H => zNm E n an kd vl nb fr tl H) (fun r (u : (Int → Int) × (Int → Int)) => zA_both n kd vl nb fr tl q w d r) (fun (u : (Int → Int) × (Int → Int)) => cW E ac flt ce la si ln co n on tr u.1 u.2 ch nm) 0 0 := by
  refine zMi_of (own := RX9) (cc := cX9_both) (maxL := 5) (by decide) rfl (Nat.le_of_ble_eq_true rfl) rfl ?_
  intro p e s m args below meth c Q A S hK hA hS hP hD hAe hG hQ ls hl
  have hl : lv_has ls 5 [(0, .ref (ac 0)), (1, .int (jI (q))), (2, .int (jI (w))), (3, .int (jI (d)))] := hl
  have hNA := zNm_A hG hAe hap
  refine lv_iload_n S.1 S.2.1 dX9_both_0 rfl (lv_at hl 1 rfl) ?_
  refine z_ri (z_rS S hK (c_X9_isQuantity l E q (by omega)) gX9_both_X9_isQuantity rfl hs_X9_isQuantity ⟨Nat.le_of_ble_eq_true rfl, Nat.le_of_ble_eq_true rfl⟩ trivial hl.1 rfl (Nat.le_of_ble_eq_true rfl) ⟨by decide, by decide⟩ rfl dX9_both_1) (fun r_1 h_1 => ?_)
  refine z_if_eq (tgt := 21) S dX9_both_4 (by decide) (by omega) (fun c_4 => ?_) (fun c_4 => ?_)
  · skip
    refine z_bipush S (by decide +kernel) dX9_both_21 ?_
    exact hQ (-2) ((fw, cw)) _ _ (Or.inl ⟨by omega, rfl⟩) hP hD hS _ _ dX9_both_23
  · skip
    refine lv_iload_n S.1 S.2.1 dX9_both_7 rfl (lv_at hl 2 rfl) ?_
    refine z_ri (z_rS S hK (c_X9_isWords l E w (by omega)) gX9_both_X9_isWords rfl hs_X9_isWords ⟨Nat.le_of_ble_eq_true rfl, Nat.le_of_ble_eq_true rfl⟩ trivial hl.1 rfl (Nat.le_of_ble_eq_true rfl) ⟨by decide, by decide⟩ rfl dX9_both_8) (fun r_8 h_8 => ?_)
    refine z_if_eq (tgt := 21) S dX9_both_11 (by decide) (by omega) (fun c_11 => ?_) (fun c_11 => ?_)
    · skip
      refine z_bipush S (by decide +kernel) dX9_both_21 ?_
      exact hQ (-2) ((fw, cw)) _ _ (Or.inl ⟨by omega, rfl⟩) hP hD hS _ _ dX9_both_23
    · skip
      refine lv_iload_n S.1 S.2.1 dX9_both_14 rfl (lv_at hl 3 rfl) ?_
      refine z_ri (z_rS S hK (c_X9_isDay l E d (by omega)) gX9_both_X9_isDay rfl hs_X9_isDay ⟨Nat.le_of_ble_eq_true rfl, Nat.le_of_ble_eq_true rfl⟩ trivial hl.1 rfl (Nat.le_of_ble_eq_true rfl) ⟨by decide, by decide⟩ rfl dX9_both_15) (fun r_15 h_15 => ?_)
      refine z_if_ne (tgt := 24) S dX9_both_18 (by decide) (by omega) (fun c_18 => ?_) (fun c_18 => ?_)
      · skip
        refine lv_aload_n S.1 S.2.1 dX9_both_24 rfl (lv_at hl 0 rfl) ?_
        refine z_get S hK hP 0 rfl rfl 2 (by decide) i_X9_both_9 q_X9_both_1 rfl dX9_both_25 ?_
        refine lv_aload_n S.1 S.2.1 dX9_both_28 rfl (lv_at hl 0 rfl) ?_
        refine z_get S hK hP 0 rfl rfl 4 (by decide) i_X9_both_9 q_X9_both_2 rfl dX9_both_29 ?_
        refine z_iconst S dX9_both_32 ?_
        refine lv_iload_n S.1 S.2.1 dX9_both_33 rfl (lv_at hl 3 rfl) ?_
        refine z_iconst S dX9_both_34 ?_
        refine z_mv (wr := [(ac 0, .inr (9, [.ref (ac 1), .ref (ac 5), .ref (ac 7), .ref (ac 9), .ref (ac 10), .ref (ac 12), .ref (ac 14), .int (jI flt)])), (ac 1, .inr (7, [.ref (ac 2), .ref (ac 3), .ref (ac 4)])), (ac 2, eI E 400 ce), (ac 3, eI E 4 la), (ac 4, eI E 4 si), (ac 5, .inr (6, [.ref (ac 6), .int (jI ln)])), (ac 6, eI E 100 co), (ac 9, .inr (8, [.int (jI tr)])), (ac 12, .inr (0, [.ref (ac 13)])), (ac 13, eI E 1000 cw), (ac 14, .inr (5, [.ref (ac 15), .ref (ac 16)])), (ac 15, eI E 3 ch), (ac 16, eI E 3 nm)]) (z_mV S hK (c_X4_teach l E (ac 7) (ac 8) (ac 10) (ac 11) n on fw an kd vl nb fr tl 0 d (-1) (by omega) (by omega) (by omega) (by omega) (hon) (hpe) (zAp_sub (ws := (cW E ac flt ce la si ln co n on tr fw cw ch nm)) (zAp_adr hap rfl) [7, 8, 10, 11] rfl) _) gX9_both_X4_teach rfl hv_X4_teach ⟨Nat.le_of_ble_eq_true rfl, Nat.le_of_ble_eq_true rfl⟩ (va_recv hK hP (ci := 4) (q0 := 7) rfl rfl) (hP.sub [7, 8, 10, 11] rfl) (hD.sub [7, 8, 10, 11] (by decide) rfl) (zNm_keep hG hS hNA) hl.1 rfl (Nat.le_of_ble_eq_true rfl) ⟨by decide, by decide⟩ rfl dX9_both_35) hP hD hS hA [7, 8, 10, 11] [0, 1, 2, 3, 4, 5, 6, 9, 12, 13, 14, 15, 16] [0, 1, 2, 3, 4, 5, 6, 13, 14, 7, 15, 16, 8, 9, 10, 11, 12] rfl rfl (by decide) (by decide) (fun (u : Int → Int) => cW E ac flt ce la si ln co n on tr u cw ch nm) (by decide) (fun _ => rfl) (fun u H locs h_35 hP hD hS => ?_)
        obtain ⟨u35_fw, u35_fw_e⟩ : ∃ z, z = u := ⟨_, rfl⟩
        subst u35_fw_e
        try dsimp only at h_35
        have hP : zP E (cW E ac flt ce la si ln co n on tr u35_fw cw ch nm) H := hP
        have hD : va_D A (cW E ac flt ce la si ln co n on tr u35_fw cw ch nm) := hD
        have hT0 : zTab (zCan nb (fun x => zlive kd vl fr tl x 0 d) n) u35_fw 999 1000000 := zTab_cong (fun a _ _ => zCanW_m1) h_35
        refine lv_aload_n S.1 S.2.1 dX9_both_38 rfl (lv_at hl 0 rfl) ?_
        refine z_get S hK hP 0 rfl rfl 2 (by decide) i_X9_both_9 q_X9_both_1 rfl dX9_both_39 ?_
        refine lv_aload_n S.1 S.2.1 dX9_both_42 rfl (lv_at hl 0 rfl) ?_
        refine z_get S hK hP 0 rfl rfl 5 (by decide) i_X9_both_9 q_X9_both_3 rfl dX9_both_43 ?_
        refine z_iconst S dX9_both_46 ?_
        refine lv_iload_n S.1 S.2.1 dX9_both_47 rfl (lv_at hl 3 rfl) ?_
        refine z_iconst S dX9_both_48 ?_
        refine z_mv (wr := [(ac 0, .inr (9, [.ref (ac 1), .ref (ac 5), .ref (ac 7), .ref (ac 9), .ref (ac 10), .ref (ac 12), .ref (ac 14), .int (jI flt)])), (ac 1, .inr (7, [.ref (ac 2), .ref (ac 3), .ref (ac 4)])), (ac 2, eI E 400 ce), (ac 3, eI E 4 la), (ac 4, eI E 4 si), (ac 5, .inr (6, [.ref (ac 6), .int (jI ln)])), (ac 6, eI E 100 co), (ac 9, .inr (8, [.int (jI tr)])), (ac 10, .inr (0, [.ref (ac 11)])), (ac 11, eI E 1000 u35_fw), (ac 14, .inr (5, [.ref (ac 15), .ref (ac 16)])), (ac 15, eI E 3 ch), (ac 16, eI E 3 nm)]) (z_mV S hK (c_X4_teach l E (ac 7) (ac 8) (ac 12) (ac 13) n on cw an kd vl nb fr tl 1 d (-1) (by omega) (by omega) (by omega) (by omega) (hon) (hpe) (zAp_sub (ws := (cW E ac flt ce la si ln co n on tr u35_fw cw ch nm)) (zAp_adr hap rfl) [7, 8, 12, 13] rfl) _) gX9_both_X4_teach rfl hv_X4_teach ⟨Nat.le_of_ble_eq_true rfl, Nat.le_of_ble_eq_true rfl⟩ (va_recv hK hP (ci := 4) (q0 := 7) rfl rfl) (hP.sub [7, 8, 12, 13] rfl) (hD.sub [7, 8, 12, 13] (by decide) rfl) (zNm_keep hG hS hNA) hl.1 rfl (Nat.le_of_ble_eq_true rfl) ⟨by decide, by decide⟩ rfl dX9_both_49) hP hD hS hA [7, 8, 12, 13] [0, 1, 2, 3, 4, 5, 6, 9, 10, 11, 14, 15, 16] [0, 1, 2, 3, 4, 5, 6, 13, 14, 7, 8, 9, 15, 16, 10, 11, 12] rfl rfl (by decide) (by decide) (fun (u : Int → Int) => cW E ac flt ce la si ln co n on tr u35_fw u ch nm) (by decide) (fun _ => rfl) (fun u H locs h_49 hP hD hS => ?_)
        obtain ⟨u49_fw, u49_fw_e⟩ : ∃ z, z = u := ⟨_, rfl⟩
        subst u49_fw_e
        try dsimp only at h_49
        have hP : zP E (cW E ac flt ce la si ln co n on tr u35_fw u49_fw ch nm) H := hP
        have hD : va_D A (cW E ac flt ce la si ln co n on tr u35_fw u49_fw ch nm) := hD
        have hT1 : zTab (zCan nb (fun x => zlive kd vl fr tl x 1 d) n) u49_fw 999 1000000 := zTab_cong (fun a _ _ => zCanW_m1) h_49
        refine lv_iload_n S.1 S.2.1 dX9_both_52 rfl (lv_at hl 1 rfl) ?_
        refine lv_istore (lv' := [(4, .int (jI (q))), (0, .ref (ac 0)), (1, .int (jI (q))), (2, .int (jI (w))), (3, .int (jI (d)))]) S.1 S.2.1 dX9_both_53 hl (by decide) rfl (fun ls hl => ?_)
        suffices HL_1 : ∀ (n_2 : Nat) (x : Int), (1000 - x).toNat < n_2 → (q ≤ x ∧ x ≤ 1000) → (∀ y, q ≤ y → y < x → ¬ (zIn (zCan nb (fun x => zlive kd vl fr tl x 0 d) n) w y ∧ zIn (zCan nb (fun x => zlive kd vl fr tl x 1 d) n) w y)) → ∀ (H : Heap) (locs : List Loc), zP E (cW E ac flt ce la si ln co n on tr u35_fw u49_fw ch nm) H → va_D A (cW E ac flt ce la si ln co n on tr u35_fw u49_fw ch nm) → va_S A s.heap H locs → ∀ (ls : Array Slot), lv_has ls 5 [(4, .int (jI (x))), (0, .ref (ac 0)), (1, .int (jI (q))), (2, .int (jI (w))), (3, .int (jI (d)))] → W p l e (zr 5 0 0) s m args below meth c H locs 0 0 Q (F0 m 55 ls []) from
          HL_1 _ q (Nat.lt_succ_self _) (by omega) (zall_0) _ _ hP hD hS ls (lv_sub hl [0, 1, 2, 3, 4] rfl)
        intro n_2
        induction n_2 with
        | zero => intro x hm hx hno; exact absurd hm (Nat.not_lt_zero _)
        | succ n_2 ih_3 =>
          intro x hm hx hno H locs hP hD hS ls hl
          refine lv_iload S.1 S.2.1 dX9_both_55 (lv_at hl 0 rfl) ?_
          refine z_sipush S (by decide +kernel) dX9_both_57 ?_
          refine z_icmp_ge (tgt := 98) S dX9_both_60 (by decide) (by omega) (fun c_60 => ?_) (fun c_60 => ?_)
          · skip
            refine z_bipush S (by decide +kernel) dX9_both_98 ?_
            exact hQ (-9) ((u35_fw, u49_fw)) _ _ (Or.inr ⟨by omega, Or.inr ⟨rfl, fun y q1 q2 => hno y q1 (by omega)⟩⟩) hP hD hS _ _ dX9_both_100
          · skip
            refine lv_aload_n S.1 S.2.1 dX9_both_63 rfl (lv_at hl 1 rfl) ?_
            refine z_get S hK hP 0 rfl rfl 4 (by decide) i_X9_both_9 q_X9_both_2 rfl dX9_both_64 ?_
            refine lv_iload S.1 S.2.1 dX9_both_67 (lv_at hl 0 rfl) ?_
            refine lv_iload_n S.1 S.2.1 dX9_both_69 rfl (lv_at hl 3 rfl) ?_
            refine z_ri (z_rV S hK (c_X0_within l E (ac 10) (ac 11) u35_fw x w ((zCan nb (fun x => zlive kd vl fr tl x 0 d) n)) (by omega) (by omega) (hT0)) gX9_both_X0_within rfl hv_X0_within ⟨Nat.le_of_ble_eq_true rfl, Nat.le_of_ble_eq_true rfl⟩ (va_recv hK hP (ci := 0) (q0 := 10) rfl rfl) (hP.sub [10, 11] rfl) hl.1 rfl (Nat.le_of_ble_eq_true rfl) ⟨by decide, by decide⟩ rfl dX9_both_70) (fun r_70 h_70 => ?_)
            refine z_if_eq (tgt := 92) S dX9_both_73 (by decide) (by omega) (fun c_73 => ?_) (fun c_73 => ?_)
            · skip
              refine z_iinc (lv' := [(4, .int (jI (x + 1))), (0, .ref (ac 0)), (1, .int (jI (q))), (2, .int (jI (w))), (3, .int (jI (d)))]) S hl (k := 0) rfl (by decide) rfl dX9_both_92 (fun ls hl => ?_)
              refine z_goto (tgt := 55) S dX9_both_95 (by decide) ?_
              exact ih_3 (x + 1) (by omega) (by omega) (zall_step hno (fun z => by first | exact absurd z.1 (zB_f h_70 (by omega)) | exact absurd z.2 (zB_f h_83 (by omega)))) _ _ hP hD hS ls (lv_sub hl [0, 1, 2, 3, 4] rfl)
            · skip
              refine lv_aload_n S.1 S.2.1 dX9_both_76 rfl (lv_at hl 1 rfl) ?_
              refine z_get S hK hP 0 rfl rfl 5 (by decide) i_X9_both_9 q_X9_both_3 rfl dX9_both_77 ?_
              refine lv_iload S.1 S.2.1 dX9_both_80 (lv_at hl 0 rfl) ?_
              refine lv_iload_n S.1 S.2.1 dX9_both_82 rfl (lv_at hl 3 rfl) ?_
              refine z_ri (z_rV S hK (c_X0_within l E (ac 12) (ac 13) u49_fw x w ((zCan nb (fun x => zlive kd vl fr tl x 1 d) n)) (by omega) (by omega) (hT1)) gX9_both_X0_within rfl hv_X0_within ⟨Nat.le_of_ble_eq_true rfl, Nat.le_of_ble_eq_true rfl⟩ (va_recv hK hP (ci := 0) (q0 := 12) rfl rfl) (hP.sub [12, 13] rfl) hl.1 rfl (Nat.le_of_ble_eq_true rfl) ⟨by decide, by decide⟩ rfl dX9_both_83) (fun r_83 h_83 => ?_)
              refine z_if_eq (tgt := 92) S dX9_both_86 (by decide) (by omega) (fun c_86 => ?_) (fun c_86 => ?_)
              · skip
                refine z_iinc (lv' := [(4, .int (jI (x + 1))), (0, .ref (ac 0)), (1, .int (jI (q))), (2, .int (jI (w))), (3, .int (jI (d)))]) S hl (k := 0) rfl (by decide) rfl dX9_both_92 (fun ls hl => ?_)
                refine z_goto (tgt := 55) S dX9_both_95 (by decide) ?_
                exact ih_3 (x + 1) (by omega) (by omega) (zall_step hno (fun z => by first | exact absurd z.1 (zB_f h_70 (by omega)) | exact absurd z.2 (zB_f h_83 (by omega)))) _ _ hP hD hS ls (lv_sub hl [0, 1, 2, 3, 4] rfl)
              · skip
                refine lv_iload S.1 S.2.1 dX9_both_89 (lv_at hl 0 rfl) ?_
                exact hQ (x) ((u35_fw, u49_fw)) _ _ (Or.inr ⟨by omega, Or.inl ⟨by omega, ⟨zB_t h_70 (by omega), zB_t h_83 (by omega)⟩, hno⟩⟩) hP hD hS _ _ dX9_both_91
      · skip
        refine z_bipush S (by decide +kernel) dX9_both_21 ?_
        exact hQ (-2) ((fw, cw)) _ _ (Or.inl ⟨by omega, rfl⟩) hP hD hS _ _ dX9_both_23

set_option maxHeartbeats 1000000 in
set_option maxRecDepth 20000 in
theorem c_X9_lost (l : Launch) (E : zE) (ac : Nat → Nat) (flt : Int) (ce la si : Int → Int) (ln : Int) (co : Int → Int) (n : Int) (on : Nat → Option Nat) (tr : Int) (fw cw ch nm : Int → Int) (an : Int → Nat) (kd vl nb fr tl : Int → Int) (x : Int) (v : Int) (d : Int) (w : Int) (h_x : -2147483648 ≤ x ∧ x ≤ 2147483647) (h_v : -2147483648 ≤ v ∧ v ≤ 2147483647) (h_d : -2147483648 ≤ d ∧ d ≤ 2147483647) (h_w : -2147483648 ≤ w ∧ w ≤ 2147483647) (hp : 0 ≤ n ∧ n ≤ 10) (hon : zOns n on an) (hpe : zPeo n kd vl nb fr tl) (hap : zAp (cW E ac flt ce la si ln co n on tr fw cw ch nm) n an) : zMi l E yX9_lost wsX9_lost (zr 5 0 0) [.ref (ac 0), .int (jI (x)), .int (jI (v)), .int (jI (d)), .int (jI (w))] (cW E ac flt ce la si ln co n on tr fw cw ch nm) (fun H => zNm E n an kd vl nb fr tl H) (fun r (u : (Int → Int) × (Int → Int)) => zA_lost n kd vl nb fr tl x v d w r) (fun (u : (Int → Int) × (Int → Int)) => cW E ac flt ce la si ln co n on tr u.1 u.2 ch nm) 0 0 := by
  refine zMi_of (own := RX9) (cc := cX9_lost) (maxL := 7) (by decide) rfl (Nat.le_of_ble_eq_true rfl) rfl ?_
  intro p e s m args below meth c Q A S hK hA hS hP hD hAe hG hQ ls hl
  have hl : lv_has ls 7 [(0, .ref (ac 0)), (1, .int (jI (x))), (2, .int (jI (v))), (3, .int (jI (d))), (4, .int (jI (w)))] := hl
  have hNA := zNm_A hG hAe hap
  refine lv_aload_n S.1 S.2.1 dX9_lost_0 rfl (lv_at hl 0 rfl) ?_
  refine z_get S hK hP 0 rfl rfl 2 (by decide) i_X9_lost_9 q_X9_lost_1 rfl dX9_lost_1 ?_
  refine lv_iload_n S.1 S.2.1 dX9_lost_4 rfl (lv_at hl 1 rfl) ?_
  refine z_rq (z_rV S hK (c_X4_one l E (ac 7) (ac 8) n on x an (by omega) (by omega) (hon)) gX9_lost_X4_one rfl hv_X4_one ⟨Nat.le_of_ble_eq_true rfl, Nat.le_of_ble_eq_true rfl⟩ (va_recv hK hP (ci := 4) (q0 := 7) rfl rfl) (hP.sub [7, 8] rfl) hl.1 rfl (Nat.le_of_ble_eq_true rfl) ⟨by decide, by decide⟩ rfl dX9_lost_5) (fun r_5 h_5 => ?_)
  rcases h_5 with ⟨e_5, hx_5⟩ | ⟨e_5, hx_5⟩
  · subst e_5
    refine W.eq (g2 := F0 m 8 ls [.ref (an x)]) rfl ?_
    refine lv_ifnull S.1 S.2.1 dX9_lost_8 ?_
    refine lv_iload_n S.1 S.2.1 dX9_lost_11 rfl (lv_at hl 2 rfl) ?_
    refine z_ri (z_rS S hK (c_X9_isVillage l E v (by omega)) gX9_lost_X9_isVillage rfl hs_X9_isVillage ⟨Nat.le_of_ble_eq_true rfl, Nat.le_of_ble_eq_true rfl⟩ trivial hl.1 rfl (Nat.le_of_ble_eq_true rfl) ⟨by decide, by decide⟩ rfl dX9_lost_12) (fun r_12 h_12 => ?_)
    refine z_if_ne (tgt := 20) S dX9_lost_15 (by decide) (by omega) (fun c_15 => ?_) (fun c_15 => ?_)
    · skip
      refine lv_iload_n S.1 S.2.1 dX9_lost_20 rfl (lv_at hl 3 rfl) ?_
      refine z_ri (z_rS S hK (c_X9_isDay l E d (by omega)) gX9_lost_X9_isDay rfl hs_X9_isDay ⟨Nat.le_of_ble_eq_true rfl, Nat.le_of_ble_eq_true rfl⟩ trivial hl.1 rfl (Nat.le_of_ble_eq_true rfl) ⟨by decide, by decide⟩ rfl dX9_lost_21) (fun r_21 h_21 => ?_)
      refine z_if_eq (tgt := 35) S dX9_lost_24 (by decide) (by omega) (fun c_24 => ?_) (fun c_24 => ?_)
      · skip
        refine z_bipush S (by decide +kernel) dX9_lost_35 ?_
        exact hQ (-2) ((fw, cw)) _ _ (Or.inr ⟨by omega, Or.inl ⟨by omega, rfl⟩⟩) hP hD hS _ _ dX9_lost_37
      · skip
        refine lv_iload S.1 S.2.1 dX9_lost_27 (lv_at hl 4 rfl) ?_
        refine z_ri (z_rS S hK (c_X9_isWords l E w (by omega)) gX9_lost_X9_isWords rfl hs_X9_isWords ⟨Nat.le_of_ble_eq_true rfl, Nat.le_of_ble_eq_true rfl⟩ trivial hl.1 rfl (Nat.le_of_ble_eq_true rfl) ⟨by decide, by decide⟩ rfl dX9_lost_29) (fun r_29 h_29 => ?_)
        refine z_if_ne (tgt := 38) S dX9_lost_32 (by decide) (by omega) (fun c_32 => ?_) (fun c_32 => ?_)
        · skip
          refine lv_aload_n S.1 S.2.1 dX9_lost_38 rfl (lv_at hl 0 rfl) ?_
          refine z_get S hK hP 0 rfl rfl 2 (by decide) i_X9_lost_9 q_X9_lost_1 rfl dX9_lost_39 ?_
          refine lv_aload_n S.1 S.2.1 dX9_lost_42 rfl (lv_at hl 0 rfl) ?_
          refine z_get S hK hP 0 rfl rfl 4 (by decide) i_X9_lost_9 q_X9_lost_2 rfl dX9_lost_43 ?_
          refine lv_iload_n S.1 S.2.1 dX9_lost_46 rfl (lv_at hl 2 rfl) ?_
          refine lv_iload_n S.1 S.2.1 dX9_lost_47 rfl (lv_at hl 3 rfl) ?_
          refine z_iconst S dX9_lost_48 ?_
          refine z_mv (wr := [(ac 0, .inr (9, [.ref (ac 1), .ref (ac 5), .ref (ac 7), .ref (ac 9), .ref (ac 10), .ref (ac 12), .ref (ac 14), .int (jI flt)])), (ac 1, .inr (7, [.ref (ac 2), .ref (ac 3), .ref (ac 4)])), (ac 2, eI E 400 ce), (ac 3, eI E 4 la), (ac 4, eI E 4 si), (ac 5, .inr (6, [.ref (ac 6), .int (jI ln)])), (ac 6, eI E 100 co), (ac 9, .inr (8, [.int (jI tr)])), (ac 12, .inr (0, [.ref (ac 13)])), (ac 13, eI E 1000 cw), (ac 14, .inr (5, [.ref (ac 15), .ref (ac 16)])), (ac 15, eI E 3 ch), (ac 16, eI E 3 nm)]) (z_mV S hK (c_X4_teach l E (ac 7) (ac 8) (ac 10) (ac 11) n on fw an kd vl nb fr tl v d (-1) (by omega) (by omega) (by omega) (by omega) (hon) (hpe) (zAp_sub (ws := (cW E ac flt ce la si ln co n on tr fw cw ch nm)) (zAp_adr hap rfl) [7, 8, 10, 11] rfl) _) gX9_lost_X4_teach rfl hv_X4_teach ⟨Nat.le_of_ble_eq_true rfl, Nat.le_of_ble_eq_true rfl⟩ (va_recv hK hP (ci := 4) (q0 := 7) rfl rfl) (hP.sub [7, 8, 10, 11] rfl) (hD.sub [7, 8, 10, 11] (by decide) rfl) (zNm_keep hG hS hNA) hl.1 rfl (Nat.le_of_ble_eq_true rfl) ⟨by decide, by decide⟩ rfl dX9_lost_49) hP hD hS hA [7, 8, 10, 11] [0, 1, 2, 3, 4, 5, 6, 9, 12, 13, 14, 15, 16] [0, 1, 2, 3, 4, 5, 6, 13, 14, 7, 15, 16, 8, 9, 10, 11, 12] rfl rfl (by decide) (by decide) (fun (u : Int → Int) => cW E ac flt ce la si ln co n on tr u cw ch nm) (by decide) (fun _ => rfl) (fun u H locs h_49 hP hD hS => ?_)
          obtain ⟨u49_fw, u49_fw_e⟩ : ∃ z, z = u := ⟨_, rfl⟩
          subst u49_fw_e
          try dsimp only at h_49
          have hP : zP E (cW E ac flt ce la si ln co n on tr u49_fw cw ch nm) H := hP
          have hD : va_D A (cW E ac flt ce la si ln co n on tr u49_fw cw ch nm) := hD
          have hT0 : zTab (zCan nb (fun x => zlive kd vl fr tl x v d) n) u49_fw 999 1000000 := zTab_cong (fun a _ _ => zCanW_m1) h_49
          refine lv_aload_n S.1 S.2.1 dX9_lost_52 rfl (lv_at hl 0 rfl) ?_
          refine z_get S hK hP 0 rfl rfl 2 (by decide) i_X9_lost_9 q_X9_lost_1 rfl dX9_lost_53 ?_
          refine lv_aload_n S.1 S.2.1 dX9_lost_56 rfl (lv_at hl 0 rfl) ?_
          refine z_get S hK hP 0 rfl rfl 5 (by decide) i_X9_lost_9 q_X9_lost_3 rfl dX9_lost_57 ?_
          refine lv_iload_n S.1 S.2.1 dX9_lost_60 rfl (lv_at hl 2 rfl) ?_
          refine lv_iload_n S.1 S.2.1 dX9_lost_61 rfl (lv_at hl 3 rfl) ?_
          refine lv_iload_n S.1 S.2.1 dX9_lost_62 rfl (lv_at hl 1 rfl) ?_
          refine z_mv (wr := [(ac 0, .inr (9, [.ref (ac 1), .ref (ac 5), .ref (ac 7), .ref (ac 9), .ref (ac 10), .ref (ac 12), .ref (ac 14), .int (jI flt)])), (ac 1, .inr (7, [.ref (ac 2), .ref (ac 3), .ref (ac 4)])), (ac 2, eI E 400 ce), (ac 3, eI E 4 la), (ac 4, eI E 4 si), (ac 5, .inr (6, [.ref (ac 6), .int (jI ln)])), (ac 6, eI E 100 co), (ac 9, .inr (8, [.int (jI tr)])), (ac 10, .inr (0, [.ref (ac 11)])), (ac 11, eI E 1000 u49_fw), (ac 14, .inr (5, [.ref (ac 15), .ref (ac 16)])), (ac 15, eI E 3 ch), (ac 16, eI E 3 nm)]) (z_mV S hK (c_X4_teach l E (ac 7) (ac 8) (ac 12) (ac 13) n on cw an kd vl nb fr tl v d x (by omega) (by omega) (by omega) (by omega) (hon) (hpe) (zAp_sub (ws := (cW E ac flt ce la si ln co n on tr u49_fw cw ch nm)) (zAp_adr hap rfl) [7, 8, 12, 13] rfl) _) gX9_lost_X4_teach rfl hv_X4_teach ⟨Nat.le_of_ble_eq_true rfl, Nat.le_of_ble_eq_true rfl⟩ (va_recv hK hP (ci := 4) (q0 := 7) rfl rfl) (hP.sub [7, 8, 12, 13] rfl) (hD.sub [7, 8, 12, 13] (by decide) rfl) (zNm_keep hG hS hNA) hl.1 rfl (Nat.le_of_ble_eq_true rfl) ⟨by decide, by decide⟩ rfl dX9_lost_63) hP hD hS hA [7, 8, 12, 13] [0, 1, 2, 3, 4, 5, 6, 9, 10, 11, 14, 15, 16] [0, 1, 2, 3, 4, 5, 6, 13, 14, 7, 8, 9, 15, 16, 10, 11, 12] rfl rfl (by decide) (by decide) (fun (u : Int → Int) => cW E ac flt ce la si ln co n on tr u49_fw u ch nm) (by decide) (fun _ => rfl) (fun u H locs h_63 hP hD hS => ?_)
          obtain ⟨u63_fw, u63_fw_e⟩ : ∃ z, z = u := ⟨_, rfl⟩
          subst u63_fw_e
          try dsimp only at h_63
          have hP : zP E (cW E ac flt ce la si ln co n on tr u49_fw u63_fw ch nm) H := hP
          have hD : va_D A (cW E ac flt ce la si ln co n on tr u49_fw u63_fw ch nm) := hD
          refine z_iconst S dX9_lost_66 ?_
          refine lv_istore (lv' := [(5, .int (jI (0))), (0, .ref (ac 0)), (1, .int (jI (x))), (2, .int (jI (v))), (3, .int (jI (d))), (4, .int (jI (w)))]) S.1 S.2.1 dX9_lost_67 hl (by decide) rfl (fun ls hl => ?_)
          refine z_iconst S dX9_lost_69 ?_
          refine lv_istore (lv' := [(6, .int (jI (1))), (5, .int (jI (0))), (0, .ref (ac 0)), (1, .int (jI (x))), (2, .int (jI (v))), (3, .int (jI (d))), (4, .int (jI (w)))]) S.1 S.2.1 dX9_lost_70 hl (by decide) rfl (fun ls hl => ?_)
          suffices HL_1 : ∀ (n_2 : Nat) (qq : Int) (ct : Int), (100 - qq).toNat < n_2 → (1 ≤ qq ∧ qq ≤ 100) → (ct = zcnt (fun q => zIn (zCan nb (fun x => zlive kd vl fr tl x v d) n) w q ∧ ¬ zIn (zCanW nb (fun x => zlive kd vl fr tl x v d) x n) w q) (qq - 1).toNat) → (0 ≤ ct ∧ ct < qq) → ∀ (H : Heap) (locs : List Loc), zP E (cW E ac flt ce la si ln co n on tr u49_fw u63_fw ch nm) H → va_D A (cW E ac flt ce la si ln co n on tr u49_fw u63_fw ch nm) → va_S A s.heap H locs → ∀ (ls : Array Slot), lv_has ls 7 [(6, .int (jI (qq))), (5, .int (jI (ct))), (0, .ref (ac 0)), (1, .int (jI (x))), (2, .int (jI (v))), (3, .int (jI (d))), (4, .int (jI (w)))] → W p l e (zr 5 0 0) s m args below meth c H locs 0 0 Q (F0 m 72 ls []) from
            HL_1 _ 1 0 (Nat.lt_succ_self _) (by omega) (rfl) (by omega) _ _ hP hD hS ls (lv_sub hl [0, 1, 2, 3, 4, 5, 6] rfl)
          intro n_2
          induction n_2 with
          | zero => intro qq ct hm hqq hct hctr; exact absurd hm (Nat.not_lt_zero _)
          | succ n_2 ih_3 =>
            intro qq ct hm hqq hct hctr H locs hP hD hS ls hl
            refine lv_iload S.1 S.2.1 dX9_lost_72 (lv_at hl 0 rfl) ?_
            refine z_bipush S (by decide +kernel) dX9_lost_74 ?_
            refine z_icmp_gt (tgt := 116) S dX9_lost_76 (by decide) (by omega) (fun c_76 => ?_) (fun c_76 => ?_)
            · skip
              refine lv_iload S.1 S.2.1 dX9_lost_116 (lv_at hl 1 rfl) ?_
              exact hQ (ct) ((u49_fw, u63_fw)) _ _ (Or.inr ⟨by omega, Or.inr ⟨by omega, by rw [hct, show qq = 100 by omega]; rfl⟩⟩) hP hD hS _ _ dX9_lost_118
            · skip
              refine lv_aload_n S.1 S.2.1 dX9_lost_79 rfl (lv_at hl 2 rfl) ?_
              refine z_get S hK hP 0 rfl rfl 4 (by decide) i_X9_lost_9 q_X9_lost_2 rfl dX9_lost_80 ?_
              refine lv_iload S.1 S.2.1 dX9_lost_83 (lv_at hl 0 rfl) ?_
              refine lv_iload S.1 S.2.1 dX9_lost_85 (lv_at hl 6 rfl) ?_
              refine z_ri (z_rV S hK (c_X0_within l E (ac 10) (ac 11) u49_fw qq w ((zCan nb (fun x => zlive kd vl fr tl x v d) n)) (by omega) (by omega) (hT0)) gX9_lost_X0_within rfl hv_X0_within ⟨Nat.le_of_ble_eq_true rfl, Nat.le_of_ble_eq_true rfl⟩ (va_recv hK hP (ci := 0) (q0 := 10) rfl rfl) (hP.sub [10, 11] rfl) hl.1 rfl (Nat.le_of_ble_eq_true rfl) ⟨by decide, by decide⟩ rfl dX9_lost_87) (fun r_87 h_87 => ?_)
              refine z_if_eq (tgt := 110) S dX9_lost_90 (by decide) (by omega) (fun c_90 => ?_) (fun c_90 => ?_)
              · skip
                refine z_iinc (lv' := [(6, .int (jI (qq + 1))), (5, .int (jI (ct))), (0, .ref (ac 0)), (1, .int (jI (x))), (2, .int (jI (v))), (3, .int (jI (d))), (4, .int (jI (w)))]) S hl (k := 0) rfl (by decide) rfl dX9_lost_110 (fun ls hl => ?_)
                refine z_goto (tgt := 72) S dX9_lost_113 (by decide) ?_
                exact ih_3 (qq + 1) ct (by omega) (by omega) (by first | rw [zcnt_nt (by omega) (show _ ∧ _ from ⟨zB_t h_87 (by omega), zB_f h_101 (by omega)⟩), ← hct] | exact hct.trans (zcnt_nf (by omega) (fun z => zB_f h_87 (by omega) z.1)).symm | exact hct.trans (zcnt_nf (by omega) (fun z => z.2 (zB_t h_101 (by omega)))).symm) (by omega) _ _ hP hD hS ls (lv_sub hl [0, 1, 2, 3, 4, 5, 6] rfl)
              · skip
                refine lv_aload_n S.1 S.2.1 dX9_lost_93 rfl (lv_at hl 2 rfl) ?_
                refine z_get S hK hP 0 rfl rfl 5 (by decide) i_X9_lost_9 q_X9_lost_3 rfl dX9_lost_94 ?_
                refine lv_iload S.1 S.2.1 dX9_lost_97 (lv_at hl 0 rfl) ?_
                refine lv_iload S.1 S.2.1 dX9_lost_99 (lv_at hl 6 rfl) ?_
                refine z_ri (z_rV S hK (c_X0_within l E (ac 12) (ac 13) u63_fw qq w ((zCanW nb (fun x => zlive kd vl fr tl x v d) x n)) (by omega) (by omega) (h_63)) gX9_lost_X0_within rfl hv_X0_within ⟨Nat.le_of_ble_eq_true rfl, Nat.le_of_ble_eq_true rfl⟩ (va_recv hK hP (ci := 0) (q0 := 12) rfl rfl) (hP.sub [12, 13] rfl) hl.1 rfl (Nat.le_of_ble_eq_true rfl) ⟨by decide, by decide⟩ rfl dX9_lost_101) (fun r_101 h_101 => ?_)
                refine z_if_ne (tgt := 110) S dX9_lost_104 (by decide) (by omega) (fun c_104 => ?_) (fun c_104 => ?_)
                · skip
                  refine z_iinc (lv' := [(6, .int (jI (qq + 1))), (5, .int (jI (ct))), (0, .ref (ac 0)), (1, .int (jI (x))), (2, .int (jI (v))), (3, .int (jI (d))), (4, .int (jI (w)))]) S hl (k := 0) rfl (by decide) rfl dX9_lost_110 (fun ls hl => ?_)
                  refine z_goto (tgt := 72) S dX9_lost_113 (by decide) ?_
                  exact ih_3 (qq + 1) ct (by omega) (by omega) (by first | rw [zcnt_nt (by omega) (show _ ∧ _ from ⟨zB_t h_87 (by omega), zB_f h_101 (by omega)⟩), ← hct] | exact hct.trans (zcnt_nf (by omega) (fun z => zB_f h_87 (by omega) z.1)).symm | exact hct.trans (zcnt_nf (by omega) (fun z => z.2 (zB_t h_101 (by omega)))).symm) (by omega) _ _ hP hD hS ls (lv_sub hl [0, 1, 2, 3, 4, 5, 6] rfl)
                · skip
                  refine z_iinc (lv' := [(5, .int (jI (ct + 1))), (6, .int (jI (qq))), (0, .ref (ac 0)), (1, .int (jI (x))), (2, .int (jI (v))), (3, .int (jI (d))), (4, .int (jI (w)))]) S hl (k := 1) rfl (by decide) rfl dX9_lost_107 (fun ls hl => ?_)
                  refine z_iinc (lv' := [(6, .int (jI (qq + 1))), (5, .int (jI (ct + 1))), (0, .ref (ac 0)), (1, .int (jI (x))), (2, .int (jI (v))), (3, .int (jI (d))), (4, .int (jI (w)))]) S hl (k := 1) rfl (by decide) rfl dX9_lost_110 (fun ls hl => ?_)
                  refine z_goto (tgt := 72) S dX9_lost_113 (by decide) ?_
                  exact ih_3 (qq + 1) (ct + 1) (by omega) (by omega) (by first | rw [zcnt_nt (by omega) (show _ ∧ _ from ⟨zB_t h_87 (by omega), zB_f h_101 (by omega)⟩), ← hct] | exact hct.trans (zcnt_nf (by omega) (fun z => zB_f h_87 (by omega) z.1)).symm | exact hct.trans (zcnt_nf (by omega) (fun z => z.2 (zB_t h_101 (by omega)))).symm) (by omega) _ _ hP hD hS ls (lv_sub hl [0, 1, 2, 3, 4, 5, 6] rfl)
        · skip
          refine z_bipush S (by decide +kernel) dX9_lost_35 ?_
          exact hQ (-2) ((fw, cw)) _ _ (Or.inr ⟨by omega, Or.inl ⟨by omega, rfl⟩⟩) hP hD hS _ _ dX9_lost_37
    · skip
      refine z_iconst S dX9_lost_18 ?_
      exact hQ (-1) ((fw, cw)) _ _ (Or.inl ⟨by omega, rfl⟩) hP hD hS _ _ dX9_lost_19
  · subst e_5
    refine W.eq (g2 := F0 m 8 ls [.null]) rfl ?_
    refine lv_ifnullN (tgt := 18) S.1 S.2.1 dX9_lost_8 (by decide) ?_
    refine z_iconst S dX9_lost_18 ?_
    exact hQ (-1) ((fw, cw)) _ _ (Or.inl ⟨by omega, rfl⟩) hP hD hS _ _ dX9_lost_19

set_option maxHeartbeats 1000000 in
set_option maxRecDepth 20000 in
theorem c_X9_told (l : Launch) (E : zE) (ac : Nat → Nat) (flt : Int) (ce la si : Int → Int) (ln : Int) (co : Int → Int) (n : Int) (on : Nat → Option Nat) (tr : Int) (fw cw ch nm : Int → Int) (an : Int → Nat) (kd vl nb fr tl : Int → Int) (v : Int) (d : Int) (w : Int) (wh : Int) (h_v : -2147483648 ≤ v ∧ v ≤ 2147483647) (h_d : -2147483648 ≤ d ∧ d ≤ 2147483647) (h_w : -2147483648 ≤ w ∧ w ≤ 2147483647) (h_wh : -2147483648 ≤ wh ∧ wh ≤ 2147483647) (hp : 0 ≤ n ∧ n ≤ 10) (hon : zOns n on an) (hpe : zPeo n kd vl nb fr tl) (hap : zAp (cW E ac flt ce la si ln co n on tr fw cw ch nm) n an) : zMl l E yX9_told wsX9_told (zr 5 0 0) [.ref (ac 0), .int (jI (v)), .int (jI (d)), .int (jI (w)), .int (jI (wh))] (cW E ac flt ce la si ln co n on tr fw cw ch nm) (fun H => zNm E n an kd vl nb fr tl H) (fun r (u : Int → Int) => zA_told n kd vl nb fr tl v d w wh r) (fun (u : Int → Int) => cW E ac flt ce la si ln co n on tr u cw ch nm) 0 0 := by
  refine zMl_of (own := RX9) (cc := cX9_told) (maxL := 7) (by decide) rfl (Nat.le_of_ble_eq_true rfl) rfl ?_
  intro p e s m args below meth c Q A S hK hA hS hP hD hAe hG hQ ls hl
  have hl : lv_has ls 7 [(0, .ref (ac 0)), (1, .int (jI (v))), (2, .int (jI (d))), (3, .int (jI (w))), (4, .int (jI (wh)))] := hl
  have hNA := zNm_A hG hAe hap
  refine lv_iload_n S.1 S.2.1 dX9_told_0 rfl (lv_at hl 1 rfl) ?_
  refine z_ri (z_rS S hK (c_X9_isVillage l E v (by omega)) gX9_told_X9_isVillage rfl hs_X9_isVillage ⟨Nat.le_of_ble_eq_true rfl, Nat.le_of_ble_eq_true rfl⟩ trivial hl.1 rfl (Nat.le_of_ble_eq_true rfl) ⟨by decide, by decide⟩ rfl dX9_told_1) (fun r_1 h_1 => ?_)
  refine z_if_eq (tgt := 32) S dX9_told_4 (by decide) (by omega) (fun c_4 => ?_) (fun c_4 => ?_)
  · skip
    refine z_ldc2 (n := -9223372036854775808) S q_X9_told_1 (by decide +kernel) dX9_told_32 ?_
    exact hQ (-9223372036854775808) (fw) _ _ (Or.inl ⟨by omega, rfl⟩) hP hD hS _ _ dX9_told_35
  · skip
    refine lv_iload_n S.1 S.2.1 dX9_told_7 rfl (lv_at hl 2 rfl) ?_
    refine z_ri (z_rS S hK (c_X9_isDay l E d (by omega)) gX9_told_X9_isDay rfl hs_X9_isDay ⟨Nat.le_of_ble_eq_true rfl, Nat.le_of_ble_eq_true rfl⟩ trivial hl.1 rfl (Nat.le_of_ble_eq_true rfl) ⟨by decide, by decide⟩ rfl dX9_told_8) (fun r_8 h_8 => ?_)
    refine z_if_eq (tgt := 32) S dX9_told_11 (by decide) (by omega) (fun c_11 => ?_) (fun c_11 => ?_)
    · skip
      refine z_ldc2 (n := -9223372036854775808) S q_X9_told_1 (by decide +kernel) dX9_told_32 ?_
      exact hQ (-9223372036854775808) (fw) _ _ (Or.inl ⟨by omega, rfl⟩) hP hD hS _ _ dX9_told_35
    · skip
      refine lv_iload_n S.1 S.2.1 dX9_told_14 rfl (lv_at hl 3 rfl) ?_
      refine z_ri (z_rS S hK (c_X9_isWords l E w (by omega)) gX9_told_X9_isWords rfl hs_X9_isWords ⟨Nat.le_of_ble_eq_true rfl, Nat.le_of_ble_eq_true rfl⟩ trivial hl.1 rfl (Nat.le_of_ble_eq_true rfl) ⟨by decide, by decide⟩ rfl dX9_told_15) (fun r_15 h_15 => ?_)
      refine z_if_eq (tgt := 32) S dX9_told_18 (by decide) (by omega) (fun c_18 => ?_) (fun c_18 => ?_)
      · skip
        refine z_ldc2 (n := -9223372036854775808) S q_X9_told_1 (by decide +kernel) dX9_told_32 ?_
        exact hQ (-9223372036854775808) (fw) _ _ (Or.inl ⟨by omega, rfl⟩) hP hD hS _ _ dX9_told_35
      · skip
        refine lv_iload S.1 S.2.1 dX9_told_21 (lv_at hl 4 rfl) ?_
        refine z_if_lt (tgt := 32) S dX9_told_23 (by decide) (by omega) (fun c_23 => ?_) (fun c_23 => ?_)
        · skip
          refine z_ldc2 (n := -9223372036854775808) S q_X9_told_1 (by decide +kernel) dX9_told_32 ?_
          exact hQ (-9223372036854775808) (fw) _ _ (Or.inl ⟨by omega, rfl⟩) hP hD hS _ _ dX9_told_35
        · skip
          refine lv_iload S.1 S.2.1 dX9_told_26 (lv_at hl 4 rfl) ?_
          refine z_iconst S dX9_told_28 ?_
          refine z_icmp_le (tgt := 36) S dX9_told_29 (by decide) (by omega) (fun c_29 => ?_) (fun c_29 => ?_)
          · skip
            refine lv_aload_n S.1 S.2.1 dX9_told_36 rfl (lv_at hl 0 rfl) ?_
            refine z_get S hK hP 0 rfl rfl 2 (by decide) i_X9_told_9 q_X9_told_2 rfl dX9_told_37 ?_
            refine lv_aload_n S.1 S.2.1 dX9_told_40 rfl (lv_at hl 0 rfl) ?_
            refine z_get S hK hP 0 rfl rfl 4 (by decide) i_X9_told_9 q_X9_told_3 rfl dX9_told_41 ?_
            refine lv_iload_n S.1 S.2.1 dX9_told_44 rfl (lv_at hl 1 rfl) ?_
            refine lv_iload_n S.1 S.2.1 dX9_told_45 rfl (lv_at hl 2 rfl) ?_
            refine z_iconst S dX9_told_46 ?_
            refine z_mv (wr := [(ac 0, .inr (9, [.ref (ac 1), .ref (ac 5), .ref (ac 7), .ref (ac 9), .ref (ac 10), .ref (ac 12), .ref (ac 14), .int (jI flt)])), (ac 1, .inr (7, [.ref (ac 2), .ref (ac 3), .ref (ac 4)])), (ac 2, eI E 400 ce), (ac 3, eI E 4 la), (ac 4, eI E 4 si), (ac 5, .inr (6, [.ref (ac 6), .int (jI ln)])), (ac 6, eI E 100 co), (ac 9, .inr (8, [.int (jI tr)])), (ac 12, .inr (0, [.ref (ac 13)])), (ac 13, eI E 1000 cw), (ac 14, .inr (5, [.ref (ac 15), .ref (ac 16)])), (ac 15, eI E 3 ch), (ac 16, eI E 3 nm)]) (z_mV S hK (c_X4_teach l E (ac 7) (ac 8) (ac 10) (ac 11) n on fw an kd vl nb fr tl v d (-1) (by omega) (by omega) (by omega) (by omega) (hon) (hpe) (zAp_sub (ws := (cW E ac flt ce la si ln co n on tr fw cw ch nm)) (zAp_adr hap rfl) [7, 8, 10, 11] rfl) _) gX9_told_X4_teach rfl hv_X4_teach ⟨Nat.le_of_ble_eq_true rfl, Nat.le_of_ble_eq_true rfl⟩ (va_recv hK hP (ci := 4) (q0 := 7) rfl rfl) (hP.sub [7, 8, 10, 11] rfl) (hD.sub [7, 8, 10, 11] (by decide) rfl) (zNm_keep hG hS hNA) hl.1 rfl (Nat.le_of_ble_eq_true rfl) ⟨by decide, by decide⟩ rfl dX9_told_47) hP hD hS hA [7, 8, 10, 11] [0, 1, 2, 3, 4, 5, 6, 9, 12, 13, 14, 15, 16] [0, 1, 2, 3, 4, 5, 6, 13, 14, 7, 15, 16, 8, 9, 10, 11, 12] rfl rfl (by decide) (by decide) (fun (u : Int → Int) => cW E ac flt ce la si ln co n on tr u cw ch nm) (by decide) (fun _ => rfl) (fun u H locs h_47 hP hD hS => ?_)
            obtain ⟨u47_fw, u47_fw_e⟩ : ∃ z, z = u := ⟨_, rfl⟩
            subst u47_fw_e
            try dsimp only at h_47
            have hP : zP E (cW E ac flt ce la si ln co n on tr u47_fw cw ch nm) H := hP
            have hD : va_D A (cW E ac flt ce la si ln co n on tr u47_fw cw ch nm) := hD
            have hT0 : zTab (zCan nb (fun x => zlive kd vl fr tl x v d) n) u47_fw 999 1000000 := zTab_cong (fun a _ _ => zCanW_m1) h_47
            refine z_iconst S dX9_told_50 ?_
            refine lv_istore (lv' := [(5, .int (jI (0))), (0, .ref (ac 0)), (1, .int (jI (v))), (2, .int (jI (d))), (3, .int (jI (w))), (4, .int (jI (wh)))]) S.1 S.2.1 dX9_told_51 hl (by decide) rfl (fun ls hl => ?_)
            refine z_iconst S dX9_told_53 ?_
            refine lv_istore (lv' := [(6, .int (jI (1))), (5, .int (jI (0))), (0, .ref (ac 0)), (1, .int (jI (v))), (2, .int (jI (d))), (3, .int (jI (w))), (4, .int (jI (wh)))]) S.1 S.2.1 dX9_told_54 hl (by decide) rfl (fun ls hl => ?_)
            suffices HL_1 : ∀ (n_2 : Nat) (qq : Int) (ct : Int), (100 - qq).toNat < n_2 → (1 ≤ qq ∧ qq ≤ 100) → (ct = zcnt (fun q => zIn (zCan nb (fun x => zlive kd vl fr tl x v d) n) w q) (qq - 1).toNat) → (0 ≤ ct ∧ ct < qq) → ∀ (H : Heap) (locs : List Loc), zP E (cW E ac flt ce la si ln co n on tr u47_fw cw ch nm) H → va_D A (cW E ac flt ce la si ln co n on tr u47_fw cw ch nm) → va_S A s.heap H locs → ∀ (ls : Array Slot), lv_has ls 7 [(6, .int (jI (qq))), (5, .int (jI (ct))), (0, .ref (ac 0)), (1, .int (jI (v))), (2, .int (jI (d))), (3, .int (jI (w))), (4, .int (jI (wh)))] → W p l e (zr 5 0 0) s m args below meth c H locs 0 0 Q (F0 m 56 ls []) from
              HL_1 _ 1 0 (Nat.lt_succ_self _) (by omega) (rfl) (by omega) _ _ hP hD hS ls (lv_sub hl [0, 1, 2, 3, 4, 5, 6] rfl)
            intro n_2
            induction n_2 with
            | zero => intro qq ct hm hqq hct hctr; exact absurd hm (Nat.not_lt_zero _)
            | succ n_2 ih_3 =>
              intro qq ct hm hqq hct hctr H locs hP hD hS ls hl
              refine lv_iload S.1 S.2.1 dX9_told_56 (lv_at hl 0 rfl) ?_
              refine z_bipush S (by decide +kernel) dX9_told_58 ?_
              refine z_icmp_gt (tgt := 85) S dX9_told_60 (by decide) (by omega) (fun c_60 => ?_) (fun c_60 => ?_)
              · skip
                have he99 : ct = zcnt (fun q => zIn (zCan nb (fun x => zlive kd vl fr tl x v d) n) w q) 99 := by rw [hct, show qq = 100 by omega]; rfl
                refine lv_iload S.1 S.2.1 dX9_told_85 (lv_at hl 6 rfl) ?_
                refine z_if_ne (tgt := 101) S dX9_told_87 (by decide) (by omega) (fun c_87 => ?_) (fun c_87 => ?_)
                · skip
                  refine z_bipush S (by decide +kernel) dX9_told_101 ?_
                  refine lv_iload S.1 S.2.1 dX9_told_103 (lv_at hl 1 rfl) ?_
                  refine z_ri (z_rS S hK (c_X9_reduced l E 99 ct (by omega) (by omega) (by omega)) gX9_told_X9_reduced rfl hs_X9_reduced ⟨Nat.le_of_ble_eq_true rfl, Nat.le_of_ble_eq_true rfl⟩ trivial hl.1 rfl (Nat.le_of_ble_eq_true rfl) ⟨by decide, by decide⟩ rfl dX9_told_105) (fun r_105 h_105 => ?_)
                  have hr105 := zdiv_rng h_105 (by omega)
                  refine z_i2l S (by omega) dX9_told_108 ?_
                  exact hQ (r_105) (u47_fw) _ _ (Or.inr ⟨by omega, by first | exact Or.inl ⟨by omega, by rw [h_94, he99]⟩ | exact Or.inr ⟨by omega, by rw [h_105, he99, Int.gcd_comm]⟩⟩) hP hD hS _ _ dX9_told_109
                · skip
                  refine lv_iload S.1 S.2.1 dX9_told_90 (lv_at hl 1 rfl) ?_
                  refine z_bipush S (by decide +kernel) dX9_told_92 ?_
                  refine z_ri (z_rS S hK (c_X9_reduced l E ct 99 (by omega) (by omega) (by omega)) gX9_told_X9_reduced rfl hs_X9_reduced ⟨Nat.le_of_ble_eq_true rfl, Nat.le_of_ble_eq_true rfl⟩ trivial hl.1 rfl (Nat.le_of_ble_eq_true rfl) ⟨by decide, by decide⟩ rfl dX9_told_94) (fun r_94 h_94 => ?_)
                  have hr94 := zdiv_rng h_94 (by omega)
                  refine z_i2l S (by omega) dX9_told_97 ?_
                  refine z_goto (tgt := 109) S dX9_told_98 (by decide) ?_
                  exact hQ (r_94) (u47_fw) _ _ (Or.inr ⟨by omega, by first | exact Or.inl ⟨by omega, by rw [h_94, he99]⟩ | exact Or.inr ⟨by omega, by rw [h_105, he99, Int.gcd_comm]⟩⟩) hP hD hS _ _ dX9_told_109
              · skip
                refine lv_aload_n S.1 S.2.1 dX9_told_63 rfl (lv_at hl 2 rfl) ?_
                refine z_get S hK hP 0 rfl rfl 4 (by decide) i_X9_told_9 q_X9_told_3 rfl dX9_told_64 ?_
                refine lv_iload S.1 S.2.1 dX9_told_67 (lv_at hl 0 rfl) ?_
                refine lv_iload_n S.1 S.2.1 dX9_told_69 rfl (lv_at hl 5 rfl) ?_
                refine z_ri (z_rV S hK (c_X0_within l E (ac 10) (ac 11) u47_fw qq w ((zCan nb (fun x => zlive kd vl fr tl x v d) n)) (by omega) (by omega) (hT0)) gX9_told_X0_within rfl hv_X0_within ⟨Nat.le_of_ble_eq_true rfl, Nat.le_of_ble_eq_true rfl⟩ (va_recv hK hP (ci := 0) (q0 := 10) rfl rfl) (hP.sub [10, 11] rfl) hl.1 rfl (Nat.le_of_ble_eq_true rfl) ⟨by decide, by decide⟩ rfl dX9_told_70) (fun r_70 h_70 => ?_)
                refine z_if_eq (tgt := 79) S dX9_told_73 (by decide) (by omega) (fun c_73 => ?_) (fun c_73 => ?_)
                · skip
                  refine z_iinc (lv' := [(6, .int (jI (qq + 1))), (5, .int (jI (ct))), (0, .ref (ac 0)), (1, .int (jI (v))), (2, .int (jI (d))), (3, .int (jI (w))), (4, .int (jI (wh)))]) S hl (k := 0) rfl (by decide) rfl dX9_told_79 (fun ls hl => ?_)
                  refine z_goto (tgt := 56) S dX9_told_82 (by decide) ?_
                  exact ih_3 (qq + 1) ct (by omega) (by omega) (by first | rw [zcnt_nt (by omega) (zB_t h_70 (by omega)), ← hct] | exact hct.trans (zcnt_nf (by omega) (zB_f h_70 (by omega))).symm) (by omega) _ _ hP hD hS ls (lv_sub hl [0, 1, 2, 3, 4, 5, 6] rfl)
                · skip
                  refine z_iinc (lv' := [(5, .int (jI (ct + 1))), (6, .int (jI (qq))), (0, .ref (ac 0)), (1, .int (jI (v))), (2, .int (jI (d))), (3, .int (jI (w))), (4, .int (jI (wh)))]) S hl (k := 1) rfl (by decide) rfl dX9_told_76 (fun ls hl => ?_)
                  refine z_iinc (lv' := [(6, .int (jI (qq + 1))), (5, .int (jI (ct + 1))), (0, .ref (ac 0)), (1, .int (jI (v))), (2, .int (jI (d))), (3, .int (jI (w))), (4, .int (jI (wh)))]) S hl (k := 1) rfl (by decide) rfl dX9_told_79 (fun ls hl => ?_)
                  refine z_goto (tgt := 56) S dX9_told_82 (by decide) ?_
                  exact ih_3 (qq + 1) (ct + 1) (by omega) (by omega) (by first | rw [zcnt_nt (by omega) (zB_t h_70 (by omega)), ← hct] | exact hct.trans (zcnt_nf (by omega) (zB_f h_70 (by omega))).symm) (by omega) _ _ hP hD hS ls (lv_sub hl [0, 1, 2, 3, 4, 5, 6] rfl)
          · skip
            refine z_ldc2 (n := -9223372036854775808) S q_X9_told_1 (by decide +kernel) dX9_told_32 ?_
            exact hQ (-9223372036854775808) (fw) _ _ (Or.inl ⟨by omega, rfl⟩) hP hD hS _ _ dX9_told_35

set_option maxHeartbeats 1000000 in
set_option maxRecDepth 20000 in
theorem c_X9_back (l : Launch) (E : zE) (ac : Nat → Nat) (flt : Int) (ce la si : Int → Int) (ln : Int) (co : Int → Int) (n : Int) (on : Nat → Option Nat) (tr : Int) (fw cw ch nm : Int → Int) (an : Int → Nat) (kd vl nb fr tl : Int → Int) (q : Int) (v : Int) (d : Int) (w : Int) (k : Int) (h_q : -2147483648 ≤ q ∧ q ≤ 2147483647) (h_v : -2147483648 ≤ v ∧ v ≤ 2147483647) (h_d : -2147483648 ≤ d ∧ d ≤ 2147483647) (h_w : -2147483648 ≤ w ∧ w ≤ 2147483647) (h_k : -2147483648 ≤ k ∧ k ≤ 2147483647) (hp : 0 ≤ n ∧ n ≤ 10) (hon : zOns n on an) (hpe : zPeo n kd vl nb fr tl) (hap : zAp (cW E ac flt ce la si ln co n on tr fw cw ch nm) n an) : zMi l E yX9_back wsX9_back (zr 9 0 0) [.ref (ac 0), .int (jI (q)), .int (jI (v)), .int (jI (d)), .int (jI (w)), .int (jI (k))] (cW E ac flt ce la si ln co n on tr fw cw ch nm) (fun H => zNm E n an kd vl nb fr tl H) (fun r (u : (Int → Int) × ((Int → Int) × (Int → Int))) => zA_back n kd vl nb fr tl q v d w k r) (fun (u : (Int → Int) × ((Int → Int) × (Int → Int))) => cW E ac flt ce la si ln co n on tr u.1 cw u.2.1 u.2.2) 0 0 := by
  refine zMi_of (own := RX9) (cc := cX9_back) (maxL := 7) (by decide) rfl (Nat.le_of_ble_eq_true rfl) rfl ?_
  intro p e s m args below meth c Q A S hK hA hS hP hD hAe hG hQ ls hl
  have hl : lv_has ls 7 [(0, .ref (ac 0)), (1, .int (jI (q))), (2, .int (jI (v))), (3, .int (jI (d))), (4, .int (jI (w))), (5, .int (jI (k)))] := hl
  have hNA := zNm_A hG hAe hap
  refine lv_iload_n S.1 S.2.1 dX9_back_0 rfl (lv_at hl 2 rfl) ?_
  refine z_ri (z_rS S hK (c_X9_isVillage l E v (by omega)) gX9_back_X9_isVillage rfl hs_X9_isVillage ⟨Nat.le_of_ble_eq_true rfl, Nat.le_of_ble_eq_true rfl⟩ trivial hl.1 rfl (Nat.le_of_ble_eq_true rfl) ⟨by decide, by decide⟩ rfl dX9_back_1) (fun r_1 h_1 => ?_)
  refine z_if_eq (tgt := 19) S dX9_back_4 (by decide) (by omega) (fun c_4 => ?_) (fun c_4 => ?_)
  · skip
    refine z_iconst S dX9_back_19 ?_
    exact hQ (-1) ((fw, (ch, nm))) _ _ (Or.inl ⟨by omega, rfl⟩) hP hD hS _ _ dX9_back_20
  · skip
    refine lv_iload S.1 S.2.1 dX9_back_7 (lv_at hl 5 rfl) ?_
    refine z_iconst S dX9_back_9 ?_
    refine z_icmp_lt (tgt := 19) S dX9_back_10 (by decide) (by omega) (fun c_10 => ?_) (fun c_10 => ?_)
    · skip
      refine z_iconst S dX9_back_19 ?_
      exact hQ (-1) ((fw, (ch, nm))) _ _ (Or.inl ⟨by omega, rfl⟩) hP hD hS _ _ dX9_back_20
    · skip
      refine lv_iload S.1 S.2.1 dX9_back_13 (lv_at hl 5 rfl) ?_
      refine z_iconst S dX9_back_15 ?_
      refine z_icmp_lt (tgt := 21) S dX9_back_16 (by decide) (by omega) (fun c_16 => ?_) (fun c_16 => ?_)
      · skip
        refine lv_iload_n S.1 S.2.1 dX9_back_21 rfl (lv_at hl 1 rfl) ?_
        refine z_ri (z_rS S hK (c_X9_isQuantity l E q (by omega)) gX9_back_X9_isQuantity rfl hs_X9_isQuantity ⟨Nat.le_of_ble_eq_true rfl, Nat.le_of_ble_eq_true rfl⟩ trivial hl.1 rfl (Nat.le_of_ble_eq_true rfl) ⟨by decide, by decide⟩ rfl dX9_back_22) (fun r_22 h_22 => ?_)
        refine z_if_eq (tgt := 43) S dX9_back_25 (by decide) (by omega) (fun c_25 => ?_) (fun c_25 => ?_)
        · skip
          refine z_bipush S (by decide +kernel) dX9_back_43 ?_
          exact hQ (-2) ((fw, (ch, nm))) _ _ (Or.inr ⟨by omega, Or.inl ⟨by omega, rfl⟩⟩) hP hD hS _ _ dX9_back_45
        · skip
          refine lv_iload_n S.1 S.2.1 dX9_back_28 rfl (lv_at hl 3 rfl) ?_
          refine z_ri (z_rS S hK (c_X9_isDay l E d (by omega)) gX9_back_X9_isDay rfl hs_X9_isDay ⟨Nat.le_of_ble_eq_true rfl, Nat.le_of_ble_eq_true rfl⟩ trivial hl.1 rfl (Nat.le_of_ble_eq_true rfl) ⟨by decide, by decide⟩ rfl dX9_back_29) (fun r_29 h_29 => ?_)
          refine z_if_eq (tgt := 43) S dX9_back_32 (by decide) (by omega) (fun c_32 => ?_) (fun c_32 => ?_)
          · skip
            refine z_bipush S (by decide +kernel) dX9_back_43 ?_
            exact hQ (-2) ((fw, (ch, nm))) _ _ (Or.inr ⟨by omega, Or.inl ⟨by omega, rfl⟩⟩) hP hD hS _ _ dX9_back_45
          · skip
            refine lv_iload S.1 S.2.1 dX9_back_35 (lv_at hl 4 rfl) ?_
            refine z_ri (z_rS S hK (c_X9_isWords l E w (by omega)) gX9_back_X9_isWords rfl hs_X9_isWords ⟨Nat.le_of_ble_eq_true rfl, Nat.le_of_ble_eq_true rfl⟩ trivial hl.1 rfl (Nat.le_of_ble_eq_true rfl) ⟨by decide, by decide⟩ rfl dX9_back_37) (fun r_37 h_37 => ?_)
            refine z_if_ne (tgt := 46) S dX9_back_40 (by decide) (by omega) (fun c_40 => ?_) (fun c_40 => ?_)
            · skip
              refine lv_aload_n S.1 S.2.1 dX9_back_46 rfl (lv_at hl 0 rfl) ?_
              refine z_get S hK hP 0 rfl rfl 2 (by decide) i_X9_back_9 q_X9_back_1 rfl dX9_back_47 ?_
              refine lv_aload_n S.1 S.2.1 dX9_back_50 rfl (lv_at hl 0 rfl) ?_
              refine z_get S hK hP 0 rfl rfl 4 (by decide) i_X9_back_9 q_X9_back_2 rfl dX9_back_51 ?_
              refine lv_iload_n S.1 S.2.1 dX9_back_54 rfl (lv_at hl 2 rfl) ?_
              refine lv_iload_n S.1 S.2.1 dX9_back_55 rfl (lv_at hl 3 rfl) ?_
              refine z_iconst S dX9_back_56 ?_
              refine z_mv (wr := [(ac 0, .inr (9, [.ref (ac 1), .ref (ac 5), .ref (ac 7), .ref (ac 9), .ref (ac 10), .ref (ac 12), .ref (ac 14), .int (jI flt)])), (ac 1, .inr (7, [.ref (ac 2), .ref (ac 3), .ref (ac 4)])), (ac 2, eI E 400 ce), (ac 3, eI E 4 la), (ac 4, eI E 4 si), (ac 5, .inr (6, [.ref (ac 6), .int (jI ln)])), (ac 6, eI E 100 co), (ac 9, .inr (8, [.int (jI tr)])), (ac 12, .inr (0, [.ref (ac 13)])), (ac 13, eI E 1000 cw), (ac 14, .inr (5, [.ref (ac 15), .ref (ac 16)])), (ac 15, eI E 3 ch), (ac 16, eI E 3 nm)]) (z_mV S hK (c_X4_teach l E (ac 7) (ac 8) (ac 10) (ac 11) n on fw an kd vl nb fr tl v d (-1) (by omega) (by omega) (by omega) (by omega) (hon) (hpe) (zAp_sub (ws := (cW E ac flt ce la si ln co n on tr fw cw ch nm)) (zAp_adr hap rfl) [7, 8, 10, 11] rfl) _) gX9_back_X4_teach rfl hv_X4_teach ⟨Nat.le_of_ble_eq_true rfl, Nat.le_of_ble_eq_true rfl⟩ (va_recv hK hP (ci := 4) (q0 := 7) rfl rfl) (hP.sub [7, 8, 10, 11] rfl) (hD.sub [7, 8, 10, 11] (by decide) rfl) (zNm_keep hG hS hNA) hl.1 rfl (Nat.le_of_ble_eq_true rfl) ⟨by decide, by decide⟩ rfl dX9_back_57) hP hD hS hA [7, 8, 10, 11] [0, 1, 2, 3, 4, 5, 6, 9, 12, 13, 14, 15, 16] [0, 1, 2, 3, 4, 5, 6, 13, 14, 7, 15, 16, 8, 9, 10, 11, 12] rfl rfl (by decide) (by decide) (fun (u : Int → Int) => cW E ac flt ce la si ln co n on tr u cw ch nm) (by decide) (fun _ => rfl) (fun u H locs h_57 hP hD hS => ?_)
              obtain ⟨u57_fw, u57_fw_e⟩ : ∃ z, z = u := ⟨_, rfl⟩
              subst u57_fw_e
              try dsimp only at h_57
              have hP : zP E (cW E ac flt ce la si ln co n on tr u57_fw cw ch nm) H := hP
              have hD : va_D A (cW E ac flt ce la si ln co n on tr u57_fw cw ch nm) := hD
              have hT0 : zTab (zCan nb (fun x => zlive kd vl fr tl x v d) n) u57_fw 999 1000000 := zTab_cong (fun a _ _ => zCanW_m1) h_57
              refine lv_aload_n S.1 S.2.1 dX9_back_60 rfl (lv_at hl 0 rfl) ?_
              refine z_get S hK hP 0 rfl rfl 6 (by decide) i_X9_back_9 q_X9_back_3 rfl dX9_back_61 ?_
              refine lv_aload_n S.1 S.2.1 dX9_back_64 rfl (lv_at hl 0 rfl) ?_
              refine z_get S hK hP 0 rfl rfl 2 (by decide) i_X9_back_9 q_X9_back_1 rfl dX9_back_65 ?_
              refine lv_aload_n S.1 S.2.1 dX9_back_68 rfl (lv_at hl 0 rfl) ?_
              refine z_get S hK hP 0 rfl rfl 4 (by decide) i_X9_back_9 q_X9_back_2 rfl dX9_back_69 ?_
              refine lv_iload_n S.1 S.2.1 dX9_back_72 rfl (lv_at hl 1 rfl) ?_
              refine lv_iload S.1 S.2.1 dX9_back_73 (lv_at hl 4 rfl) ?_
              refine z_mi (wr := [(ac 0, .inr (9, [.ref (ac 1), .ref (ac 5), .ref (ac 7), .ref (ac 9), .ref (ac 10), .ref (ac 12), .ref (ac 14), .int (jI flt)])), (ac 1, .inr (7, [.ref (ac 2), .ref (ac 3), .ref (ac 4)])), (ac 2, eI E 400 ce), (ac 3, eI E 4 la), (ac 4, eI E 4 si), (ac 5, .inr (6, [.ref (ac 6), .int (jI ln)])), (ac 6, eI E 100 co), (ac 9, .inr (8, [.int (jI tr)])), (ac 12, .inr (0, [.ref (ac 13)])), (ac 13, eI E 1000 cw)]) (z_mV S hK (c_X5_search l E (ac 14) (ac 15) (ac 16) (ac 7) (ac 8) (ac 10) (ac 11) ch nm n on u57_fw an kd vl nb fr tl q w ((fun x => zlive kd vl fr tl x v d)) (by omega) (by omega) (by omega) (hon) (hpe) (hT0) (zAp_sub (ws := (cW E ac flt ce la si ln co n on tr u57_fw cw ch nm)) (zAp_adr hap rfl) [14, 15, 16, 7, 8, 10, 11] rfl) _) gX9_back_X5_search rfl hv_X5_search ⟨Nat.le_of_ble_eq_true rfl, Nat.le_of_ble_eq_true rfl⟩ (va_recv hK hP (ci := 5) (q0 := 14) rfl rfl) (hP.sub [14, 15, 16, 7, 8, 10, 11] rfl) (hD.sub [14, 15, 16, 7, 8, 10, 11] (by decide) rfl) (zNm_keep hG hS hNA) hl.1 rfl (Nat.le_of_ble_eq_true rfl) ⟨by decide, by decide⟩ rfl dX9_back_75) hP hD hS hA [14, 15, 16, 7, 8, 10, 11] [0, 1, 2, 3, 4, 5, 6, 9, 12, 13] [0, 1, 2, 3, 4, 5, 6, 13, 14, 7, 15, 16, 8, 9, 10, 11, 12] rfl rfl (by decide) (by decide) (fun (u : (Int → Int) × (Int → Int)) => cW E ac flt ce la si ln co n on tr u57_fw cw u.1 u.2) (by decide) (fun _ => rfl) (fun r_75 u H locs h_75 hP hD hS => ?_)
              obtain ⟨u75_ch, u75_nm⟩ := u
              try dsimp only at h_75
              have hP : zP E (cW E ac flt ce la si ln co n on tr u57_fw cw u75_ch u75_nm) H := hP
              have hD : va_D A (cW E ac flt ce la si ln co n on tr u57_fw cw u75_ch u75_nm) := hD
              have hr75 := zFound_rng h_75
              refine lv_istore (lv' := [(6, .int (jI (r_75))), (0, .ref (ac 0)), (1, .int (jI (q))), (2, .int (jI (v))), (3, .int (jI (d))), (4, .int (jI (w))), (5, .int (jI (k)))]) S.1 S.2.1 dX9_back_78 hl (by decide) rfl (fun ls hl => ?_)
              refine lv_iload S.1 S.2.1 dX9_back_80 (lv_at hl 6 rfl) ?_
              refine z_iconst S dX9_back_82 ?_
              refine z_icmp_eq (tgt := 93) S dX9_back_83 (by decide) (by omega) (fun c_83 => ?_) (fun c_83 => ?_)
              · skip
                refine lv_iload S.1 S.2.1 dX9_back_93 (lv_at hl 0 rfl) ?_
                exact hQ (r_75) ((u57_fw, (u75_ch, u75_nm))) _ _ (Or.inr ⟨by omega, Or.inr ⟨by omega, zBack_size h_75 (by omega)⟩⟩) hP hD hS _ _ dX9_back_95
              · skip
                refine lv_iload S.1 S.2.1 dX9_back_86 (lv_at hl 0 rfl) ?_
                refine z_bipush S (by decide +kernel) dX9_back_88 ?_
                refine z_icmp_ne (tgt := 96) S dX9_back_90 (by decide) (by omega) (fun c_90 => ?_) (fun c_90 => ?_)
                · skip
                  refine lv_iload S.1 S.2.1 dX9_back_96 (lv_at hl 6 rfl) ?_
                  refine lv_iload S.1 S.2.1 dX9_back_98 (lv_at hl 0 rfl) ?_
                  refine z_icmp_ge (tgt := 115) S dX9_back_100 (by decide) (by omega) (fun c_100 => ?_) (fun c_100 => ?_)
                  · skip
                    refine z_bipush S (by decide +kernel) dX9_back_115 ?_
                    exact hQ (-9) ((u57_fw, (u75_ch, u75_nm))) _ _ (Or.inr ⟨by omega, Or.inr ⟨by omega, by first | exact zBack_at h_75 (by omega) | exact zBack_over h_75 (by omega)⟩⟩) hP hD hS _ _ dX9_back_117
                  · skip
                    refine lv_aload_n S.1 S.2.1 dX9_back_103 rfl (lv_at hl 1 rfl) ?_
                    refine z_get S hK hP 0 rfl rfl 6 (by decide) i_X9_back_9 q_X9_back_3 rfl dX9_back_104 ?_
                    refine lv_iload S.1 S.2.1 dX9_back_107 (lv_at hl 6 rfl) ?_
                    refine z_ri (z_rV S hK (c_X5_calledAt l E (ac 14) (ac 15) (ac 16) u75_ch u75_nm k (by omega)) gX9_back_X5_calledAt rfl hv_X5_calledAt ⟨Nat.le_of_ble_eq_true rfl, Nat.le_of_ble_eq_true rfl⟩ (va_recv hK hP (ci := 5) (q0 := 14) rfl rfl) (hP.sub [14, 15, 16] rfl) hl.1 rfl (Nat.le_of_ble_eq_true rfl) ⟨by decide, by decide⟩ rfl dX9_back_109) (fun r_109 h_109 => ?_)
                    rw [h_109]
                    refine z_goto (tgt := 117) S dX9_back_112 (by decide) ?_
                    exact hQ (u75_ch k) ((u57_fw, (u75_ch, u75_nm))) _ _ (Or.inr ⟨by omega, Or.inr ⟨by omega, by first | exact zBack_at h_75 (by omega) | exact zBack_over h_75 (by omega)⟩⟩) hP hD hS _ _ dX9_back_117
                · skip
                  refine lv_iload S.1 S.2.1 dX9_back_93 (lv_at hl 0 rfl) ?_
                  exact hQ (r_75) ((u57_fw, (u75_ch, u75_nm))) _ _ (Or.inr ⟨by omega, Or.inr ⟨by omega, zBack_size h_75 (by omega)⟩⟩) hP hD hS _ _ dX9_back_95
            · skip
              refine z_bipush S (by decide +kernel) dX9_back_43 ?_
              exact hQ (-2) ((fw, (ch, nm))) _ _ (Or.inr ⟨by omega, Or.inl ⟨by omega, rfl⟩⟩) hP hD hS _ _ dX9_back_45
      · skip
        refine z_iconst S dX9_back_19 ?_
        exact hQ (-1) ((fw, (ch, nm))) _ _ (Or.inl ⟨by omega, rfl⟩) hP hD hS _ _ dX9_back_20

set_option maxHeartbeats 1000000 in
set_option maxRecDepth 20000 in
theorem c_X9_child (l : Launch) (E : zE) (ac : Nat → Nat) (flt : Int) (ce la si : Int → Int) (ln : Int) (co : Int → Int) (n : Int) (on : Nat → Option Nat) (tr : Int) (fw cw ch nm : Int → Int) (an : Int → Nat) (kd vl nb fr tl : Int → Int) (v : Int) (d : Int) (w : Int) (k : Int) (lane : Int) (i : Int) (cn : Int) (what : Int) (ss : Int → Int) (sl : Int → Int) (hrel : zRel la si ss sl) (hce : zRg ce) (h_v : -2147483648 ≤ v ∧ v ≤ 2147483647) (h_d : -2147483648 ≤ d ∧ d ≤ 2147483647) (h_w : -2147483648 ≤ w ∧ w ≤ 2147483647) (h_k : -2147483648 ≤ k ∧ k ≤ 2147483647) (h_lane : -2147483648 ≤ lane ∧ lane ≤ 2147483647) (h_i : -2147483648 ≤ i ∧ i ≤ 2147483647) (h_cn : -2147483648 ≤ cn ∧ cn ≤ 2147483647) (h_what : -2147483648 ≤ what ∧ what ≤ 2147483647) (hp : 0 ≤ n ∧ n ≤ 10) (hon : zOns n on an) (hpe : zPeo n kd vl nb fr tl) (hap : zAp (cW E ac flt ce la si ln co n on tr fw cw ch nm) n an) : zMi l E yX9_child wsX9_child (zr 10 0 0) [.ref (ac 0), .int (jI (v)), .int (jI (d)), .int (jI (w)), .int (jI (k)), .int (jI (lane)), .int (jI (i)), .int (jI (cn)), .int (jI (what))] (cW E ac flt ce la si ln co n on tr fw cw ch nm) (fun H => zNm E n an kd vl nb fr tl H) (fun r (u : Int × (Int → Int)) => zA_child n kd vl nb fr tl ss sl ce v d w k lane i cn what r u.1) (fun (u : Int × (Int → Int)) => cW E ac u.1 ce la si ln co n on tr u.2 cw ch nm) 0 0 := by
  refine zMi_of (own := RX9) (cc := cX9_child) (maxL := 15) (by decide) rfl (Nat.le_of_ble_eq_true rfl) rfl ?_
  intro p e s m args below meth c Q A S hK hA hS hP hD hAe hG hQ ls hl
  have hl : lv_has ls 15 [(0, .ref (ac 0)), (1, .int (jI (v))), (2, .int (jI (d))), (3, .int (jI (w))), (4, .int (jI (k))), (5, .int (jI (lane))), (6, .int (jI (i))), (7, .int (jI (cn))), (8, .int (jI (what)))] := hl
  have hNA := zNm_A hG hAe hap
  have hls := zRel_ls hrel
  refine lv_iload_n S.1 S.2.1 dX9_child_0 rfl (lv_at hl 2 rfl) ?_
  refine z_ri (z_rS S hK (c_X9_isDay l E d (by omega)) gX9_child_X9_isDay rfl hs_X9_isDay ⟨Nat.le_of_ble_eq_true rfl, Nat.le_of_ble_eq_true rfl⟩ trivial hl.1 rfl (Nat.le_of_ble_eq_true rfl) ⟨by decide, by decide⟩ rfl dX9_child_1) (fun r_1 h_1 => ?_)
  refine z_if_eq (tgt := 25) S dX9_child_4 (by decide) (by omega) (fun c_4 => ?_) (fun c_4 => ?_)
  · skip
    refine z_iconst S dX9_child_25 ?_
    refine z_goto (tgt := 30) S dX9_child_26 (by decide) ?_
    refine lv_istore (lv' := [(9, .int (jI (1))), (0, .ref (ac 0)), (1, .int (jI (v))), (2, .int (jI (d))), (3, .int (jI (w))), (4, .int (jI (k))), (5, .int (jI (lane))), (6, .int (jI (i))), (7, .int (jI (cn))), (8, .int (jI (what)))]) S.1 S.2.1 dX9_child_30 hl (by decide) rfl (fun ls hl => ?_)
    refine lv_aload_n S.1 S.2.1 dX9_child_32 rfl (lv_at hl 1 rfl) ?_
    refine lv_iload_n S.1 S.2.1 dX9_child_33 rfl (lv_at hl 2 rfl) ?_
    refine lv_iload S.1 S.2.1 dX9_child_34 (lv_at hl 5 rfl) ?_
    refine lv_iload S.1 S.2.1 dX9_child_36 (lv_at hl 0 rfl) ?_
    refine lv_iload S.1 S.2.1 dX9_child_38 (lv_at hl 6 rfl) ?_
    refine lv_iload S.1 S.2.1 dX9_child_40 (lv_at hl 7 rfl) ?_
    refine lv_iload S.1 S.2.1 dX9_child_42 (lv_at hl 8 rfl) ?_
    refine z_miw (z_mV S hK (c_X9_refusalOfCells l E ac flt ce la si ln co n on tr fw cw ch nm v k 1 lane i cn ss sl (by omega) (by omega) (by omega) (by omega) (by omega) (by omega) (hrel) _) gX9_child_X9_refusalOfCells rfl hv_X9_refusalOfCells ⟨Nat.le_of_ble_eq_true rfl, Nat.le_of_ble_eq_true rfl⟩ (va_recv hK hP (ci := 9) (q0 := 0) rfl rfl) hP hD trivial hl.1 rfl (Nat.le_of_ble_eq_true rfl) ⟨by decide, by decide⟩ rfl dX9_child_44) hD hS hA (fun r_44 u H locs h_44 hP hD hS => ?_)
    obtain ⟨u44_flt, u44_flt_e⟩ : ∃ z, z = u := ⟨_, rfl⟩
    subst u44_flt_e
    try dsimp only at h_44
    have hP : zP E (cW E ac u44_flt ce la si ln co n on tr fw cw ch nm) H := hP
    have hD : va_D A (cW E ac u44_flt ce la si ln co n on tr fw cw ch nm) := hD
    have h_44b := zRefs_rng h_44
    refine lv_istore (lv' := [(10, .int (jI (r_44))), (9, .int (jI (1))), (0, .ref (ac 0)), (1, .int (jI (v))), (2, .int (jI (d))), (3, .int (jI (w))), (4, .int (jI (k))), (5, .int (jI (lane))), (6, .int (jI (i))), (7, .int (jI (cn))), (8, .int (jI (what)))]) S.1 S.2.1 dX9_child_47 hl (by decide) rfl (fun ls hl => ?_)
    refine lv_iload S.1 S.2.1 dX9_child_49 (lv_at hl 0 rfl) ?_
    refine z_if_ge (tgt := 57) S dX9_child_51 (by decide) (by omega) (fun c_51 => ?_) (fun c_51 => ?_)
    · skip
      obtain ⟨okA, okB, okC, okD, okE⟩ := zRefs_ok h_44 (by omega)
      have hrk := hrel k (by omega) (by omega)
      refine lv_iload S.1 S.2.1 dX9_child_57 (lv_at hl 9 rfl) ?_
      refine z_bipush S (by decide +kernel) dX9_child_59 ?_
      refine z_icmp_gt (tgt := 77) S dX9_child_61 (by decide) (by omega) (fun c_61 => ?_) (fun c_61 => ?_)
      · skip
        refine z_bipush S (by decide +kernel) dX9_child_77 ?_
        exact hQ (-2) ((u44_flt, fw)) _ _ (Or.inr ⟨okA, _, _, zBar_cong okB (iff_of_true (by omega) (by omega)), Or.inr ⟨rfl, okC.1, Or.inl ⟨by first | exact Or.inl (by omega) | exact Or.inr (zB_f h_71 (by omega)), rfl⟩⟩⟩) hP hD hS _ _ dX9_child_79
      · skip
        refine lv_aload_n S.1 S.2.1 dX9_child_64 rfl (lv_at hl 2 rfl) ?_
        refine lv_iload S.1 S.2.1 dX9_child_65 (lv_at hl 6 rfl) ?_
        refine lv_iload S.1 S.2.1 dX9_child_67 (lv_at hl 8 rfl) ?_
        refine lv_iload S.1 S.2.1 dX9_child_69 (lv_at hl 9 rfl) ?_
        refine z_ri (z_rV S hK (c_X9_areBargains l E ac u44_flt ce la si ln co n on tr fw cw ch nm k i cn ss sl (by omega) (hrel) (hce)) gX9_child_X9_areBargains rfl hv_X9_areBargains ⟨Nat.le_of_ble_eq_true rfl, Nat.le_of_ble_eq_true rfl⟩ (va_recv hK hP (ci := 9) (q0 := 0) rfl rfl) hP hl.1 rfl (Nat.le_of_ble_eq_true rfl) ⟨by decide, by decide⟩ rfl dX9_child_71) (fun r_71 h_71 => ?_)
        refine z_if_ne (tgt := 80) S dX9_child_74 (by decide) (by omega) (fun c_74 => ?_) (fun c_74 => ?_)
        · skip
          have hba := zB_t h_71 (by omega)
          refine lv_aload_n S.1 S.2.1 dX9_child_80 rfl (lv_at hl 2 rfl) ?_
          refine z_get S hK hP 0 rfl rfl 2 (by decide) i_X9_child_9 q_X9_child_1 rfl dX9_child_81 ?_
          refine lv_aload_n S.1 S.2.1 dX9_child_84 rfl (lv_at hl 2 rfl) ?_
          refine z_get S hK hP 0 rfl rfl 4 (by decide) i_X9_child_9 q_X9_child_2 rfl dX9_child_85 ?_
          refine lv_iload_n S.1 S.2.1 dX9_child_88 rfl (lv_at hl 3 rfl) ?_
          refine lv_iload_n S.1 S.2.1 dX9_child_89 rfl (lv_at hl 4 rfl) ?_
          refine z_iconst S dX9_child_90 ?_
          refine z_mv (wr := [(ac 0, .inr (9, [.ref (ac 1), .ref (ac 5), .ref (ac 7), .ref (ac 9), .ref (ac 10), .ref (ac 12), .ref (ac 14), .int (jI u44_flt)])), (ac 1, .inr (7, [.ref (ac 2), .ref (ac 3), .ref (ac 4)])), (ac 2, eI E 400 ce), (ac 3, eI E 4 la), (ac 4, eI E 4 si), (ac 5, .inr (6, [.ref (ac 6), .int (jI ln)])), (ac 6, eI E 100 co), (ac 9, .inr (8, [.int (jI tr)])), (ac 12, .inr (0, [.ref (ac 13)])), (ac 13, eI E 1000 cw), (ac 14, .inr (5, [.ref (ac 15), .ref (ac 16)])), (ac 15, eI E 3 ch), (ac 16, eI E 3 nm)]) (z_mV S hK (c_X4_teach l E (ac 7) (ac 8) (ac 10) (ac 11) n on fw an kd vl nb fr tl v d (-1) (by omega) (by omega) (by omega) (by omega) (hon) (hpe) (zAp_sub (ws := (cW E ac u44_flt ce la si ln co n on tr fw cw ch nm)) (zAp_adr hap rfl) [7, 8, 10, 11] rfl) _) gX9_child_X4_teach rfl hv_X4_teach ⟨Nat.le_of_ble_eq_true rfl, Nat.le_of_ble_eq_true rfl⟩ (va_recv hK hP (ci := 4) (q0 := 7) rfl rfl) (hP.sub [7, 8, 10, 11] rfl) (hD.sub [7, 8, 10, 11] (by decide) rfl) (zNm_keep hG hS hNA) hl.1 rfl (Nat.le_of_ble_eq_true rfl) ⟨by decide, by decide⟩ rfl dX9_child_91) hP hD hS hA [7, 8, 10, 11] [0, 1, 2, 3, 4, 5, 6, 9, 12, 13, 14, 15, 16] [0, 1, 2, 3, 4, 5, 6, 13, 14, 7, 15, 16, 8, 9, 10, 11, 12] rfl rfl (by decide) (by decide) (fun (u : Int → Int) => cW E ac u44_flt ce la si ln co n on tr u cw ch nm) (by decide) (fun _ => rfl) (fun u H locs h_91 hP hD hS => ?_)
          obtain ⟨u91_fw, u91_fw_e⟩ : ∃ z, z = u := ⟨_, rfl⟩
          subst u91_fw_e
          try dsimp only at h_91
          have hP : zP E (cW E ac u44_flt ce la si ln co n on tr u91_fw cw ch nm) H := hP
          have hD : va_D A (cW E ac u44_flt ce la si ln co n on tr u91_fw cw ch nm) := hD
          have hT0 : zTab (zCan nb (fun x => zlive kd vl fr tl x v d) n) u91_fw 999 1000000 := zTab_cong (fun a _ _ => zCanW_m1) h_91
          refine z_bipush S (by decide +kernel) dX9_child_94 ?_
          refine lv_istore (lv' := [(11, .int (jI (-9))), (10, .int (jI (r_44))), (9, .int (jI (1))), (0, .ref (ac 0)), (1, .int (jI (v))), (2, .int (jI (d))), (3, .int (jI (w))), (4, .int (jI (k))), (5, .int (jI (lane))), (6, .int (jI (i))), (7, .int (jI (cn))), (8, .int (jI (what)))]) S.1 S.2.1 dX9_child_96 hl (by decide) rfl (fun ls hl => ?_)
          refine z_iconst S dX9_child_98 ?_
          refine lv_istore (lv' := [(12, .int (jI (-1))), (11, .int (jI (-9))), (10, .int (jI (r_44))), (9, .int (jI (1))), (0, .ref (ac 0)), (1, .int (jI (v))), (2, .int (jI (d))), (3, .int (jI (w))), (4, .int (jI (k))), (5, .int (jI (lane))), (6, .int (jI (i))), (7, .int (jI (cn))), (8, .int (jI (what)))]) S.1 S.2.1 dX9_child_99 hl (by decide) rfl (fun ls hl => ?_)
          refine z_iconst S dX9_child_101 ?_
          refine lv_istore (lv' := [(13, .int (jI (1))), (12, .int (jI (-1))), (11, .int (jI (-9))), (10, .int (jI (r_44))), (9, .int (jI (1))), (0, .ref (ac 0)), (1, .int (jI (v))), (2, .int (jI (d))), (3, .int (jI (w))), (4, .int (jI (k))), (5, .int (jI (lane))), (6, .int (jI (i))), (7, .int (jI (cn))), (8, .int (jI (what)))]) S.1 S.2.1 dX9_child_102 hl (by decide) rfl (fun ls hl => ?_)
          suffices HL_1 : ∀ (n_2 : Nat) (num : Int) (best : Int) (most : Int), (100 - num).toNat < n_2 → (1 ≤ num ∧ num ≤ 100) → (-9 ≤ best ∧ best ≤ 99 ∧ -9 ≤ most ∧ most ≤ 12) → (zArgK (zBcnt (zCan nb (fun x => zlive kd vl fr tl x v d) n) w (fun j => ce (100 * k + i + j)) cn) num best most) → ∀ (H : Heap) (locs : List Loc), zP E (cW E ac u44_flt ce la si ln co n on tr u91_fw cw ch nm) H → va_D A (cW E ac u44_flt ce la si ln co n on tr u91_fw cw ch nm) → va_S A s.heap H locs → ∀ (ls : Array Slot), lv_has ls 15 [(13, .int (jI (num))), (11, .int (jI (best))), (12, .int (jI (most))), (0, .ref (ac 0)), (1, .int (jI (v))), (2, .int (jI (d))), (3, .int (jI (w))), (4, .int (jI (k))), (5, .int (jI (lane))), (6, .int (jI (i))), (7, .int (jI (cn))), (8, .int (jI (what)))] → W p l e (zr 10 0 0) s m args below meth c H locs 0 0 Q (F0 m 104 ls []) from
            HL_1 _ 1 (-9) (-1) (Nat.lt_succ_self _) (by omega) (by omega) (zArgK_0) _ _ hP hD hS ls (lv_sub hl [0, 2, 1, 5, 6, 7, 8, 9, 10, 11, 12, 13] rfl)
          intro n_2
          induction n_2 with
          | zero => intro num best most hm hnum hbm hAr; exact absurd hm (Nat.not_lt_zero _)
          | succ n_2 ih_3 =>
            intro num best most hm hnum hbm hAr H locs hP hD hS ls hl
            refine lv_iload S.1 S.2.1 dX9_child_104 (lv_at hl 0 rfl) ?_
            refine z_bipush S (by decide +kernel) dX9_child_106 ?_
            refine z_icmp_gt (tgt := 147) S dX9_child_108 (by decide) (by omega) (fun c_108 => ?_) (fun c_108 => ?_)
            · skip
              refine lv_iload S.1 S.2.1 dX9_child_147 (lv_at hl 11 rfl) ?_
              refine z_if_ne (tgt := 157) S dX9_child_149 (by decide) (by omega) (fun c_149 => ?_) (fun c_149 => ?_)
              · skip
                refine lv_iload S.1 S.2.1 dX9_child_157 (lv_at hl 2 rfl) ?_
                exact hQ (most) ((u44_flt, u91_fw)) _ _ (Or.inr ⟨okA, _, _, zBar_cong okB (iff_of_true (by omega) (by omega)), Or.inr ⟨rfl, okC.1, Or.inr ⟨⟨by omega, hba⟩, best, most, zArgK_end hAr (by omega), by omega⟩⟩⟩) hP hD hS _ _ dX9_child_159
              · skip
                refine lv_iload S.1 S.2.1 dX9_child_152 (lv_at hl 1 rfl) ?_
                refine z_goto (tgt := 159) S dX9_child_154 (by decide) ?_
                exact hQ (best) ((u44_flt, u91_fw)) _ _ (Or.inr ⟨okA, _, _, zBar_cong okB (iff_of_true (by omega) (by omega)), Or.inr ⟨rfl, okC.1, Or.inr ⟨⟨by omega, hba⟩, best, most, zArgK_end hAr (by omega), by omega⟩⟩⟩) hP hD hS _ _ dX9_child_159
            · skip
              refine lv_aload_n S.1 S.2.1 dX9_child_111 rfl (lv_at hl 3 rfl) ?_
              refine lv_iload S.1 S.2.1 dX9_child_112 (lv_at hl 0 rfl) ?_
              refine lv_iload_n S.1 S.2.1 dX9_child_114 rfl (lv_at hl 6 rfl) ?_
              refine lv_iload S.1 S.2.1 dX9_child_115 (lv_at hl 7 rfl) ?_
              refine lv_iload S.1 S.2.1 dX9_child_117 (lv_at hl 9 rfl) ?_
              refine lv_iload S.1 S.2.1 dX9_child_119 (lv_at hl 10 rfl) ?_
              refine z_ri (z_rV S hK (c_X9_bargainsSaid l E ac u44_flt ce la si ln co n on tr u91_fw cw ch nm num w k i cn ss sl ((zCan nb (fun x => zlive kd vl fr tl x v d) n)) (by omega) (by omega) (by omega) (by omega) (hba) (hT0) (hrel) (hce)) gX9_child_X9_bargainsSaid rfl hv_X9_bargainsSaid ⟨Nat.le_of_ble_eq_true rfl, Nat.le_of_ble_eq_true rfl⟩ (va_recv hK hP (ci := 9) (q0 := 0) rfl rfl) hP hl.1 rfl (Nat.le_of_ble_eq_true rfl) ⟨by decide, by decide⟩ rfl dX9_child_121) (fun r_121 h_121 => ?_)
              have h121r := h_121.2
              refine lv_istore (lv' := [(14, .int (jI (r_121))), (13, .int (jI (num))), (11, .int (jI (best))), (12, .int (jI (most))), (0, .ref (ac 0)), (1, .int (jI (v))), (2, .int (jI (d))), (3, .int (jI (w))), (4, .int (jI (k))), (5, .int (jI (lane))), (6, .int (jI (i))), (7, .int (jI (cn))), (8, .int (jI (what)))]) S.1 S.2.1 dX9_child_124 hl (by decide) rfl (fun ls hl => ?_)
              refine lv_iload S.1 S.2.1 dX9_child_126 (lv_at hl 0 rfl) ?_
              refine lv_iload S.1 S.2.1 dX9_child_128 (lv_at hl 3 rfl) ?_
              refine z_icmp_le (tgt := 141) S dX9_child_130 (by decide) (by omega) (fun c_130 => ?_) (fun c_130 => ?_)
              · skip
                refine z_iinc (lv' := [(13, .int (jI (num + 1))), (14, .int (jI (r_121))), (11, .int (jI (best))), (12, .int (jI (most))), (0, .ref (ac 0)), (1, .int (jI (v))), (2, .int (jI (d))), (3, .int (jI (w))), (4, .int (jI (k))), (5, .int (jI (lane))), (6, .int (jI (i))), (7, .int (jI (cn))), (8, .int (jI (what)))]) S hl (k := 1) rfl (by decide) rfl dX9_child_141 (fun ls hl => ?_)
                refine z_goto (tgt := 104) S dX9_child_144 (by decide) ?_
                exact ih_3 (num + 1) best most (by omega) (by omega) (by omega) (by first | exact zArgK_keep hAr ⟨h_121.1, by omega⟩ (by omega) | exact zArgK_new hAr (by omega) ⟨h_121.1, by omega⟩ (by omega)) _ _ hP hD hS ls (lv_sub hl [0, 2, 3, 4, 5, 6, 7, 8, 9, 10, 11, 12] rfl)
              · skip
                refine lv_iload S.1 S.2.1 dX9_child_133 (lv_at hl 0 rfl) ?_
                refine lv_istore (lv' := [(12, .int (jI (r_121))), (14, .int (jI (r_121))), (13, .int (jI (num))), (11, .int (jI (best))), (0, .ref (ac 0)), (1, .int (jI (v))), (2, .int (jI (d))), (3, .int (jI (w))), (4, .int (jI (k))), (5, .int (jI (lane))), (6, .int (jI (i))), (7, .int (jI (cn))), (8, .int (jI (what)))]) S.1 S.2.1 dX9_child_135 hl (by decide) rfl (fun ls hl => ?_)
                refine lv_iload S.1 S.2.1 dX9_child_137 (lv_at hl 2 rfl) ?_
                refine lv_istore (lv' := [(11, .int (jI (num))), (12, .int (jI (r_121))), (14, .int (jI (r_121))), (13, .int (jI (num))), (0, .ref (ac 0)), (1, .int (jI (v))), (2, .int (jI (d))), (3, .int (jI (w))), (4, .int (jI (k))), (5, .int (jI (lane))), (6, .int (jI (i))), (7, .int (jI (cn))), (8, .int (jI (what)))]) S.1 S.2.1 dX9_child_139 hl (by decide) rfl (fun ls hl => ?_)
                refine z_iinc (lv' := [(13, .int (jI (num + 1))), (11, .int (jI (num))), (12, .int (jI (r_121))), (14, .int (jI (r_121))), (0, .ref (ac 0)), (1, .int (jI (v))), (2, .int (jI (d))), (3, .int (jI (w))), (4, .int (jI (k))), (5, .int (jI (lane))), (6, .int (jI (i))), (7, .int (jI (cn))), (8, .int (jI (what)))]) S hl (k := 3) rfl (by decide) rfl dX9_child_141 (fun ls hl => ?_)
                refine z_goto (tgt := 104) S dX9_child_144 (by decide) ?_
                exact ih_3 (num + 1) num r_121 (by omega) (by omega) (by omega) (by first | exact zArgK_keep hAr ⟨h_121.1, by omega⟩ (by omega) | exact zArgK_new hAr (by omega) ⟨h_121.1, by omega⟩ (by omega)) _ _ hP hD hS ls (lv_sub hl [0, 1, 2, 4, 5, 6, 7, 8, 9, 10, 11, 12] rfl)
        · skip
          refine z_bipush S (by decide +kernel) dX9_child_77 ?_
          exact hQ (-2) ((u44_flt, fw)) _ _ (Or.inr ⟨okA, _, _, zBar_cong okB (iff_of_true (by omega) (by omega)), Or.inr ⟨rfl, okC.1, Or.inl ⟨by first | exact Or.inl (by omega) | exact Or.inr (zB_f h_71 (by omega)), rfl⟩⟩⟩) hP hD hS _ _ dX9_child_79
    · skip
      refine lv_iload S.1 S.2.1 dX9_child_54 (lv_at hl 0 rfl) ?_
      exact hQ (r_44) ((u44_flt, fw)) _ _ (h_44.elim (fun q => Or.inl q) (fun q => Or.inr ⟨q.1, _, _, zBar_cong q.2 (by omega), Or.inl ⟨by omega, rfl, rfl⟩⟩)) hP hD hS _ _ dX9_child_56
  · skip
    refine lv_iload_n S.1 S.2.1 dX9_child_7 rfl (lv_at hl 3 rfl) ?_
    refine z_ri (z_rS S hK (c_X9_isWords l E w (by omega)) gX9_child_X9_isWords rfl hs_X9_isWords ⟨Nat.le_of_ble_eq_true rfl, Nat.le_of_ble_eq_true rfl⟩ trivial hl.1 rfl (Nat.le_of_ble_eq_true rfl) ⟨by decide, by decide⟩ rfl dX9_child_8) (fun r_8 h_8 => ?_)
    refine z_if_eq (tgt := 25) S dX9_child_11 (by decide) (by omega) (fun c_11 => ?_) (fun c_11 => ?_)
    · skip
      refine z_iconst S dX9_child_25 ?_
      refine z_goto (tgt := 30) S dX9_child_26 (by decide) ?_
      refine lv_istore (lv' := [(9, .int (jI (1))), (0, .ref (ac 0)), (1, .int (jI (v))), (2, .int (jI (d))), (3, .int (jI (w))), (4, .int (jI (k))), (5, .int (jI (lane))), (6, .int (jI (i))), (7, .int (jI (cn))), (8, .int (jI (what)))]) S.1 S.2.1 dX9_child_30 hl (by decide) rfl (fun ls hl => ?_)
      refine lv_aload_n S.1 S.2.1 dX9_child_32 rfl (lv_at hl 1 rfl) ?_
      refine lv_iload_n S.1 S.2.1 dX9_child_33 rfl (lv_at hl 2 rfl) ?_
      refine lv_iload S.1 S.2.1 dX9_child_34 (lv_at hl 5 rfl) ?_
      refine lv_iload S.1 S.2.1 dX9_child_36 (lv_at hl 0 rfl) ?_
      refine lv_iload S.1 S.2.1 dX9_child_38 (lv_at hl 6 rfl) ?_
      refine lv_iload S.1 S.2.1 dX9_child_40 (lv_at hl 7 rfl) ?_
      refine lv_iload S.1 S.2.1 dX9_child_42 (lv_at hl 8 rfl) ?_
      refine z_miw (z_mV S hK (c_X9_refusalOfCells l E ac flt ce la si ln co n on tr fw cw ch nm v k 1 lane i cn ss sl (by omega) (by omega) (by omega) (by omega) (by omega) (by omega) (hrel) _) gX9_child_X9_refusalOfCells rfl hv_X9_refusalOfCells ⟨Nat.le_of_ble_eq_true rfl, Nat.le_of_ble_eq_true rfl⟩ (va_recv hK hP (ci := 9) (q0 := 0) rfl rfl) hP hD trivial hl.1 rfl (Nat.le_of_ble_eq_true rfl) ⟨by decide, by decide⟩ rfl dX9_child_44) hD hS hA (fun r_44 u H locs h_44 hP hD hS => ?_)
      obtain ⟨u44_flt, u44_flt_e⟩ : ∃ z, z = u := ⟨_, rfl⟩
      subst u44_flt_e
      try dsimp only at h_44
      have hP : zP E (cW E ac u44_flt ce la si ln co n on tr fw cw ch nm) H := hP
      have hD : va_D A (cW E ac u44_flt ce la si ln co n on tr fw cw ch nm) := hD
      have h_44b := zRefs_rng h_44
      refine lv_istore (lv' := [(10, .int (jI (r_44))), (9, .int (jI (1))), (0, .ref (ac 0)), (1, .int (jI (v))), (2, .int (jI (d))), (3, .int (jI (w))), (4, .int (jI (k))), (5, .int (jI (lane))), (6, .int (jI (i))), (7, .int (jI (cn))), (8, .int (jI (what)))]) S.1 S.2.1 dX9_child_47 hl (by decide) rfl (fun ls hl => ?_)
      refine lv_iload S.1 S.2.1 dX9_child_49 (lv_at hl 0 rfl) ?_
      refine z_if_ge (tgt := 57) S dX9_child_51 (by decide) (by omega) (fun c_51 => ?_) (fun c_51 => ?_)
      · skip
        obtain ⟨okA, okB, okC, okD, okE⟩ := zRefs_ok h_44 (by omega)
        have hrk := hrel k (by omega) (by omega)
        refine lv_iload S.1 S.2.1 dX9_child_57 (lv_at hl 9 rfl) ?_
        refine z_bipush S (by decide +kernel) dX9_child_59 ?_
        refine z_icmp_gt (tgt := 77) S dX9_child_61 (by decide) (by omega) (fun c_61 => ?_) (fun c_61 => ?_)
        · skip
          refine z_bipush S (by decide +kernel) dX9_child_77 ?_
          exact hQ (-2) ((u44_flt, fw)) _ _ (Or.inr ⟨okA, _, _, zBar_cong okB (iff_of_true (by omega) (by omega)), Or.inr ⟨rfl, okC.1, Or.inl ⟨by first | exact Or.inl (by omega) | exact Or.inr (zB_f h_71 (by omega)), rfl⟩⟩⟩) hP hD hS _ _ dX9_child_79
        · skip
          refine lv_aload_n S.1 S.2.1 dX9_child_64 rfl (lv_at hl 2 rfl) ?_
          refine lv_iload S.1 S.2.1 dX9_child_65 (lv_at hl 6 rfl) ?_
          refine lv_iload S.1 S.2.1 dX9_child_67 (lv_at hl 8 rfl) ?_
          refine lv_iload S.1 S.2.1 dX9_child_69 (lv_at hl 9 rfl) ?_
          refine z_ri (z_rV S hK (c_X9_areBargains l E ac u44_flt ce la si ln co n on tr fw cw ch nm k i cn ss sl (by omega) (hrel) (hce)) gX9_child_X9_areBargains rfl hv_X9_areBargains ⟨Nat.le_of_ble_eq_true rfl, Nat.le_of_ble_eq_true rfl⟩ (va_recv hK hP (ci := 9) (q0 := 0) rfl rfl) hP hl.1 rfl (Nat.le_of_ble_eq_true rfl) ⟨by decide, by decide⟩ rfl dX9_child_71) (fun r_71 h_71 => ?_)
          refine z_if_ne (tgt := 80) S dX9_child_74 (by decide) (by omega) (fun c_74 => ?_) (fun c_74 => ?_)
          · skip
            have hba := zB_t h_71 (by omega)
            refine lv_aload_n S.1 S.2.1 dX9_child_80 rfl (lv_at hl 2 rfl) ?_
            refine z_get S hK hP 0 rfl rfl 2 (by decide) i_X9_child_9 q_X9_child_1 rfl dX9_child_81 ?_
            refine lv_aload_n S.1 S.2.1 dX9_child_84 rfl (lv_at hl 2 rfl) ?_
            refine z_get S hK hP 0 rfl rfl 4 (by decide) i_X9_child_9 q_X9_child_2 rfl dX9_child_85 ?_
            refine lv_iload_n S.1 S.2.1 dX9_child_88 rfl (lv_at hl 3 rfl) ?_
            refine lv_iload_n S.1 S.2.1 dX9_child_89 rfl (lv_at hl 4 rfl) ?_
            refine z_iconst S dX9_child_90 ?_
            refine z_mv (wr := [(ac 0, .inr (9, [.ref (ac 1), .ref (ac 5), .ref (ac 7), .ref (ac 9), .ref (ac 10), .ref (ac 12), .ref (ac 14), .int (jI u44_flt)])), (ac 1, .inr (7, [.ref (ac 2), .ref (ac 3), .ref (ac 4)])), (ac 2, eI E 400 ce), (ac 3, eI E 4 la), (ac 4, eI E 4 si), (ac 5, .inr (6, [.ref (ac 6), .int (jI ln)])), (ac 6, eI E 100 co), (ac 9, .inr (8, [.int (jI tr)])), (ac 12, .inr (0, [.ref (ac 13)])), (ac 13, eI E 1000 cw), (ac 14, .inr (5, [.ref (ac 15), .ref (ac 16)])), (ac 15, eI E 3 ch), (ac 16, eI E 3 nm)]) (z_mV S hK (c_X4_teach l E (ac 7) (ac 8) (ac 10) (ac 11) n on fw an kd vl nb fr tl v d (-1) (by omega) (by omega) (by omega) (by omega) (hon) (hpe) (zAp_sub (ws := (cW E ac u44_flt ce la si ln co n on tr fw cw ch nm)) (zAp_adr hap rfl) [7, 8, 10, 11] rfl) _) gX9_child_X4_teach rfl hv_X4_teach ⟨Nat.le_of_ble_eq_true rfl, Nat.le_of_ble_eq_true rfl⟩ (va_recv hK hP (ci := 4) (q0 := 7) rfl rfl) (hP.sub [7, 8, 10, 11] rfl) (hD.sub [7, 8, 10, 11] (by decide) rfl) (zNm_keep hG hS hNA) hl.1 rfl (Nat.le_of_ble_eq_true rfl) ⟨by decide, by decide⟩ rfl dX9_child_91) hP hD hS hA [7, 8, 10, 11] [0, 1, 2, 3, 4, 5, 6, 9, 12, 13, 14, 15, 16] [0, 1, 2, 3, 4, 5, 6, 13, 14, 7, 15, 16, 8, 9, 10, 11, 12] rfl rfl (by decide) (by decide) (fun (u : Int → Int) => cW E ac u44_flt ce la si ln co n on tr u cw ch nm) (by decide) (fun _ => rfl) (fun u H locs h_91 hP hD hS => ?_)
            obtain ⟨u91_fw, u91_fw_e⟩ : ∃ z, z = u := ⟨_, rfl⟩
            subst u91_fw_e
            try dsimp only at h_91
            have hP : zP E (cW E ac u44_flt ce la si ln co n on tr u91_fw cw ch nm) H := hP
            have hD : va_D A (cW E ac u44_flt ce la si ln co n on tr u91_fw cw ch nm) := hD
            have hT0 : zTab (zCan nb (fun x => zlive kd vl fr tl x v d) n) u91_fw 999 1000000 := zTab_cong (fun a _ _ => zCanW_m1) h_91
            refine z_bipush S (by decide +kernel) dX9_child_94 ?_
            refine lv_istore (lv' := [(11, .int (jI (-9))), (10, .int (jI (r_44))), (9, .int (jI (1))), (0, .ref (ac 0)), (1, .int (jI (v))), (2, .int (jI (d))), (3, .int (jI (w))), (4, .int (jI (k))), (5, .int (jI (lane))), (6, .int (jI (i))), (7, .int (jI (cn))), (8, .int (jI (what)))]) S.1 S.2.1 dX9_child_96 hl (by decide) rfl (fun ls hl => ?_)
            refine z_iconst S dX9_child_98 ?_
            refine lv_istore (lv' := [(12, .int (jI (-1))), (11, .int (jI (-9))), (10, .int (jI (r_44))), (9, .int (jI (1))), (0, .ref (ac 0)), (1, .int (jI (v))), (2, .int (jI (d))), (3, .int (jI (w))), (4, .int (jI (k))), (5, .int (jI (lane))), (6, .int (jI (i))), (7, .int (jI (cn))), (8, .int (jI (what)))]) S.1 S.2.1 dX9_child_99 hl (by decide) rfl (fun ls hl => ?_)
            refine z_iconst S dX9_child_101 ?_
            refine lv_istore (lv' := [(13, .int (jI (1))), (12, .int (jI (-1))), (11, .int (jI (-9))), (10, .int (jI (r_44))), (9, .int (jI (1))), (0, .ref (ac 0)), (1, .int (jI (v))), (2, .int (jI (d))), (3, .int (jI (w))), (4, .int (jI (k))), (5, .int (jI (lane))), (6, .int (jI (i))), (7, .int (jI (cn))), (8, .int (jI (what)))]) S.1 S.2.1 dX9_child_102 hl (by decide) rfl (fun ls hl => ?_)
            suffices HL_4 : ∀ (n_5 : Nat) (num : Int) (best : Int) (most : Int), (100 - num).toNat < n_5 → (1 ≤ num ∧ num ≤ 100) → (-9 ≤ best ∧ best ≤ 99 ∧ -9 ≤ most ∧ most ≤ 12) → (zArgK (zBcnt (zCan nb (fun x => zlive kd vl fr tl x v d) n) w (fun j => ce (100 * k + i + j)) cn) num best most) → ∀ (H : Heap) (locs : List Loc), zP E (cW E ac u44_flt ce la si ln co n on tr u91_fw cw ch nm) H → va_D A (cW E ac u44_flt ce la si ln co n on tr u91_fw cw ch nm) → va_S A s.heap H locs → ∀ (ls : Array Slot), lv_has ls 15 [(13, .int (jI (num))), (11, .int (jI (best))), (12, .int (jI (most))), (0, .ref (ac 0)), (1, .int (jI (v))), (2, .int (jI (d))), (3, .int (jI (w))), (4, .int (jI (k))), (5, .int (jI (lane))), (6, .int (jI (i))), (7, .int (jI (cn))), (8, .int (jI (what)))] → W p l e (zr 10 0 0) s m args below meth c H locs 0 0 Q (F0 m 104 ls []) from
              HL_4 _ 1 (-9) (-1) (Nat.lt_succ_self _) (by omega) (by omega) (zArgK_0) _ _ hP hD hS ls (lv_sub hl [0, 2, 1, 5, 6, 7, 8, 9, 10, 11, 12, 13] rfl)
            intro n_5
            induction n_5 with
            | zero => intro num best most hm hnum hbm hAr; exact absurd hm (Nat.not_lt_zero _)
            | succ n_5 ih_6 =>
              intro num best most hm hnum hbm hAr H locs hP hD hS ls hl
              refine lv_iload S.1 S.2.1 dX9_child_104 (lv_at hl 0 rfl) ?_
              refine z_bipush S (by decide +kernel) dX9_child_106 ?_
              refine z_icmp_gt (tgt := 147) S dX9_child_108 (by decide) (by omega) (fun c_108 => ?_) (fun c_108 => ?_)
              · skip
                refine lv_iload S.1 S.2.1 dX9_child_147 (lv_at hl 11 rfl) ?_
                refine z_if_ne (tgt := 157) S dX9_child_149 (by decide) (by omega) (fun c_149 => ?_) (fun c_149 => ?_)
                · skip
                  refine lv_iload S.1 S.2.1 dX9_child_157 (lv_at hl 2 rfl) ?_
                  exact hQ (most) ((u44_flt, u91_fw)) _ _ (Or.inr ⟨okA, _, _, zBar_cong okB (iff_of_true (by omega) (by omega)), Or.inr ⟨rfl, okC.1, Or.inr ⟨⟨by omega, hba⟩, best, most, zArgK_end hAr (by omega), by omega⟩⟩⟩) hP hD hS _ _ dX9_child_159
                · skip
                  refine lv_iload S.1 S.2.1 dX9_child_152 (lv_at hl 1 rfl) ?_
                  refine z_goto (tgt := 159) S dX9_child_154 (by decide) ?_
                  exact hQ (best) ((u44_flt, u91_fw)) _ _ (Or.inr ⟨okA, _, _, zBar_cong okB (iff_of_true (by omega) (by omega)), Or.inr ⟨rfl, okC.1, Or.inr ⟨⟨by omega, hba⟩, best, most, zArgK_end hAr (by omega), by omega⟩⟩⟩) hP hD hS _ _ dX9_child_159
              · skip
                refine lv_aload_n S.1 S.2.1 dX9_child_111 rfl (lv_at hl 3 rfl) ?_
                refine lv_iload S.1 S.2.1 dX9_child_112 (lv_at hl 0 rfl) ?_
                refine lv_iload_n S.1 S.2.1 dX9_child_114 rfl (lv_at hl 6 rfl) ?_
                refine lv_iload S.1 S.2.1 dX9_child_115 (lv_at hl 7 rfl) ?_
                refine lv_iload S.1 S.2.1 dX9_child_117 (lv_at hl 9 rfl) ?_
                refine lv_iload S.1 S.2.1 dX9_child_119 (lv_at hl 10 rfl) ?_
                refine z_ri (z_rV S hK (c_X9_bargainsSaid l E ac u44_flt ce la si ln co n on tr u91_fw cw ch nm num w k i cn ss sl ((zCan nb (fun x => zlive kd vl fr tl x v d) n)) (by omega) (by omega) (by omega) (by omega) (hba) (hT0) (hrel) (hce)) gX9_child_X9_bargainsSaid rfl hv_X9_bargainsSaid ⟨Nat.le_of_ble_eq_true rfl, Nat.le_of_ble_eq_true rfl⟩ (va_recv hK hP (ci := 9) (q0 := 0) rfl rfl) hP hl.1 rfl (Nat.le_of_ble_eq_true rfl) ⟨by decide, by decide⟩ rfl dX9_child_121) (fun r_121 h_121 => ?_)
                have h121r := h_121.2
                refine lv_istore (lv' := [(14, .int (jI (r_121))), (13, .int (jI (num))), (11, .int (jI (best))), (12, .int (jI (most))), (0, .ref (ac 0)), (1, .int (jI (v))), (2, .int (jI (d))), (3, .int (jI (w))), (4, .int (jI (k))), (5, .int (jI (lane))), (6, .int (jI (i))), (7, .int (jI (cn))), (8, .int (jI (what)))]) S.1 S.2.1 dX9_child_124 hl (by decide) rfl (fun ls hl => ?_)
                refine lv_iload S.1 S.2.1 dX9_child_126 (lv_at hl 0 rfl) ?_
                refine lv_iload S.1 S.2.1 dX9_child_128 (lv_at hl 3 rfl) ?_
                refine z_icmp_le (tgt := 141) S dX9_child_130 (by decide) (by omega) (fun c_130 => ?_) (fun c_130 => ?_)
                · skip
                  refine z_iinc (lv' := [(13, .int (jI (num + 1))), (14, .int (jI (r_121))), (11, .int (jI (best))), (12, .int (jI (most))), (0, .ref (ac 0)), (1, .int (jI (v))), (2, .int (jI (d))), (3, .int (jI (w))), (4, .int (jI (k))), (5, .int (jI (lane))), (6, .int (jI (i))), (7, .int (jI (cn))), (8, .int (jI (what)))]) S hl (k := 1) rfl (by decide) rfl dX9_child_141 (fun ls hl => ?_)
                  refine z_goto (tgt := 104) S dX9_child_144 (by decide) ?_
                  exact ih_6 (num + 1) best most (by omega) (by omega) (by omega) (by first | exact zArgK_keep hAr ⟨h_121.1, by omega⟩ (by omega) | exact zArgK_new hAr (by omega) ⟨h_121.1, by omega⟩ (by omega)) _ _ hP hD hS ls (lv_sub hl [0, 2, 3, 4, 5, 6, 7, 8, 9, 10, 11, 12] rfl)
                · skip
                  refine lv_iload S.1 S.2.1 dX9_child_133 (lv_at hl 0 rfl) ?_
                  refine lv_istore (lv' := [(12, .int (jI (r_121))), (14, .int (jI (r_121))), (13, .int (jI (num))), (11, .int (jI (best))), (0, .ref (ac 0)), (1, .int (jI (v))), (2, .int (jI (d))), (3, .int (jI (w))), (4, .int (jI (k))), (5, .int (jI (lane))), (6, .int (jI (i))), (7, .int (jI (cn))), (8, .int (jI (what)))]) S.1 S.2.1 dX9_child_135 hl (by decide) rfl (fun ls hl => ?_)
                  refine lv_iload S.1 S.2.1 dX9_child_137 (lv_at hl 2 rfl) ?_
                  refine lv_istore (lv' := [(11, .int (jI (num))), (12, .int (jI (r_121))), (14, .int (jI (r_121))), (13, .int (jI (num))), (0, .ref (ac 0)), (1, .int (jI (v))), (2, .int (jI (d))), (3, .int (jI (w))), (4, .int (jI (k))), (5, .int (jI (lane))), (6, .int (jI (i))), (7, .int (jI (cn))), (8, .int (jI (what)))]) S.1 S.2.1 dX9_child_139 hl (by decide) rfl (fun ls hl => ?_)
                  refine z_iinc (lv' := [(13, .int (jI (num + 1))), (11, .int (jI (num))), (12, .int (jI (r_121))), (14, .int (jI (r_121))), (0, .ref (ac 0)), (1, .int (jI (v))), (2, .int (jI (d))), (3, .int (jI (w))), (4, .int (jI (k))), (5, .int (jI (lane))), (6, .int (jI (i))), (7, .int (jI (cn))), (8, .int (jI (what)))]) S hl (k := 3) rfl (by decide) rfl dX9_child_141 (fun ls hl => ?_)
                  refine z_goto (tgt := 104) S dX9_child_144 (by decide) ?_
                  exact ih_6 (num + 1) num r_121 (by omega) (by omega) (by omega) (by first | exact zArgK_keep hAr ⟨h_121.1, by omega⟩ (by omega) | exact zArgK_new hAr (by omega) ⟨h_121.1, by omega⟩ (by omega)) _ _ hP hD hS ls (lv_sub hl [0, 1, 2, 4, 5, 6, 7, 8, 9, 10, 11, 12] rfl)
          · skip
            refine z_bipush S (by decide +kernel) dX9_child_77 ?_
            exact hQ (-2) ((u44_flt, fw)) _ _ (Or.inr ⟨okA, _, _, zBar_cong okB (iff_of_true (by omega) (by omega)), Or.inr ⟨rfl, okC.1, Or.inl ⟨by first | exact Or.inl (by omega) | exact Or.inr (zB_f h_71 (by omega)), rfl⟩⟩⟩) hP hD hS _ _ dX9_child_79
      · skip
        refine lv_iload S.1 S.2.1 dX9_child_54 (lv_at hl 0 rfl) ?_
        exact hQ (r_44) ((u44_flt, fw)) _ _ (h_44.elim (fun q => Or.inl q) (fun q => Or.inr ⟨q.1, _, _, zBar_cong q.2 (by omega), Or.inl ⟨by omega, rfl, rfl⟩⟩)) hP hD hS _ _ dX9_child_56
    · skip
      refine lv_iload S.1 S.2.1 dX9_child_14 (lv_at hl 8 rfl) ?_
      refine z_if_lt (tgt := 25) S dX9_child_16 (by decide) (by omega) (fun c_16 => ?_) (fun c_16 => ?_)
      · skip
        refine z_iconst S dX9_child_25 ?_
        refine z_goto (tgt := 30) S dX9_child_26 (by decide) ?_
        refine lv_istore (lv' := [(9, .int (jI (1))), (0, .ref (ac 0)), (1, .int (jI (v))), (2, .int (jI (d))), (3, .int (jI (w))), (4, .int (jI (k))), (5, .int (jI (lane))), (6, .int (jI (i))), (7, .int (jI (cn))), (8, .int (jI (what)))]) S.1 S.2.1 dX9_child_30 hl (by decide) rfl (fun ls hl => ?_)
        refine lv_aload_n S.1 S.2.1 dX9_child_32 rfl (lv_at hl 1 rfl) ?_
        refine lv_iload_n S.1 S.2.1 dX9_child_33 rfl (lv_at hl 2 rfl) ?_
        refine lv_iload S.1 S.2.1 dX9_child_34 (lv_at hl 5 rfl) ?_
        refine lv_iload S.1 S.2.1 dX9_child_36 (lv_at hl 0 rfl) ?_
        refine lv_iload S.1 S.2.1 dX9_child_38 (lv_at hl 6 rfl) ?_
        refine lv_iload S.1 S.2.1 dX9_child_40 (lv_at hl 7 rfl) ?_
        refine lv_iload S.1 S.2.1 dX9_child_42 (lv_at hl 8 rfl) ?_
        refine z_miw (z_mV S hK (c_X9_refusalOfCells l E ac flt ce la si ln co n on tr fw cw ch nm v k 1 lane i cn ss sl (by omega) (by omega) (by omega) (by omega) (by omega) (by omega) (hrel) _) gX9_child_X9_refusalOfCells rfl hv_X9_refusalOfCells ⟨Nat.le_of_ble_eq_true rfl, Nat.le_of_ble_eq_true rfl⟩ (va_recv hK hP (ci := 9) (q0 := 0) rfl rfl) hP hD trivial hl.1 rfl (Nat.le_of_ble_eq_true rfl) ⟨by decide, by decide⟩ rfl dX9_child_44) hD hS hA (fun r_44 u H locs h_44 hP hD hS => ?_)
        obtain ⟨u44_flt, u44_flt_e⟩ : ∃ z, z = u := ⟨_, rfl⟩
        subst u44_flt_e
        try dsimp only at h_44
        have hP : zP E (cW E ac u44_flt ce la si ln co n on tr fw cw ch nm) H := hP
        have hD : va_D A (cW E ac u44_flt ce la si ln co n on tr fw cw ch nm) := hD
        have h_44b := zRefs_rng h_44
        refine lv_istore (lv' := [(10, .int (jI (r_44))), (9, .int (jI (1))), (0, .ref (ac 0)), (1, .int (jI (v))), (2, .int (jI (d))), (3, .int (jI (w))), (4, .int (jI (k))), (5, .int (jI (lane))), (6, .int (jI (i))), (7, .int (jI (cn))), (8, .int (jI (what)))]) S.1 S.2.1 dX9_child_47 hl (by decide) rfl (fun ls hl => ?_)
        refine lv_iload S.1 S.2.1 dX9_child_49 (lv_at hl 0 rfl) ?_
        refine z_if_ge (tgt := 57) S dX9_child_51 (by decide) (by omega) (fun c_51 => ?_) (fun c_51 => ?_)
        · skip
          obtain ⟨okA, okB, okC, okD, okE⟩ := zRefs_ok h_44 (by omega)
          have hrk := hrel k (by omega) (by omega)
          refine lv_iload S.1 S.2.1 dX9_child_57 (lv_at hl 9 rfl) ?_
          refine z_bipush S (by decide +kernel) dX9_child_59 ?_
          refine z_icmp_gt (tgt := 77) S dX9_child_61 (by decide) (by omega) (fun c_61 => ?_) (fun c_61 => ?_)
          · skip
            refine z_bipush S (by decide +kernel) dX9_child_77 ?_
            exact hQ (-2) ((u44_flt, fw)) _ _ (Or.inr ⟨okA, _, _, zBar_cong okB (iff_of_true (by omega) (by omega)), Or.inr ⟨rfl, okC.1, Or.inl ⟨by first | exact Or.inl (by omega) | exact Or.inr (zB_f h_71 (by omega)), rfl⟩⟩⟩) hP hD hS _ _ dX9_child_79
          · skip
            refine lv_aload_n S.1 S.2.1 dX9_child_64 rfl (lv_at hl 2 rfl) ?_
            refine lv_iload S.1 S.2.1 dX9_child_65 (lv_at hl 6 rfl) ?_
            refine lv_iload S.1 S.2.1 dX9_child_67 (lv_at hl 8 rfl) ?_
            refine lv_iload S.1 S.2.1 dX9_child_69 (lv_at hl 9 rfl) ?_
            refine z_ri (z_rV S hK (c_X9_areBargains l E ac u44_flt ce la si ln co n on tr fw cw ch nm k i cn ss sl (by omega) (hrel) (hce)) gX9_child_X9_areBargains rfl hv_X9_areBargains ⟨Nat.le_of_ble_eq_true rfl, Nat.le_of_ble_eq_true rfl⟩ (va_recv hK hP (ci := 9) (q0 := 0) rfl rfl) hP hl.1 rfl (Nat.le_of_ble_eq_true rfl) ⟨by decide, by decide⟩ rfl dX9_child_71) (fun r_71 h_71 => ?_)
            refine z_if_ne (tgt := 80) S dX9_child_74 (by decide) (by omega) (fun c_74 => ?_) (fun c_74 => ?_)
            · skip
              have hba := zB_t h_71 (by omega)
              refine lv_aload_n S.1 S.2.1 dX9_child_80 rfl (lv_at hl 2 rfl) ?_
              refine z_get S hK hP 0 rfl rfl 2 (by decide) i_X9_child_9 q_X9_child_1 rfl dX9_child_81 ?_
              refine lv_aload_n S.1 S.2.1 dX9_child_84 rfl (lv_at hl 2 rfl) ?_
              refine z_get S hK hP 0 rfl rfl 4 (by decide) i_X9_child_9 q_X9_child_2 rfl dX9_child_85 ?_
              refine lv_iload_n S.1 S.2.1 dX9_child_88 rfl (lv_at hl 3 rfl) ?_
              refine lv_iload_n S.1 S.2.1 dX9_child_89 rfl (lv_at hl 4 rfl) ?_
              refine z_iconst S dX9_child_90 ?_
              refine z_mv (wr := [(ac 0, .inr (9, [.ref (ac 1), .ref (ac 5), .ref (ac 7), .ref (ac 9), .ref (ac 10), .ref (ac 12), .ref (ac 14), .int (jI u44_flt)])), (ac 1, .inr (7, [.ref (ac 2), .ref (ac 3), .ref (ac 4)])), (ac 2, eI E 400 ce), (ac 3, eI E 4 la), (ac 4, eI E 4 si), (ac 5, .inr (6, [.ref (ac 6), .int (jI ln)])), (ac 6, eI E 100 co), (ac 9, .inr (8, [.int (jI tr)])), (ac 12, .inr (0, [.ref (ac 13)])), (ac 13, eI E 1000 cw), (ac 14, .inr (5, [.ref (ac 15), .ref (ac 16)])), (ac 15, eI E 3 ch), (ac 16, eI E 3 nm)]) (z_mV S hK (c_X4_teach l E (ac 7) (ac 8) (ac 10) (ac 11) n on fw an kd vl nb fr tl v d (-1) (by omega) (by omega) (by omega) (by omega) (hon) (hpe) (zAp_sub (ws := (cW E ac u44_flt ce la si ln co n on tr fw cw ch nm)) (zAp_adr hap rfl) [7, 8, 10, 11] rfl) _) gX9_child_X4_teach rfl hv_X4_teach ⟨Nat.le_of_ble_eq_true rfl, Nat.le_of_ble_eq_true rfl⟩ (va_recv hK hP (ci := 4) (q0 := 7) rfl rfl) (hP.sub [7, 8, 10, 11] rfl) (hD.sub [7, 8, 10, 11] (by decide) rfl) (zNm_keep hG hS hNA) hl.1 rfl (Nat.le_of_ble_eq_true rfl) ⟨by decide, by decide⟩ rfl dX9_child_91) hP hD hS hA [7, 8, 10, 11] [0, 1, 2, 3, 4, 5, 6, 9, 12, 13, 14, 15, 16] [0, 1, 2, 3, 4, 5, 6, 13, 14, 7, 15, 16, 8, 9, 10, 11, 12] rfl rfl (by decide) (by decide) (fun (u : Int → Int) => cW E ac u44_flt ce la si ln co n on tr u cw ch nm) (by decide) (fun _ => rfl) (fun u H locs h_91 hP hD hS => ?_)
              obtain ⟨u91_fw, u91_fw_e⟩ : ∃ z, z = u := ⟨_, rfl⟩
              subst u91_fw_e
              try dsimp only at h_91
              have hP : zP E (cW E ac u44_flt ce la si ln co n on tr u91_fw cw ch nm) H := hP
              have hD : va_D A (cW E ac u44_flt ce la si ln co n on tr u91_fw cw ch nm) := hD
              have hT0 : zTab (zCan nb (fun x => zlive kd vl fr tl x v d) n) u91_fw 999 1000000 := zTab_cong (fun a _ _ => zCanW_m1) h_91
              refine z_bipush S (by decide +kernel) dX9_child_94 ?_
              refine lv_istore (lv' := [(11, .int (jI (-9))), (10, .int (jI (r_44))), (9, .int (jI (1))), (0, .ref (ac 0)), (1, .int (jI (v))), (2, .int (jI (d))), (3, .int (jI (w))), (4, .int (jI (k))), (5, .int (jI (lane))), (6, .int (jI (i))), (7, .int (jI (cn))), (8, .int (jI (what)))]) S.1 S.2.1 dX9_child_96 hl (by decide) rfl (fun ls hl => ?_)
              refine z_iconst S dX9_child_98 ?_
              refine lv_istore (lv' := [(12, .int (jI (-1))), (11, .int (jI (-9))), (10, .int (jI (r_44))), (9, .int (jI (1))), (0, .ref (ac 0)), (1, .int (jI (v))), (2, .int (jI (d))), (3, .int (jI (w))), (4, .int (jI (k))), (5, .int (jI (lane))), (6, .int (jI (i))), (7, .int (jI (cn))), (8, .int (jI (what)))]) S.1 S.2.1 dX9_child_99 hl (by decide) rfl (fun ls hl => ?_)
              refine z_iconst S dX9_child_101 ?_
              refine lv_istore (lv' := [(13, .int (jI (1))), (12, .int (jI (-1))), (11, .int (jI (-9))), (10, .int (jI (r_44))), (9, .int (jI (1))), (0, .ref (ac 0)), (1, .int (jI (v))), (2, .int (jI (d))), (3, .int (jI (w))), (4, .int (jI (k))), (5, .int (jI (lane))), (6, .int (jI (i))), (7, .int (jI (cn))), (8, .int (jI (what)))]) S.1 S.2.1 dX9_child_102 hl (by decide) rfl (fun ls hl => ?_)
              suffices HL_7 : ∀ (n_8 : Nat) (num : Int) (best : Int) (most : Int), (100 - num).toNat < n_8 → (1 ≤ num ∧ num ≤ 100) → (-9 ≤ best ∧ best ≤ 99 ∧ -9 ≤ most ∧ most ≤ 12) → (zArgK (zBcnt (zCan nb (fun x => zlive kd vl fr tl x v d) n) w (fun j => ce (100 * k + i + j)) cn) num best most) → ∀ (H : Heap) (locs : List Loc), zP E (cW E ac u44_flt ce la si ln co n on tr u91_fw cw ch nm) H → va_D A (cW E ac u44_flt ce la si ln co n on tr u91_fw cw ch nm) → va_S A s.heap H locs → ∀ (ls : Array Slot), lv_has ls 15 [(13, .int (jI (num))), (11, .int (jI (best))), (12, .int (jI (most))), (0, .ref (ac 0)), (1, .int (jI (v))), (2, .int (jI (d))), (3, .int (jI (w))), (4, .int (jI (k))), (5, .int (jI (lane))), (6, .int (jI (i))), (7, .int (jI (cn))), (8, .int (jI (what)))] → W p l e (zr 10 0 0) s m args below meth c H locs 0 0 Q (F0 m 104 ls []) from
                HL_7 _ 1 (-9) (-1) (Nat.lt_succ_self _) (by omega) (by omega) (zArgK_0) _ _ hP hD hS ls (lv_sub hl [0, 2, 1, 5, 6, 7, 8, 9, 10, 11, 12, 13] rfl)
              intro n_8
              induction n_8 with
              | zero => intro num best most hm hnum hbm hAr; exact absurd hm (Nat.not_lt_zero _)
              | succ n_8 ih_9 =>
                intro num best most hm hnum hbm hAr H locs hP hD hS ls hl
                refine lv_iload S.1 S.2.1 dX9_child_104 (lv_at hl 0 rfl) ?_
                refine z_bipush S (by decide +kernel) dX9_child_106 ?_
                refine z_icmp_gt (tgt := 147) S dX9_child_108 (by decide) (by omega) (fun c_108 => ?_) (fun c_108 => ?_)
                · skip
                  refine lv_iload S.1 S.2.1 dX9_child_147 (lv_at hl 11 rfl) ?_
                  refine z_if_ne (tgt := 157) S dX9_child_149 (by decide) (by omega) (fun c_149 => ?_) (fun c_149 => ?_)
                  · skip
                    refine lv_iload S.1 S.2.1 dX9_child_157 (lv_at hl 2 rfl) ?_
                    exact hQ (most) ((u44_flt, u91_fw)) _ _ (Or.inr ⟨okA, _, _, zBar_cong okB (iff_of_true (by omega) (by omega)), Or.inr ⟨rfl, okC.1, Or.inr ⟨⟨by omega, hba⟩, best, most, zArgK_end hAr (by omega), by omega⟩⟩⟩) hP hD hS _ _ dX9_child_159
                  · skip
                    refine lv_iload S.1 S.2.1 dX9_child_152 (lv_at hl 1 rfl) ?_
                    refine z_goto (tgt := 159) S dX9_child_154 (by decide) ?_
                    exact hQ (best) ((u44_flt, u91_fw)) _ _ (Or.inr ⟨okA, _, _, zBar_cong okB (iff_of_true (by omega) (by omega)), Or.inr ⟨rfl, okC.1, Or.inr ⟨⟨by omega, hba⟩, best, most, zArgK_end hAr (by omega), by omega⟩⟩⟩) hP hD hS _ _ dX9_child_159
                · skip
                  refine lv_aload_n S.1 S.2.1 dX9_child_111 rfl (lv_at hl 3 rfl) ?_
                  refine lv_iload S.1 S.2.1 dX9_child_112 (lv_at hl 0 rfl) ?_
                  refine lv_iload_n S.1 S.2.1 dX9_child_114 rfl (lv_at hl 6 rfl) ?_
                  refine lv_iload S.1 S.2.1 dX9_child_115 (lv_at hl 7 rfl) ?_
                  refine lv_iload S.1 S.2.1 dX9_child_117 (lv_at hl 9 rfl) ?_
                  refine lv_iload S.1 S.2.1 dX9_child_119 (lv_at hl 10 rfl) ?_
                  refine z_ri (z_rV S hK (c_X9_bargainsSaid l E ac u44_flt ce la si ln co n on tr u91_fw cw ch nm num w k i cn ss sl ((zCan nb (fun x => zlive kd vl fr tl x v d) n)) (by omega) (by omega) (by omega) (by omega) (hba) (hT0) (hrel) (hce)) gX9_child_X9_bargainsSaid rfl hv_X9_bargainsSaid ⟨Nat.le_of_ble_eq_true rfl, Nat.le_of_ble_eq_true rfl⟩ (va_recv hK hP (ci := 9) (q0 := 0) rfl rfl) hP hl.1 rfl (Nat.le_of_ble_eq_true rfl) ⟨by decide, by decide⟩ rfl dX9_child_121) (fun r_121 h_121 => ?_)
                  have h121r := h_121.2
                  refine lv_istore (lv' := [(14, .int (jI (r_121))), (13, .int (jI (num))), (11, .int (jI (best))), (12, .int (jI (most))), (0, .ref (ac 0)), (1, .int (jI (v))), (2, .int (jI (d))), (3, .int (jI (w))), (4, .int (jI (k))), (5, .int (jI (lane))), (6, .int (jI (i))), (7, .int (jI (cn))), (8, .int (jI (what)))]) S.1 S.2.1 dX9_child_124 hl (by decide) rfl (fun ls hl => ?_)
                  refine lv_iload S.1 S.2.1 dX9_child_126 (lv_at hl 0 rfl) ?_
                  refine lv_iload S.1 S.2.1 dX9_child_128 (lv_at hl 3 rfl) ?_
                  refine z_icmp_le (tgt := 141) S dX9_child_130 (by decide) (by omega) (fun c_130 => ?_) (fun c_130 => ?_)
                  · skip
                    refine z_iinc (lv' := [(13, .int (jI (num + 1))), (14, .int (jI (r_121))), (11, .int (jI (best))), (12, .int (jI (most))), (0, .ref (ac 0)), (1, .int (jI (v))), (2, .int (jI (d))), (3, .int (jI (w))), (4, .int (jI (k))), (5, .int (jI (lane))), (6, .int (jI (i))), (7, .int (jI (cn))), (8, .int (jI (what)))]) S hl (k := 1) rfl (by decide) rfl dX9_child_141 (fun ls hl => ?_)
                    refine z_goto (tgt := 104) S dX9_child_144 (by decide) ?_
                    exact ih_9 (num + 1) best most (by omega) (by omega) (by omega) (by first | exact zArgK_keep hAr ⟨h_121.1, by omega⟩ (by omega) | exact zArgK_new hAr (by omega) ⟨h_121.1, by omega⟩ (by omega)) _ _ hP hD hS ls (lv_sub hl [0, 2, 3, 4, 5, 6, 7, 8, 9, 10, 11, 12] rfl)
                  · skip
                    refine lv_iload S.1 S.2.1 dX9_child_133 (lv_at hl 0 rfl) ?_
                    refine lv_istore (lv' := [(12, .int (jI (r_121))), (14, .int (jI (r_121))), (13, .int (jI (num))), (11, .int (jI (best))), (0, .ref (ac 0)), (1, .int (jI (v))), (2, .int (jI (d))), (3, .int (jI (w))), (4, .int (jI (k))), (5, .int (jI (lane))), (6, .int (jI (i))), (7, .int (jI (cn))), (8, .int (jI (what)))]) S.1 S.2.1 dX9_child_135 hl (by decide) rfl (fun ls hl => ?_)
                    refine lv_iload S.1 S.2.1 dX9_child_137 (lv_at hl 2 rfl) ?_
                    refine lv_istore (lv' := [(11, .int (jI (num))), (12, .int (jI (r_121))), (14, .int (jI (r_121))), (13, .int (jI (num))), (0, .ref (ac 0)), (1, .int (jI (v))), (2, .int (jI (d))), (3, .int (jI (w))), (4, .int (jI (k))), (5, .int (jI (lane))), (6, .int (jI (i))), (7, .int (jI (cn))), (8, .int (jI (what)))]) S.1 S.2.1 dX9_child_139 hl (by decide) rfl (fun ls hl => ?_)
                    refine z_iinc (lv' := [(13, .int (jI (num + 1))), (11, .int (jI (num))), (12, .int (jI (r_121))), (14, .int (jI (r_121))), (0, .ref (ac 0)), (1, .int (jI (v))), (2, .int (jI (d))), (3, .int (jI (w))), (4, .int (jI (k))), (5, .int (jI (lane))), (6, .int (jI (i))), (7, .int (jI (cn))), (8, .int (jI (what)))]) S hl (k := 3) rfl (by decide) rfl dX9_child_141 (fun ls hl => ?_)
                    refine z_goto (tgt := 104) S dX9_child_144 (by decide) ?_
                    exact ih_9 (num + 1) num r_121 (by omega) (by omega) (by omega) (by first | exact zArgK_keep hAr ⟨h_121.1, by omega⟩ (by omega) | exact zArgK_new hAr (by omega) ⟨h_121.1, by omega⟩ (by omega)) _ _ hP hD hS ls (lv_sub hl [0, 1, 2, 4, 5, 6, 7, 8, 9, 10, 11, 12] rfl)
            · skip
              refine z_bipush S (by decide +kernel) dX9_child_77 ?_
              exact hQ (-2) ((u44_flt, fw)) _ _ (Or.inr ⟨okA, _, _, zBar_cong okB (iff_of_true (by omega) (by omega)), Or.inr ⟨rfl, okC.1, Or.inl ⟨by first | exact Or.inl (by omega) | exact Or.inr (zB_f h_71 (by omega)), rfl⟩⟩⟩) hP hD hS _ _ dX9_child_79
        · skip
          refine lv_iload S.1 S.2.1 dX9_child_54 (lv_at hl 0 rfl) ?_
          exact hQ (r_44) ((u44_flt, fw)) _ _ (h_44.elim (fun q => Or.inl q) (fun q => Or.inr ⟨q.1, _, _, zBar_cong q.2 (by omega), Or.inl ⟨by omega, rfl, rfl⟩⟩)) hP hD hS _ _ dX9_child_56
      · skip
        refine lv_iload S.1 S.2.1 dX9_child_19 (lv_at hl 8 rfl) ?_
        refine z_iconst S dX9_child_21 ?_
        refine z_icmp_le (tgt := 29) S dX9_child_22 (by decide) (by omega) (fun c_22 => ?_) (fun c_22 => ?_)
        · skip
          refine z_iconst S dX9_child_29 ?_
          refine lv_istore (lv' := [(9, .int (jI (0))), (0, .ref (ac 0)), (1, .int (jI (v))), (2, .int (jI (d))), (3, .int (jI (w))), (4, .int (jI (k))), (5, .int (jI (lane))), (6, .int (jI (i))), (7, .int (jI (cn))), (8, .int (jI (what)))]) S.1 S.2.1 dX9_child_30 hl (by decide) rfl (fun ls hl => ?_)
          refine lv_aload_n S.1 S.2.1 dX9_child_32 rfl (lv_at hl 1 rfl) ?_
          refine lv_iload_n S.1 S.2.1 dX9_child_33 rfl (lv_at hl 2 rfl) ?_
          refine lv_iload S.1 S.2.1 dX9_child_34 (lv_at hl 5 rfl) ?_
          refine lv_iload S.1 S.2.1 dX9_child_36 (lv_at hl 0 rfl) ?_
          refine lv_iload S.1 S.2.1 dX9_child_38 (lv_at hl 6 rfl) ?_
          refine lv_iload S.1 S.2.1 dX9_child_40 (lv_at hl 7 rfl) ?_
          refine lv_iload S.1 S.2.1 dX9_child_42 (lv_at hl 8 rfl) ?_
          refine z_miw (z_mV S hK (c_X9_refusalOfCells l E ac flt ce la si ln co n on tr fw cw ch nm v k 0 lane i cn ss sl (by omega) (by omega) (by omega) (by omega) (by omega) (by omega) (hrel) _) gX9_child_X9_refusalOfCells rfl hv_X9_refusalOfCells ⟨Nat.le_of_ble_eq_true rfl, Nat.le_of_ble_eq_true rfl⟩ (va_recv hK hP (ci := 9) (q0 := 0) rfl rfl) hP hD trivial hl.1 rfl (Nat.le_of_ble_eq_true rfl) ⟨by decide, by decide⟩ rfl dX9_child_44) hD hS hA (fun r_44 u H locs h_44 hP hD hS => ?_)
          obtain ⟨u44_flt, u44_flt_e⟩ : ∃ z, z = u := ⟨_, rfl⟩
          subst u44_flt_e
          try dsimp only at h_44
          have hP : zP E (cW E ac u44_flt ce la si ln co n on tr fw cw ch nm) H := hP
          have hD : va_D A (cW E ac u44_flt ce la si ln co n on tr fw cw ch nm) := hD
          have h_44b := zRefs_rng h_44
          refine lv_istore (lv' := [(10, .int (jI (r_44))), (9, .int (jI (0))), (0, .ref (ac 0)), (1, .int (jI (v))), (2, .int (jI (d))), (3, .int (jI (w))), (4, .int (jI (k))), (5, .int (jI (lane))), (6, .int (jI (i))), (7, .int (jI (cn))), (8, .int (jI (what)))]) S.1 S.2.1 dX9_child_47 hl (by decide) rfl (fun ls hl => ?_)
          refine lv_iload S.1 S.2.1 dX9_child_49 (lv_at hl 0 rfl) ?_
          refine z_if_ge (tgt := 57) S dX9_child_51 (by decide) (by omega) (fun c_51 => ?_) (fun c_51 => ?_)
          · skip
            obtain ⟨okA, okB, okC, okD, okE⟩ := zRefs_ok h_44 (by omega)
            have hrk := hrel k (by omega) (by omega)
            refine lv_iload S.1 S.2.1 dX9_child_57 (lv_at hl 9 rfl) ?_
            refine z_bipush S (by decide +kernel) dX9_child_59 ?_
            refine z_icmp_gt (tgt := 77) S dX9_child_61 (by decide) (by omega) (fun c_61 => ?_) (fun c_61 => ?_)
            · skip
              refine z_bipush S (by decide +kernel) dX9_child_77 ?_
              exact hQ (-2) ((u44_flt, fw)) _ _ (Or.inr ⟨okA, _, _, zBar_cong okB (iff_of_true (by omega) (by omega)), Or.inr ⟨rfl, okC.1, Or.inl ⟨by first | exact Or.inl (by omega) | exact Or.inr (zB_f h_71 (by omega)), rfl⟩⟩⟩) hP hD hS _ _ dX9_child_79
            · skip
              refine lv_aload_n S.1 S.2.1 dX9_child_64 rfl (lv_at hl 2 rfl) ?_
              refine lv_iload S.1 S.2.1 dX9_child_65 (lv_at hl 6 rfl) ?_
              refine lv_iload S.1 S.2.1 dX9_child_67 (lv_at hl 8 rfl) ?_
              refine lv_iload S.1 S.2.1 dX9_child_69 (lv_at hl 9 rfl) ?_
              refine z_ri (z_rV S hK (c_X9_areBargains l E ac u44_flt ce la si ln co n on tr fw cw ch nm k i cn ss sl (by omega) (hrel) (hce)) gX9_child_X9_areBargains rfl hv_X9_areBargains ⟨Nat.le_of_ble_eq_true rfl, Nat.le_of_ble_eq_true rfl⟩ (va_recv hK hP (ci := 9) (q0 := 0) rfl rfl) hP hl.1 rfl (Nat.le_of_ble_eq_true rfl) ⟨by decide, by decide⟩ rfl dX9_child_71) (fun r_71 h_71 => ?_)
              refine z_if_ne (tgt := 80) S dX9_child_74 (by decide) (by omega) (fun c_74 => ?_) (fun c_74 => ?_)
              · skip
                have hba := zB_t h_71 (by omega)
                refine lv_aload_n S.1 S.2.1 dX9_child_80 rfl (lv_at hl 2 rfl) ?_
                refine z_get S hK hP 0 rfl rfl 2 (by decide) i_X9_child_9 q_X9_child_1 rfl dX9_child_81 ?_
                refine lv_aload_n S.1 S.2.1 dX9_child_84 rfl (lv_at hl 2 rfl) ?_
                refine z_get S hK hP 0 rfl rfl 4 (by decide) i_X9_child_9 q_X9_child_2 rfl dX9_child_85 ?_
                refine lv_iload_n S.1 S.2.1 dX9_child_88 rfl (lv_at hl 3 rfl) ?_
                refine lv_iload_n S.1 S.2.1 dX9_child_89 rfl (lv_at hl 4 rfl) ?_
                refine z_iconst S dX9_child_90 ?_
                refine z_mv (wr := [(ac 0, .inr (9, [.ref (ac 1), .ref (ac 5), .ref (ac 7), .ref (ac 9), .ref (ac 10), .ref (ac 12), .ref (ac 14), .int (jI u44_flt)])), (ac 1, .inr (7, [.ref (ac 2), .ref (ac 3), .ref (ac 4)])), (ac 2, eI E 400 ce), (ac 3, eI E 4 la), (ac 4, eI E 4 si), (ac 5, .inr (6, [.ref (ac 6), .int (jI ln)])), (ac 6, eI E 100 co), (ac 9, .inr (8, [.int (jI tr)])), (ac 12, .inr (0, [.ref (ac 13)])), (ac 13, eI E 1000 cw), (ac 14, .inr (5, [.ref (ac 15), .ref (ac 16)])), (ac 15, eI E 3 ch), (ac 16, eI E 3 nm)]) (z_mV S hK (c_X4_teach l E (ac 7) (ac 8) (ac 10) (ac 11) n on fw an kd vl nb fr tl v d (-1) (by omega) (by omega) (by omega) (by omega) (hon) (hpe) (zAp_sub (ws := (cW E ac u44_flt ce la si ln co n on tr fw cw ch nm)) (zAp_adr hap rfl) [7, 8, 10, 11] rfl) _) gX9_child_X4_teach rfl hv_X4_teach ⟨Nat.le_of_ble_eq_true rfl, Nat.le_of_ble_eq_true rfl⟩ (va_recv hK hP (ci := 4) (q0 := 7) rfl rfl) (hP.sub [7, 8, 10, 11] rfl) (hD.sub [7, 8, 10, 11] (by decide) rfl) (zNm_keep hG hS hNA) hl.1 rfl (Nat.le_of_ble_eq_true rfl) ⟨by decide, by decide⟩ rfl dX9_child_91) hP hD hS hA [7, 8, 10, 11] [0, 1, 2, 3, 4, 5, 6, 9, 12, 13, 14, 15, 16] [0, 1, 2, 3, 4, 5, 6, 13, 14, 7, 15, 16, 8, 9, 10, 11, 12] rfl rfl (by decide) (by decide) (fun (u : Int → Int) => cW E ac u44_flt ce la si ln co n on tr u cw ch nm) (by decide) (fun _ => rfl) (fun u H locs h_91 hP hD hS => ?_)
                obtain ⟨u91_fw, u91_fw_e⟩ : ∃ z, z = u := ⟨_, rfl⟩
                subst u91_fw_e
                try dsimp only at h_91
                have hP : zP E (cW E ac u44_flt ce la si ln co n on tr u91_fw cw ch nm) H := hP
                have hD : va_D A (cW E ac u44_flt ce la si ln co n on tr u91_fw cw ch nm) := hD
                have hT0 : zTab (zCan nb (fun x => zlive kd vl fr tl x v d) n) u91_fw 999 1000000 := zTab_cong (fun a _ _ => zCanW_m1) h_91
                refine z_bipush S (by decide +kernel) dX9_child_94 ?_
                refine lv_istore (lv' := [(11, .int (jI (-9))), (10, .int (jI (r_44))), (9, .int (jI (0))), (0, .ref (ac 0)), (1, .int (jI (v))), (2, .int (jI (d))), (3, .int (jI (w))), (4, .int (jI (k))), (5, .int (jI (lane))), (6, .int (jI (i))), (7, .int (jI (cn))), (8, .int (jI (what)))]) S.1 S.2.1 dX9_child_96 hl (by decide) rfl (fun ls hl => ?_)
                refine z_iconst S dX9_child_98 ?_
                refine lv_istore (lv' := [(12, .int (jI (-1))), (11, .int (jI (-9))), (10, .int (jI (r_44))), (9, .int (jI (0))), (0, .ref (ac 0)), (1, .int (jI (v))), (2, .int (jI (d))), (3, .int (jI (w))), (4, .int (jI (k))), (5, .int (jI (lane))), (6, .int (jI (i))), (7, .int (jI (cn))), (8, .int (jI (what)))]) S.1 S.2.1 dX9_child_99 hl (by decide) rfl (fun ls hl => ?_)
                refine z_iconst S dX9_child_101 ?_
                refine lv_istore (lv' := [(13, .int (jI (1))), (12, .int (jI (-1))), (11, .int (jI (-9))), (10, .int (jI (r_44))), (9, .int (jI (0))), (0, .ref (ac 0)), (1, .int (jI (v))), (2, .int (jI (d))), (3, .int (jI (w))), (4, .int (jI (k))), (5, .int (jI (lane))), (6, .int (jI (i))), (7, .int (jI (cn))), (8, .int (jI (what)))]) S.1 S.2.1 dX9_child_102 hl (by decide) rfl (fun ls hl => ?_)
                suffices HL_10 : ∀ (n_11 : Nat) (num : Int) (best : Int) (most : Int), (100 - num).toNat < n_11 → (1 ≤ num ∧ num ≤ 100) → (-9 ≤ best ∧ best ≤ 99 ∧ -9 ≤ most ∧ most ≤ 12) → (zArgK (zBcnt (zCan nb (fun x => zlive kd vl fr tl x v d) n) w (fun j => ce (100 * k + i + j)) cn) num best most) → ∀ (H : Heap) (locs : List Loc), zP E (cW E ac u44_flt ce la si ln co n on tr u91_fw cw ch nm) H → va_D A (cW E ac u44_flt ce la si ln co n on tr u91_fw cw ch nm) → va_S A s.heap H locs → ∀ (ls : Array Slot), lv_has ls 15 [(13, .int (jI (num))), (11, .int (jI (best))), (12, .int (jI (most))), (0, .ref (ac 0)), (1, .int (jI (v))), (2, .int (jI (d))), (3, .int (jI (w))), (4, .int (jI (k))), (5, .int (jI (lane))), (6, .int (jI (i))), (7, .int (jI (cn))), (8, .int (jI (what)))] → W p l e (zr 10 0 0) s m args below meth c H locs 0 0 Q (F0 m 104 ls []) from
                  HL_10 _ 1 (-9) (-1) (Nat.lt_succ_self _) (by omega) (by omega) (zArgK_0) _ _ hP hD hS ls (lv_sub hl [0, 2, 1, 5, 6, 7, 8, 9, 10, 11, 12, 13] rfl)
                intro n_11
                induction n_11 with
                | zero => intro num best most hm hnum hbm hAr; exact absurd hm (Nat.not_lt_zero _)
                | succ n_11 ih_12 =>
                  intro num best most hm hnum hbm hAr H locs hP hD hS ls hl
                  refine lv_iload S.1 S.2.1 dX9_child_104 (lv_at hl 0 rfl) ?_
                  refine z_bipush S (by decide +kernel) dX9_child_106 ?_
                  refine z_icmp_gt (tgt := 147) S dX9_child_108 (by decide) (by omega) (fun c_108 => ?_) (fun c_108 => ?_)
                  · skip
                    refine lv_iload S.1 S.2.1 dX9_child_147 (lv_at hl 11 rfl) ?_
                    refine z_if_ne (tgt := 157) S dX9_child_149 (by decide) (by omega) (fun c_149 => ?_) (fun c_149 => ?_)
                    · skip
                      refine lv_iload S.1 S.2.1 dX9_child_157 (lv_at hl 2 rfl) ?_
                      exact hQ (most) ((u44_flt, u91_fw)) _ _ (Or.inr ⟨okA, _, _, zBar_cong okB (iff_of_true (by omega) (by omega)), Or.inr ⟨rfl, okC.1, Or.inr ⟨⟨by omega, hba⟩, best, most, zArgK_end hAr (by omega), by omega⟩⟩⟩) hP hD hS _ _ dX9_child_159
                    · skip
                      refine lv_iload S.1 S.2.1 dX9_child_152 (lv_at hl 1 rfl) ?_
                      refine z_goto (tgt := 159) S dX9_child_154 (by decide) ?_
                      exact hQ (best) ((u44_flt, u91_fw)) _ _ (Or.inr ⟨okA, _, _, zBar_cong okB (iff_of_true (by omega) (by omega)), Or.inr ⟨rfl, okC.1, Or.inr ⟨⟨by omega, hba⟩, best, most, zArgK_end hAr (by omega), by omega⟩⟩⟩) hP hD hS _ _ dX9_child_159
                  · skip
                    refine lv_aload_n S.1 S.2.1 dX9_child_111 rfl (lv_at hl 3 rfl) ?_
                    refine lv_iload S.1 S.2.1 dX9_child_112 (lv_at hl 0 rfl) ?_
                    refine lv_iload_n S.1 S.2.1 dX9_child_114 rfl (lv_at hl 6 rfl) ?_
                    refine lv_iload S.1 S.2.1 dX9_child_115 (lv_at hl 7 rfl) ?_
                    refine lv_iload S.1 S.2.1 dX9_child_117 (lv_at hl 9 rfl) ?_
                    refine lv_iload S.1 S.2.1 dX9_child_119 (lv_at hl 10 rfl) ?_
                    refine z_ri (z_rV S hK (c_X9_bargainsSaid l E ac u44_flt ce la si ln co n on tr u91_fw cw ch nm num w k i cn ss sl ((zCan nb (fun x => zlive kd vl fr tl x v d) n)) (by omega) (by omega) (by omega) (by omega) (hba) (hT0) (hrel) (hce)) gX9_child_X9_bargainsSaid rfl hv_X9_bargainsSaid ⟨Nat.le_of_ble_eq_true rfl, Nat.le_of_ble_eq_true rfl⟩ (va_recv hK hP (ci := 9) (q0 := 0) rfl rfl) hP hl.1 rfl (Nat.le_of_ble_eq_true rfl) ⟨by decide, by decide⟩ rfl dX9_child_121) (fun r_121 h_121 => ?_)
                    have h121r := h_121.2
                    refine lv_istore (lv' := [(14, .int (jI (r_121))), (13, .int (jI (num))), (11, .int (jI (best))), (12, .int (jI (most))), (0, .ref (ac 0)), (1, .int (jI (v))), (2, .int (jI (d))), (3, .int (jI (w))), (4, .int (jI (k))), (5, .int (jI (lane))), (6, .int (jI (i))), (7, .int (jI (cn))), (8, .int (jI (what)))]) S.1 S.2.1 dX9_child_124 hl (by decide) rfl (fun ls hl => ?_)
                    refine lv_iload S.1 S.2.1 dX9_child_126 (lv_at hl 0 rfl) ?_
                    refine lv_iload S.1 S.2.1 dX9_child_128 (lv_at hl 3 rfl) ?_
                    refine z_icmp_le (tgt := 141) S dX9_child_130 (by decide) (by omega) (fun c_130 => ?_) (fun c_130 => ?_)
                    · skip
                      refine z_iinc (lv' := [(13, .int (jI (num + 1))), (14, .int (jI (r_121))), (11, .int (jI (best))), (12, .int (jI (most))), (0, .ref (ac 0)), (1, .int (jI (v))), (2, .int (jI (d))), (3, .int (jI (w))), (4, .int (jI (k))), (5, .int (jI (lane))), (6, .int (jI (i))), (7, .int (jI (cn))), (8, .int (jI (what)))]) S hl (k := 1) rfl (by decide) rfl dX9_child_141 (fun ls hl => ?_)
                      refine z_goto (tgt := 104) S dX9_child_144 (by decide) ?_
                      exact ih_12 (num + 1) best most (by omega) (by omega) (by omega) (by first | exact zArgK_keep hAr ⟨h_121.1, by omega⟩ (by omega) | exact zArgK_new hAr (by omega) ⟨h_121.1, by omega⟩ (by omega)) _ _ hP hD hS ls (lv_sub hl [0, 2, 3, 4, 5, 6, 7, 8, 9, 10, 11, 12] rfl)
                    · skip
                      refine lv_iload S.1 S.2.1 dX9_child_133 (lv_at hl 0 rfl) ?_
                      refine lv_istore (lv' := [(12, .int (jI (r_121))), (14, .int (jI (r_121))), (13, .int (jI (num))), (11, .int (jI (best))), (0, .ref (ac 0)), (1, .int (jI (v))), (2, .int (jI (d))), (3, .int (jI (w))), (4, .int (jI (k))), (5, .int (jI (lane))), (6, .int (jI (i))), (7, .int (jI (cn))), (8, .int (jI (what)))]) S.1 S.2.1 dX9_child_135 hl (by decide) rfl (fun ls hl => ?_)
                      refine lv_iload S.1 S.2.1 dX9_child_137 (lv_at hl 2 rfl) ?_
                      refine lv_istore (lv' := [(11, .int (jI (num))), (12, .int (jI (r_121))), (14, .int (jI (r_121))), (13, .int (jI (num))), (0, .ref (ac 0)), (1, .int (jI (v))), (2, .int (jI (d))), (3, .int (jI (w))), (4, .int (jI (k))), (5, .int (jI (lane))), (6, .int (jI (i))), (7, .int (jI (cn))), (8, .int (jI (what)))]) S.1 S.2.1 dX9_child_139 hl (by decide) rfl (fun ls hl => ?_)
                      refine z_iinc (lv' := [(13, .int (jI (num + 1))), (11, .int (jI (num))), (12, .int (jI (r_121))), (14, .int (jI (r_121))), (0, .ref (ac 0)), (1, .int (jI (v))), (2, .int (jI (d))), (3, .int (jI (w))), (4, .int (jI (k))), (5, .int (jI (lane))), (6, .int (jI (i))), (7, .int (jI (cn))), (8, .int (jI (what)))]) S hl (k := 3) rfl (by decide) rfl dX9_child_141 (fun ls hl => ?_)
                      refine z_goto (tgt := 104) S dX9_child_144 (by decide) ?_
                      exact ih_12 (num + 1) num r_121 (by omega) (by omega) (by omega) (by first | exact zArgK_keep hAr ⟨h_121.1, by omega⟩ (by omega) | exact zArgK_new hAr (by omega) ⟨h_121.1, by omega⟩ (by omega)) _ _ hP hD hS ls (lv_sub hl [0, 1, 2, 4, 5, 6, 7, 8, 9, 10, 11, 12] rfl)
              · skip
                refine z_bipush S (by decide +kernel) dX9_child_77 ?_
                exact hQ (-2) ((u44_flt, fw)) _ _ (Or.inr ⟨okA, _, _, zBar_cong okB (iff_of_true (by omega) (by omega)), Or.inr ⟨rfl, okC.1, Or.inl ⟨by first | exact Or.inl (by omega) | exact Or.inr (zB_f h_71 (by omega)), rfl⟩⟩⟩) hP hD hS _ _ dX9_child_79
          · skip
            refine lv_iload S.1 S.2.1 dX9_child_54 (lv_at hl 0 rfl) ?_
            exact hQ (r_44) ((u44_flt, fw)) _ _ (h_44.elim (fun q => Or.inl q) (fun q => Or.inr ⟨q.1, _, _, zBar_cong q.2 (by omega), Or.inl ⟨by omega, rfl, rfl⟩⟩)) hP hD hS _ _ dX9_child_56
        · skip
          refine z_iconst S dX9_child_25 ?_
          refine z_goto (tgt := 30) S dX9_child_26 (by decide) ?_
          refine lv_istore (lv' := [(9, .int (jI (1))), (0, .ref (ac 0)), (1, .int (jI (v))), (2, .int (jI (d))), (3, .int (jI (w))), (4, .int (jI (k))), (5, .int (jI (lane))), (6, .int (jI (i))), (7, .int (jI (cn))), (8, .int (jI (what)))]) S.1 S.2.1 dX9_child_30 hl (by decide) rfl (fun ls hl => ?_)
          refine lv_aload_n S.1 S.2.1 dX9_child_32 rfl (lv_at hl 1 rfl) ?_
          refine lv_iload_n S.1 S.2.1 dX9_child_33 rfl (lv_at hl 2 rfl) ?_
          refine lv_iload S.1 S.2.1 dX9_child_34 (lv_at hl 5 rfl) ?_
          refine lv_iload S.1 S.2.1 dX9_child_36 (lv_at hl 0 rfl) ?_
          refine lv_iload S.1 S.2.1 dX9_child_38 (lv_at hl 6 rfl) ?_
          refine lv_iload S.1 S.2.1 dX9_child_40 (lv_at hl 7 rfl) ?_
          refine lv_iload S.1 S.2.1 dX9_child_42 (lv_at hl 8 rfl) ?_
          refine z_miw (z_mV S hK (c_X9_refusalOfCells l E ac flt ce la si ln co n on tr fw cw ch nm v k 1 lane i cn ss sl (by omega) (by omega) (by omega) (by omega) (by omega) (by omega) (hrel) _) gX9_child_X9_refusalOfCells rfl hv_X9_refusalOfCells ⟨Nat.le_of_ble_eq_true rfl, Nat.le_of_ble_eq_true rfl⟩ (va_recv hK hP (ci := 9) (q0 := 0) rfl rfl) hP hD trivial hl.1 rfl (Nat.le_of_ble_eq_true rfl) ⟨by decide, by decide⟩ rfl dX9_child_44) hD hS hA (fun r_44 u H locs h_44 hP hD hS => ?_)
          obtain ⟨u44_flt, u44_flt_e⟩ : ∃ z, z = u := ⟨_, rfl⟩
          subst u44_flt_e
          try dsimp only at h_44
          have hP : zP E (cW E ac u44_flt ce la si ln co n on tr fw cw ch nm) H := hP
          have hD : va_D A (cW E ac u44_flt ce la si ln co n on tr fw cw ch nm) := hD
          have h_44b := zRefs_rng h_44
          refine lv_istore (lv' := [(10, .int (jI (r_44))), (9, .int (jI (1))), (0, .ref (ac 0)), (1, .int (jI (v))), (2, .int (jI (d))), (3, .int (jI (w))), (4, .int (jI (k))), (5, .int (jI (lane))), (6, .int (jI (i))), (7, .int (jI (cn))), (8, .int (jI (what)))]) S.1 S.2.1 dX9_child_47 hl (by decide) rfl (fun ls hl => ?_)
          refine lv_iload S.1 S.2.1 dX9_child_49 (lv_at hl 0 rfl) ?_
          refine z_if_ge (tgt := 57) S dX9_child_51 (by decide) (by omega) (fun c_51 => ?_) (fun c_51 => ?_)
          · skip
            obtain ⟨okA, okB, okC, okD, okE⟩ := zRefs_ok h_44 (by omega)
            have hrk := hrel k (by omega) (by omega)
            refine lv_iload S.1 S.2.1 dX9_child_57 (lv_at hl 9 rfl) ?_
            refine z_bipush S (by decide +kernel) dX9_child_59 ?_
            refine z_icmp_gt (tgt := 77) S dX9_child_61 (by decide) (by omega) (fun c_61 => ?_) (fun c_61 => ?_)
            · skip
              refine z_bipush S (by decide +kernel) dX9_child_77 ?_
              exact hQ (-2) ((u44_flt, fw)) _ _ (Or.inr ⟨okA, _, _, zBar_cong okB (iff_of_true (by omega) (by omega)), Or.inr ⟨rfl, okC.1, Or.inl ⟨by first | exact Or.inl (by omega) | exact Or.inr (zB_f h_71 (by omega)), rfl⟩⟩⟩) hP hD hS _ _ dX9_child_79
            · skip
              refine lv_aload_n S.1 S.2.1 dX9_child_64 rfl (lv_at hl 2 rfl) ?_
              refine lv_iload S.1 S.2.1 dX9_child_65 (lv_at hl 6 rfl) ?_
              refine lv_iload S.1 S.2.1 dX9_child_67 (lv_at hl 8 rfl) ?_
              refine lv_iload S.1 S.2.1 dX9_child_69 (lv_at hl 9 rfl) ?_
              refine z_ri (z_rV S hK (c_X9_areBargains l E ac u44_flt ce la si ln co n on tr fw cw ch nm k i cn ss sl (by omega) (hrel) (hce)) gX9_child_X9_areBargains rfl hv_X9_areBargains ⟨Nat.le_of_ble_eq_true rfl, Nat.le_of_ble_eq_true rfl⟩ (va_recv hK hP (ci := 9) (q0 := 0) rfl rfl) hP hl.1 rfl (Nat.le_of_ble_eq_true rfl) ⟨by decide, by decide⟩ rfl dX9_child_71) (fun r_71 h_71 => ?_)
              refine z_if_ne (tgt := 80) S dX9_child_74 (by decide) (by omega) (fun c_74 => ?_) (fun c_74 => ?_)
              · skip
                have hba := zB_t h_71 (by omega)
                refine lv_aload_n S.1 S.2.1 dX9_child_80 rfl (lv_at hl 2 rfl) ?_
                refine z_get S hK hP 0 rfl rfl 2 (by decide) i_X9_child_9 q_X9_child_1 rfl dX9_child_81 ?_
                refine lv_aload_n S.1 S.2.1 dX9_child_84 rfl (lv_at hl 2 rfl) ?_
                refine z_get S hK hP 0 rfl rfl 4 (by decide) i_X9_child_9 q_X9_child_2 rfl dX9_child_85 ?_
                refine lv_iload_n S.1 S.2.1 dX9_child_88 rfl (lv_at hl 3 rfl) ?_
                refine lv_iload_n S.1 S.2.1 dX9_child_89 rfl (lv_at hl 4 rfl) ?_
                refine z_iconst S dX9_child_90 ?_
                refine z_mv (wr := [(ac 0, .inr (9, [.ref (ac 1), .ref (ac 5), .ref (ac 7), .ref (ac 9), .ref (ac 10), .ref (ac 12), .ref (ac 14), .int (jI u44_flt)])), (ac 1, .inr (7, [.ref (ac 2), .ref (ac 3), .ref (ac 4)])), (ac 2, eI E 400 ce), (ac 3, eI E 4 la), (ac 4, eI E 4 si), (ac 5, .inr (6, [.ref (ac 6), .int (jI ln)])), (ac 6, eI E 100 co), (ac 9, .inr (8, [.int (jI tr)])), (ac 12, .inr (0, [.ref (ac 13)])), (ac 13, eI E 1000 cw), (ac 14, .inr (5, [.ref (ac 15), .ref (ac 16)])), (ac 15, eI E 3 ch), (ac 16, eI E 3 nm)]) (z_mV S hK (c_X4_teach l E (ac 7) (ac 8) (ac 10) (ac 11) n on fw an kd vl nb fr tl v d (-1) (by omega) (by omega) (by omega) (by omega) (hon) (hpe) (zAp_sub (ws := (cW E ac u44_flt ce la si ln co n on tr fw cw ch nm)) (zAp_adr hap rfl) [7, 8, 10, 11] rfl) _) gX9_child_X4_teach rfl hv_X4_teach ⟨Nat.le_of_ble_eq_true rfl, Nat.le_of_ble_eq_true rfl⟩ (va_recv hK hP (ci := 4) (q0 := 7) rfl rfl) (hP.sub [7, 8, 10, 11] rfl) (hD.sub [7, 8, 10, 11] (by decide) rfl) (zNm_keep hG hS hNA) hl.1 rfl (Nat.le_of_ble_eq_true rfl) ⟨by decide, by decide⟩ rfl dX9_child_91) hP hD hS hA [7, 8, 10, 11] [0, 1, 2, 3, 4, 5, 6, 9, 12, 13, 14, 15, 16] [0, 1, 2, 3, 4, 5, 6, 13, 14, 7, 15, 16, 8, 9, 10, 11, 12] rfl rfl (by decide) (by decide) (fun (u : Int → Int) => cW E ac u44_flt ce la si ln co n on tr u cw ch nm) (by decide) (fun _ => rfl) (fun u H locs h_91 hP hD hS => ?_)
                obtain ⟨u91_fw, u91_fw_e⟩ : ∃ z, z = u := ⟨_, rfl⟩
                subst u91_fw_e
                try dsimp only at h_91
                have hP : zP E (cW E ac u44_flt ce la si ln co n on tr u91_fw cw ch nm) H := hP
                have hD : va_D A (cW E ac u44_flt ce la si ln co n on tr u91_fw cw ch nm) := hD
                have hT0 : zTab (zCan nb (fun x => zlive kd vl fr tl x v d) n) u91_fw 999 1000000 := zTab_cong (fun a _ _ => zCanW_m1) h_91
                refine z_bipush S (by decide +kernel) dX9_child_94 ?_
                refine lv_istore (lv' := [(11, .int (jI (-9))), (10, .int (jI (r_44))), (9, .int (jI (1))), (0, .ref (ac 0)), (1, .int (jI (v))), (2, .int (jI (d))), (3, .int (jI (w))), (4, .int (jI (k))), (5, .int (jI (lane))), (6, .int (jI (i))), (7, .int (jI (cn))), (8, .int (jI (what)))]) S.1 S.2.1 dX9_child_96 hl (by decide) rfl (fun ls hl => ?_)
                refine z_iconst S dX9_child_98 ?_
                refine lv_istore (lv' := [(12, .int (jI (-1))), (11, .int (jI (-9))), (10, .int (jI (r_44))), (9, .int (jI (1))), (0, .ref (ac 0)), (1, .int (jI (v))), (2, .int (jI (d))), (3, .int (jI (w))), (4, .int (jI (k))), (5, .int (jI (lane))), (6, .int (jI (i))), (7, .int (jI (cn))), (8, .int (jI (what)))]) S.1 S.2.1 dX9_child_99 hl (by decide) rfl (fun ls hl => ?_)
                refine z_iconst S dX9_child_101 ?_
                refine lv_istore (lv' := [(13, .int (jI (1))), (12, .int (jI (-1))), (11, .int (jI (-9))), (10, .int (jI (r_44))), (9, .int (jI (1))), (0, .ref (ac 0)), (1, .int (jI (v))), (2, .int (jI (d))), (3, .int (jI (w))), (4, .int (jI (k))), (5, .int (jI (lane))), (6, .int (jI (i))), (7, .int (jI (cn))), (8, .int (jI (what)))]) S.1 S.2.1 dX9_child_102 hl (by decide) rfl (fun ls hl => ?_)
                suffices HL_13 : ∀ (n_14 : Nat) (num : Int) (best : Int) (most : Int), (100 - num).toNat < n_14 → (1 ≤ num ∧ num ≤ 100) → (-9 ≤ best ∧ best ≤ 99 ∧ -9 ≤ most ∧ most ≤ 12) → (zArgK (zBcnt (zCan nb (fun x => zlive kd vl fr tl x v d) n) w (fun j => ce (100 * k + i + j)) cn) num best most) → ∀ (H : Heap) (locs : List Loc), zP E (cW E ac u44_flt ce la si ln co n on tr u91_fw cw ch nm) H → va_D A (cW E ac u44_flt ce la si ln co n on tr u91_fw cw ch nm) → va_S A s.heap H locs → ∀ (ls : Array Slot), lv_has ls 15 [(13, .int (jI (num))), (11, .int (jI (best))), (12, .int (jI (most))), (0, .ref (ac 0)), (1, .int (jI (v))), (2, .int (jI (d))), (3, .int (jI (w))), (4, .int (jI (k))), (5, .int (jI (lane))), (6, .int (jI (i))), (7, .int (jI (cn))), (8, .int (jI (what)))] → W p l e (zr 10 0 0) s m args below meth c H locs 0 0 Q (F0 m 104 ls []) from
                  HL_13 _ 1 (-9) (-1) (Nat.lt_succ_self _) (by omega) (by omega) (zArgK_0) _ _ hP hD hS ls (lv_sub hl [0, 2, 1, 5, 6, 7, 8, 9, 10, 11, 12, 13] rfl)
                intro n_14
                induction n_14 with
                | zero => intro num best most hm hnum hbm hAr; exact absurd hm (Nat.not_lt_zero _)
                | succ n_14 ih_15 =>
                  intro num best most hm hnum hbm hAr H locs hP hD hS ls hl
                  refine lv_iload S.1 S.2.1 dX9_child_104 (lv_at hl 0 rfl) ?_
                  refine z_bipush S (by decide +kernel) dX9_child_106 ?_
                  refine z_icmp_gt (tgt := 147) S dX9_child_108 (by decide) (by omega) (fun c_108 => ?_) (fun c_108 => ?_)
                  · skip
                    refine lv_iload S.1 S.2.1 dX9_child_147 (lv_at hl 11 rfl) ?_
                    refine z_if_ne (tgt := 157) S dX9_child_149 (by decide) (by omega) (fun c_149 => ?_) (fun c_149 => ?_)
                    · skip
                      refine lv_iload S.1 S.2.1 dX9_child_157 (lv_at hl 2 rfl) ?_
                      exact hQ (most) ((u44_flt, u91_fw)) _ _ (Or.inr ⟨okA, _, _, zBar_cong okB (iff_of_true (by omega) (by omega)), Or.inr ⟨rfl, okC.1, Or.inr ⟨⟨by omega, hba⟩, best, most, zArgK_end hAr (by omega), by omega⟩⟩⟩) hP hD hS _ _ dX9_child_159
                    · skip
                      refine lv_iload S.1 S.2.1 dX9_child_152 (lv_at hl 1 rfl) ?_
                      refine z_goto (tgt := 159) S dX9_child_154 (by decide) ?_
                      exact hQ (best) ((u44_flt, u91_fw)) _ _ (Or.inr ⟨okA, _, _, zBar_cong okB (iff_of_true (by omega) (by omega)), Or.inr ⟨rfl, okC.1, Or.inr ⟨⟨by omega, hba⟩, best, most, zArgK_end hAr (by omega), by omega⟩⟩⟩) hP hD hS _ _ dX9_child_159
                  · skip
                    refine lv_aload_n S.1 S.2.1 dX9_child_111 rfl (lv_at hl 3 rfl) ?_
                    refine lv_iload S.1 S.2.1 dX9_child_112 (lv_at hl 0 rfl) ?_
                    refine lv_iload_n S.1 S.2.1 dX9_child_114 rfl (lv_at hl 6 rfl) ?_
                    refine lv_iload S.1 S.2.1 dX9_child_115 (lv_at hl 7 rfl) ?_
                    refine lv_iload S.1 S.2.1 dX9_child_117 (lv_at hl 9 rfl) ?_
                    refine lv_iload S.1 S.2.1 dX9_child_119 (lv_at hl 10 rfl) ?_
                    refine z_ri (z_rV S hK (c_X9_bargainsSaid l E ac u44_flt ce la si ln co n on tr u91_fw cw ch nm num w k i cn ss sl ((zCan nb (fun x => zlive kd vl fr tl x v d) n)) (by omega) (by omega) (by omega) (by omega) (hba) (hT0) (hrel) (hce)) gX9_child_X9_bargainsSaid rfl hv_X9_bargainsSaid ⟨Nat.le_of_ble_eq_true rfl, Nat.le_of_ble_eq_true rfl⟩ (va_recv hK hP (ci := 9) (q0 := 0) rfl rfl) hP hl.1 rfl (Nat.le_of_ble_eq_true rfl) ⟨by decide, by decide⟩ rfl dX9_child_121) (fun r_121 h_121 => ?_)
                    have h121r := h_121.2
                    refine lv_istore (lv' := [(14, .int (jI (r_121))), (13, .int (jI (num))), (11, .int (jI (best))), (12, .int (jI (most))), (0, .ref (ac 0)), (1, .int (jI (v))), (2, .int (jI (d))), (3, .int (jI (w))), (4, .int (jI (k))), (5, .int (jI (lane))), (6, .int (jI (i))), (7, .int (jI (cn))), (8, .int (jI (what)))]) S.1 S.2.1 dX9_child_124 hl (by decide) rfl (fun ls hl => ?_)
                    refine lv_iload S.1 S.2.1 dX9_child_126 (lv_at hl 0 rfl) ?_
                    refine lv_iload S.1 S.2.1 dX9_child_128 (lv_at hl 3 rfl) ?_
                    refine z_icmp_le (tgt := 141) S dX9_child_130 (by decide) (by omega) (fun c_130 => ?_) (fun c_130 => ?_)
                    · skip
                      refine z_iinc (lv' := [(13, .int (jI (num + 1))), (14, .int (jI (r_121))), (11, .int (jI (best))), (12, .int (jI (most))), (0, .ref (ac 0)), (1, .int (jI (v))), (2, .int (jI (d))), (3, .int (jI (w))), (4, .int (jI (k))), (5, .int (jI (lane))), (6, .int (jI (i))), (7, .int (jI (cn))), (8, .int (jI (what)))]) S hl (k := 1) rfl (by decide) rfl dX9_child_141 (fun ls hl => ?_)
                      refine z_goto (tgt := 104) S dX9_child_144 (by decide) ?_
                      exact ih_15 (num + 1) best most (by omega) (by omega) (by omega) (by first | exact zArgK_keep hAr ⟨h_121.1, by omega⟩ (by omega) | exact zArgK_new hAr (by omega) ⟨h_121.1, by omega⟩ (by omega)) _ _ hP hD hS ls (lv_sub hl [0, 2, 3, 4, 5, 6, 7, 8, 9, 10, 11, 12] rfl)
                    · skip
                      refine lv_iload S.1 S.2.1 dX9_child_133 (lv_at hl 0 rfl) ?_
                      refine lv_istore (lv' := [(12, .int (jI (r_121))), (14, .int (jI (r_121))), (13, .int (jI (num))), (11, .int (jI (best))), (0, .ref (ac 0)), (1, .int (jI (v))), (2, .int (jI (d))), (3, .int (jI (w))), (4, .int (jI (k))), (5, .int (jI (lane))), (6, .int (jI (i))), (7, .int (jI (cn))), (8, .int (jI (what)))]) S.1 S.2.1 dX9_child_135 hl (by decide) rfl (fun ls hl => ?_)
                      refine lv_iload S.1 S.2.1 dX9_child_137 (lv_at hl 2 rfl) ?_
                      refine lv_istore (lv' := [(11, .int (jI (num))), (12, .int (jI (r_121))), (14, .int (jI (r_121))), (13, .int (jI (num))), (0, .ref (ac 0)), (1, .int (jI (v))), (2, .int (jI (d))), (3, .int (jI (w))), (4, .int (jI (k))), (5, .int (jI (lane))), (6, .int (jI (i))), (7, .int (jI (cn))), (8, .int (jI (what)))]) S.1 S.2.1 dX9_child_139 hl (by decide) rfl (fun ls hl => ?_)
                      refine z_iinc (lv' := [(13, .int (jI (num + 1))), (11, .int (jI (num))), (12, .int (jI (r_121))), (14, .int (jI (r_121))), (0, .ref (ac 0)), (1, .int (jI (v))), (2, .int (jI (d))), (3, .int (jI (w))), (4, .int (jI (k))), (5, .int (jI (lane))), (6, .int (jI (i))), (7, .int (jI (cn))), (8, .int (jI (what)))]) S hl (k := 3) rfl (by decide) rfl dX9_child_141 (fun ls hl => ?_)
                      refine z_goto (tgt := 104) S dX9_child_144 (by decide) ?_
                      exact ih_15 (num + 1) num r_121 (by omega) (by omega) (by omega) (by first | exact zArgK_keep hAr ⟨h_121.1, by omega⟩ (by omega) | exact zArgK_new hAr (by omega) ⟨h_121.1, by omega⟩ (by omega)) _ _ hP hD hS ls (lv_sub hl [0, 1, 2, 4, 5, 6, 7, 8, 9, 10, 11, 12] rfl)
              · skip
                refine z_bipush S (by decide +kernel) dX9_child_77 ?_
                exact hQ (-2) ((u44_flt, fw)) _ _ (Or.inr ⟨okA, _, _, zBar_cong okB (iff_of_true (by omega) (by omega)), Or.inr ⟨rfl, okC.1, Or.inl ⟨by first | exact Or.inl (by omega) | exact Or.inr (zB_f h_71 (by omega)), rfl⟩⟩⟩) hP hD hS _ _ dX9_child_79
          · skip
            refine lv_iload S.1 S.2.1 dX9_child_54 (lv_at hl 0 rfl) ?_
            exact hQ (r_44) ((u44_flt, fw)) _ _ (h_44.elim (fun q => Or.inl q) (fun q => Or.inr ⟨q.1, _, _, zBar_cong q.2 (by omega), Or.inl ⟨by omega, rfl, rfl⟩⟩)) hP hD hS _ _ dX9_child_56
