theorem i_X10_layCan_10 : ∀ w ∈ u_ws RX10 TX10 22, w ∈ wsX10_layCan := fun w h => List.mem_cons_of_mem _ (List.mem_append_right _ h)
theorem q_X10_layCan_2 : Cond.fieldLink RX10 93 "LivingNumbersModel" "people" "I" ∈ wsX10_layCan := List.mem_of_getElem? (i := 2) rfl
theorem q_X10_layCan_1 : Cond.fieldLink RX10 40 "LivingNumbersModel" "can" "[Z" ∈ wsX10_layCan := List.mem_of_getElem? (i := 1) rfl
theorem q_X10_layCan_3 : Cond.fieldLink RX10 16 "LivingNumbersModel" "numberOf" "[I" ∈ wsX10_layCan := List.mem_of_getElem? (i := 3) rfl
theorem i_X10_layFewest_10 : ∀ w ∈ u_ws RX10 TX10 22, w ∈ wsX10_layFewest := fun w h => List.mem_cons_of_mem _ (List.mem_append_right _ h)
theorem q_X10_layFewest_1 : Cond.fieldLink RX10 44 "LivingNumbersModel" "fewest" "[I" ∈ wsX10_layFewest := List.mem_of_getElem? (i := 1) rfl
theorem hs_X10_lesser : yX10_lesser.cls ≠ "java/lang/invoke/MethodHandle" ∧ yX10_lesser.cls ≠ "java/lang/invoke/VarHandle" ∧ (parseMethodDescriptor yX10_lesser.desc).map (fun d => d.parameters.length) = some 2 := by decide +kernel
theorem q_X10_layFewest_2 : Cond.fieldLink RX10 40 "LivingNumbersModel" "can" "[Z" ∈ wsX10_layFewest := List.mem_of_getElem? (i := 2) rfl
theorem hv_X10_layCan : yX10_layCan.cls = RX10 ∧ yX10_layCan.cls ≠ "java/lang/invoke/MethodHandle" ∧ yX10_layCan.cls ≠ "java/lang/invoke/VarHandle" ∧ (parseMethodDescriptor yX10_layCan.desc).map (fun d => d.parameters.length) = some 3 := by decide +kernel
theorem hv_X10_layFewest : yX10_layFewest.cls = RX10 ∧ yX10_layFewest.cls ≠ "java/lang/invoke/MethodHandle" ∧ yX10_layFewest.cls ≠ "java/lang/invoke/VarHandle" ∧ (parseMethodDescriptor yX10_layFewest.desc).map (fun d => d.parameters.length) = some 1 := by decide +kernel
theorem i_X10_saidOf_10 : ∀ w ∈ u_ws RX10 TX10 22, w ∈ wsX10_saidOf := fun w h => List.mem_cons_of_mem _ (List.mem_append_right _ h)
theorem q_X10_saidOf_1 : Cond.fieldLink RX10 44 "LivingNumbersModel" "fewest" "[I" ∈ wsX10_saidOf := List.mem_of_getElem? (i := 1) rfl
set_option maxHeartbeats 1000000 in
set_option maxRecDepth 20000 in
theorem c_X10_layCan (l : Launch) (E : zE) (ad : Nat → Nat) (flt ppl : Int) (kd vl nb fr tl : Int → Int) (rA rP : Int) (rk rv rn rf rt can fw fs ss sl sh hd : Int → Int) (tr : Int) (v : Int) (d : Int) (wo : Int) (h_v : -2147483648 ≤ v ∧ v ≤ 2147483647) (h_d : -2147483648 ≤ d ∧ d ≤ 2147483647) (h_wo : -2147483648 ≤ wo ∧ wo ≤ 2147483647) (hp : 0 ≤ ppl ∧ ppl ≤ 10) (hpe : zPeo ppl kd vl nb fr tl) : zMv l E yX10_layCan wsX10_layCan (zr 2 0 0) [.ref (ad 0), .int (jI (v)), .int (jI (d)), .int (jI (wo))] (mW E ad flt ppl kd vl nb fr tl rA rP rk rv rn rf rt can fw fs ss sl sh hd tr) (fun _ => True) (fun (u : Int → Int) => zSet u (zCanW nb (fun x => zlive kd vl fr tl x v d) wo ppl)) (fun (u : Int → Int) => mW E ad flt ppl kd vl nb fr tl rA rP rk rv rn rf rt u fw fs ss sl sh hd tr) 0 0 := by
  refine zMv_of (own := RX10) (cc := cX10_layCan) (maxL := 5) (by decide) rfl (Nat.le_of_ble_eq_true rfl) rfl ?_
  intro p e s m args below meth c Q A S hK hini hA hS hP hD hAe hG hQ ls hl
  have hl : lv_has ls 5 [(0, .ref (ad 0)), (1, .int (jI (v))), (2, .int (jI (d))), (3, .int (jI (wo)))] := hl
  refine z_iconst S dX10_layCan_0 ?_
  refine lv_istore (lv' := [(4, .int (jI (0))), (0, .ref (ad 0)), (1, .int (jI (v))), (2, .int (jI (d))), (3, .int (jI (wo)))]) S.1 S.2.1 dX10_layCan_1 hl (by decide) rfl (fun ls hl => ?_)
  suffices HL_1 : ∀ (n_2 : Nat) (i : Int) (g : Int → Int), (100 - i).toNat < n_2 → (0 ≤ i ∧ i ≤ 100) → (∀ y, 0 ≤ y → y < i → g y = 0) → ∀ (H : Heap) (locs : List Loc), zP E (mW E ad flt ppl kd vl nb fr tl rA rP rk rv rn rf rt g fw fs ss sl sh hd tr) H → va_D A (mW E ad flt ppl kd vl nb fr tl rA rP rk rv rn rf rt g fw fs ss sl sh hd tr) → va_S A s.heap H locs → ∀ (ls : Array Slot), lv_has ls 5 [(4, .int (jI (i))), (0, .ref (ad 0)), (1, .int (jI (v))), (2, .int (jI (d))), (3, .int (jI (wo)))] → W p l e (zr 2 0 0) s m args below meth c H locs 0 0 Q (F0 m 3 ls []) from
    HL_1 _ 0 can (Nat.lt_succ_self _) (by omega) (zall_0) _ _ hP hD hS ls (lv_sub hl [0, 1, 2, 3, 4] rfl)
  intro n_2
  induction n_2 with
  | zero => intro i g hm hi h0; exact absurd hm (Nat.not_lt_zero _)
  | succ n_2 ih_3 =>
    intro i g hm hi h0 H locs hP hD hS ls hl
    refine lv_iload S.1 S.2.1 dX10_layCan_3 (lv_at hl 0 rfl) ?_
    refine z_bipush S (by decide +kernel) dX10_layCan_5 ?_
    refine z_icmp_ge (tgt := 24) S dX10_layCan_7 (by decide) (by omega) (fun c_7 => ?_) (fun c_7 => ?_)
    · skip
      refine z_iconst S dX10_layCan_24 ?_
      refine lv_istore (lv' := [(4, .int (jI (0))), (0, .ref (ad 0)), (1, .int (jI (v))), (2, .int (jI (d))), (3, .int (jI (wo)))]) S.1 S.2.1 dX10_layCan_25 hl (by decide) rfl (fun ls hl => ?_)
      suffices HL_4 : ∀ (n_5 : Nat) (x : Int) (g2 : Int → Int), (ppl - x).toNat < n_5 → (0 ≤ x ∧ x ≤ ppl) → (zSet g2 (zCanW nb (fun x => zlive kd vl fr tl x v d) wo x)) → ∀ (H : Heap) (locs : List Loc), zP E (mW E ad flt ppl kd vl nb fr tl rA rP rk rv rn rf rt g2 fw fs ss sl sh hd tr) H → va_D A (mW E ad flt ppl kd vl nb fr tl rA rP rk rv rn rf rt g2 fw fs ss sl sh hd tr) → va_S A s.heap H locs → ∀ (ls : Array Slot), lv_has ls 5 [(4, .int (jI (x))), (0, .ref (ad 0)), (1, .int (jI (v))), (2, .int (jI (d))), (3, .int (jI (wo)))] → W p l e (zr 2 0 0) s m args below meth c H locs 0 0 Q (F0 m 27 ls []) from
        HL_4 _ 0 g (Nat.lt_succ_self _) (by omega) (zSet_0 (fun y q1 q2 => h0 y q1 (by omega))) _ _ hP hD hS ls (lv_sub hl [0, 1, 2, 3, 4] rfl)
      intro n_5
      induction n_5 with
      | zero => intro x g2 hm hx hs; exact absurd hm (Nat.not_lt_zero _)
      | succ n_5 ih_6 =>
        intro x g2 hm hx hs H locs hP hD hS ls hl
        refine lv_iload S.1 S.2.1 dX10_layCan_27 (lv_at hl 0 rfl) ?_
        refine lv_aload_n S.1 S.2.1 dX10_layCan_29 rfl (lv_at hl 1 rfl) ?_
        refine z_get S hK hP 0 rfl rfl 1 (by decide) i_X10_layCan_10 q_X10_layCan_2 rfl dX10_layCan_30 ?_
        refine z_icmp_ge (tgt := 72) S dX10_layCan_33 (by decide) (by omega) (fun c_33 => ?_) (fun c_33 => ?_)
        · skip
          exact hQ (g2) _ _ (by rw [show ppl = x by omega]; exact hs) hP hD hS _ _ dX10_layCan_72
        · skip
          have hx2 := hpe x (by omega) (by omega)
          refine lv_iload S.1 S.2.1 dX10_layCan_36 (lv_at hl 0 rfl) ?_
          refine lv_iload_n S.1 S.2.1 dX10_layCan_38 rfl (lv_at hl 4 rfl) ?_
          refine z_icmp_eq (tgt := 66) S dX10_layCan_39 (by decide) (by omega) (fun c_39 => ?_) (fun c_39 => ?_)
          · skip
            refine z_iinc (lv' := [(4, .int (jI (x + 1))), (0, .ref (ad 0)), (1, .int (jI (v))), (2, .int (jI (d))), (3, .int (jI (wo)))]) S hl (k := 0) rfl (by decide) rfl dX10_layCan_66 (fun ls hl => ?_)
            refine z_goto (tgt := 27) S dX10_layCan_69 (by decide) ?_
            exact ih_6 (x + 1) g2 (by omega) (by omega) (by first | exact zSet_no hs (Or.inl c_39) | exact zSet_no hs (Or.inr (zB_f h_47 (by omega))) | exact zSet_yes hs (by omega) (by omega) (zB_t h_47 (by omega))) _ _ hP hD hS ls (lv_sub hl [0, 1, 2, 3, 4] rfl)
          · skip
            refine lv_aload_n S.1 S.2.1 dX10_layCan_42 rfl (lv_at hl 1 rfl) ?_
            refine lv_iload S.1 S.2.1 dX10_layCan_43 (lv_at hl 0 rfl) ?_
            refine lv_iload_n S.1 S.2.1 dX10_layCan_45 rfl (lv_at hl 2 rfl) ?_
            refine lv_iload_n S.1 S.2.1 dX10_layCan_46 rfl (lv_at hl 3 rfl) ?_
            refine z_ri (z_rV S hK (c_X10_doesLive l E ad flt ppl kd vl nb fr tl rA rP rk rv rn rf rt g2 fw fs ss sl sh hd tr x v d (by omega) (by omega) (by omega) (by omega) (hpe)) gX10_layCan_X10_doesLive rfl hv_X10_doesLive ⟨Nat.le_of_ble_eq_true rfl, Nat.le_of_ble_eq_true rfl⟩ (va_recv hK hP (ci := 10) (q0 := 0) rfl rfl) hP hl.1 rfl (Nat.le_of_ble_eq_true rfl) ⟨by decide, by decide⟩ rfl dX10_layCan_47) (fun r_47 h_47 => ?_)
            refine z_if_eq (tgt := 66) S dX10_layCan_50 (by decide) (by omega) (fun c_50 => ?_) (fun c_50 => ?_)
            · skip
              refine z_iinc (lv' := [(4, .int (jI (x + 1))), (0, .ref (ad 0)), (1, .int (jI (v))), (2, .int (jI (d))), (3, .int (jI (wo)))]) S hl (k := 0) rfl (by decide) rfl dX10_layCan_66 (fun ls hl => ?_)
              refine z_goto (tgt := 27) S dX10_layCan_69 (by decide) ?_
              exact ih_6 (x + 1) g2 (by omega) (by omega) (by first | exact zSet_no hs (Or.inl c_39) | exact zSet_no hs (Or.inr (zB_f h_47 (by omega))) | exact zSet_yes hs (by omega) (by omega) (zB_t h_47 (by omega))) _ _ hP hD hS ls (lv_sub hl [0, 1, 2, 3, 4] rfl)
            · skip
              refine lv_aload_n S.1 S.2.1 dX10_layCan_53 rfl (lv_at hl 1 rfl) ?_
              refine z_get S hK hP 0 rfl rfl 14 (by decide) i_X10_layCan_10 q_X10_layCan_1 rfl dX10_layCan_54 ?_
              refine lv_aload_n S.1 S.2.1 dX10_layCan_57 rfl (lv_at hl 1 rfl) ?_
              refine z_get S hK hP 0 rfl rfl 4 (by decide) i_X10_layCan_10 q_X10_layCan_3 rfl dX10_layCan_58 ?_
              refine lv_iload S.1 S.2.1 dX10_layCan_61 (lv_at hl 0 rfl) ?_
              refine z_iald S hK hP 3 rfl (by omega) dX10_layCan_63 ?_
              refine z_iconst S dX10_layCan_64 ?_
              refine z_zast S hK hP hD hS 11 rfl (by omega) (by omega) dX10_layCan_65 (fun H locs hP hD hS => ?_)
              have hP : zP E (mW E ad flt ppl kd vl nb fr tl rA rP rk rv rn rf rt (zu g2 (nb (x)) 1) fw fs ss sl sh hd tr) H := hP
              have hD : va_D A (mW E ad flt ppl kd vl nb fr tl rA rP rk rv rn rf rt (zu g2 (nb (x)) 1) fw fs ss sl sh hd tr) := hD
              refine z_iinc (lv' := [(4, .int (jI (x + 1))), (0, .ref (ad 0)), (1, .int (jI (v))), (2, .int (jI (d))), (3, .int (jI (wo)))]) S hl (k := 0) rfl (by decide) rfl dX10_layCan_66 (fun ls hl => ?_)
              refine z_goto (tgt := 27) S dX10_layCan_69 (by decide) ?_
              exact ih_6 (x + 1) (zu g2 (nb (x)) 1) (by omega) (by omega) (by first | exact zSet_no hs (Or.inl c_39) | exact zSet_no hs (Or.inr (zB_f h_47 (by omega))) | exact zSet_yes hs (by omega) (by omega) (zB_t h_47 (by omega))) _ _ hP hD hS ls (lv_sub hl [0, 1, 2, 3, 4] rfl)
    · skip
      refine lv_aload_n S.1 S.2.1 dX10_layCan_10 rfl (lv_at hl 1 rfl) ?_
      refine z_get S hK hP 0 rfl rfl 14 (by decide) i_X10_layCan_10 q_X10_layCan_1 rfl dX10_layCan_11 ?_
      refine lv_iload S.1 S.2.1 dX10_layCan_14 (lv_at hl 0 rfl) ?_
      refine z_iconst S dX10_layCan_16 ?_
      refine z_zast S hK hP hD hS 11 rfl (by omega) (by omega) dX10_layCan_17 (fun H locs hP hD hS => ?_)
      have hP : zP E (mW E ad flt ppl kd vl nb fr tl rA rP rk rv rn rf rt (zu g i 0) fw fs ss sl sh hd tr) H := hP
      have hD : va_D A (mW E ad flt ppl kd vl nb fr tl rA rP rk rv rn rf rt (zu g i 0) fw fs ss sl sh hd tr) := hD
      refine z_iinc (lv' := [(4, .int (jI (i + 1))), (0, .ref (ad 0)), (1, .int (jI (v))), (2, .int (jI (d))), (3, .int (jI (wo)))]) S hl (k := 0) rfl (by decide) rfl dX10_layCan_18 (fun ls hl => ?_)
      refine z_goto (tgt := 3) S dX10_layCan_21 (by decide) ?_
      exact ih_3 (i + 1) (zu g i 0) (by omega) (by omega) (zall_step (fun y q1 q2 => by rw [zu_n (by omega)]; exact h0 y q1 q2) zu_s) _ _ hP hD hS ls (lv_sub hl [0, 1, 2, 3, 4] rfl)

set_option maxHeartbeats 1000000 in
set_option maxRecDepth 20000 in
theorem c_X10_layFewest (l : Launch) (E : zE) (ad : Nat → Nat) (flt ppl : Int) (kd vl nb fr tl : Int → Int) (rA rP : Int) (rk rv rn rf rt can fw fs ss sl sh hd : Int → Int) (tr : Int) (most : Int) (hm0 : 0 ≤ most ∧ most ≤ 999) (h01 : ∀ a, 0 ≤ a → a ≤ 99 → can a = 0 ∨ can a = 1) : zMv l E yX10_layFewest wsX10_layFewest (zr 2 0 0) [.ref (ad 0), .int (jI (most))] (mW E ad flt ppl kd vl nb fr tl rA rP rk rv rn rf rt can fw fs ss sl sh hd tr) (fun _ => True) (fun (u : Int → Int) => zTab (fun a => can a = 1) u most 5000) (fun (u : Int → Int) => mW E ad flt ppl kd vl nb fr tl rA rP rk rv rn rf rt can u fs ss sl sh hd tr) 0 0 := by
  refine zMv_of (own := RX10) (cc := cX10_layFewest) (maxL := 4) (by decide) rfl (Nat.le_of_ble_eq_true rfl) rfl ?_
  intro p e s m args below meth c Q A S hK hini hA hS hP hD hAe hG hQ ls hl
  have hl : lv_has ls 4 [(0, .ref (ad 0)), (1, .int (jI (most)))] := hl
  refine lv_aload_n S.1 S.2.1 dX10_layFewest_0 rfl (lv_at hl 0 rfl) ?_
  refine z_get S hK hP 0 rfl rfl 15 (by decide) i_X10_layFewest_10 q_X10_layFewest_1 rfl dX10_layFewest_1 ?_
  refine z_iconst S dX10_layFewest_4 ?_
  refine z_iconst S dX10_layFewest_5 ?_
  refine z_iast S hK hP hD hS 12 rfl (by omega) dX10_layFewest_6 (fun H locs hP hD hS => ?_)
  have hP : zP E (mW E ad flt ppl kd vl nb fr tl rA rP rk rv rn rf rt can (zu fw 0 0) fs ss sl sh hd tr) H := hP
  have hD : va_D A (mW E ad flt ppl kd vl nb fr tl rA rP rk rv rn rf rt can (zu fw 0 0) fs ss sl sh hd tr) := hD
  refine z_iconst S dX10_layFewest_7 ?_
  refine lv_istore_n (lv' := [(2, .int (jI (1))), (0, .ref (ad 0)), (1, .int (jI (most)))]) S.1 S.2.1 dX10_layFewest_8 rfl hl (by decide) rfl (fun ls hl => ?_)
  suffices HL_1 : ∀ (n_2 : Nat) (q : Int) (f : Int → Int), (most + 1 - q).toNat < n_2 → (1 ≤ q ∧ q ≤ most + 1) → (zTab (fun a => can a = 1) f (q - 1) 5000) → ∀ (H : Heap) (locs : List Loc), zP E (mW E ad flt ppl kd vl nb fr tl rA rP rk rv rn rf rt can f fs ss sl sh hd tr) H → va_D A (mW E ad flt ppl kd vl nb fr tl rA rP rk rv rn rf rt can f fs ss sl sh hd tr) → va_S A s.heap H locs → ∀ (ls : Array Slot), lv_has ls 4 [(2, .int (jI (q))), (0, .ref (ad 0)), (1, .int (jI (most)))] → W p l e (zr 2 0 0) s m args below meth c H locs 0 0 Q (F0 m 9 ls []) from
    HL_1 _ 1 (zu fw 0 0) (Nat.lt_succ_self _) (by omega) (zTab_0 zu_s) _ _ hP hD hS ls (lv_sub hl [0, 1, 2] rfl)
  intro n_2
  induction n_2 with
  | zero => intro q f hm hq hT; exact absurd hm (Nat.not_lt_zero _)
  | succ n_2 ih_3 =>
    intro q f hm hq hT H locs hP hD hS ls hl
    refine lv_iload_n S.1 S.2.1 dX10_layFewest_9 rfl (lv_at hl 0 rfl) ?_
    refine lv_iload_n S.1 S.2.1 dX10_layFewest_10 rfl (lv_at hl 2 rfl) ?_
    refine z_icmp_gt (tgt := 81) S dX10_layFewest_11 (by decide) (by omega) (fun c_11 => ?_) (fun c_11 => ?_)
    · skip
      exact hQ (f) _ _ (by rw [show most = q - 1 by omega]; exact hT) hP hD hS _ _ dX10_layFewest_81
    · skip
      refine lv_aload_n S.1 S.2.1 dX10_layFewest_14 rfl (lv_at hl 1 rfl) ?_
      refine z_get S hK hP 0 rfl rfl 15 (by decide) i_X10_layFewest_10 q_X10_layFewest_1 rfl dX10_layFewest_15 ?_
      refine lv_iload_n S.1 S.2.1 dX10_layFewest_18 rfl (lv_at hl 0 rfl) ?_
      refine z_sipush S (by decide +kernel) dX10_layFewest_19 ?_
      refine z_iast S hK hP hD hS 12 rfl (by omega) dX10_layFewest_22 (fun H locs hP hD hS => ?_)
      have hP : zP E (mW E ad flt ppl kd vl nb fr tl rA rP rk rv rn rf rt can (zu f q 5000) fs ss sl sh hd tr) H := hP
      have hD : va_D A (mW E ad flt ppl kd vl nb fr tl rA rP rk rv rn rf rt can (zu f q 5000) fs ss sl sh hd tr) := hD
      refine z_iconst S dX10_layFewest_23 ?_
      refine lv_istore_n (lv' := [(3, .int (jI (1))), (2, .int (jI (q))), (0, .ref (ad 0)), (1, .int (jI (most)))]) S.1 S.2.1 dX10_layFewest_24 rfl hl (by decide) rfl (fun ls hl => ?_)
      suffices HL_4 : ∀ (n_5 : Nat) (a : Int) (f2 : Int → Int), (100 - a).toNat < n_5 → (1 ≤ a ∧ a ≤ 100 ∧ a ≤ q + 1) → (zTab (fun a => can a = 1) f2 (q - 1) 5000) → (zInner (fun a => can a = 1) q a (f2 q) 5000) → (0 ≤ f2 q ∧ f2 q ≤ 5000) → ∀ (H : Heap) (locs : List Loc), zP E (mW E ad flt ppl kd vl nb fr tl rA rP rk rv rn rf rt can f2 fs ss sl sh hd tr) H → va_D A (mW E ad flt ppl kd vl nb fr tl rA rP rk rv rn rf rt can f2 fs ss sl sh hd tr) → va_S A s.heap H locs → ∀ (ls : Array Slot), lv_has ls 4 [(3, .int (jI (a))), (2, .int (jI (q))), (0, .ref (ad 0)), (1, .int (jI (most)))] → W p l e (zr 2 0 0) s m args below meth c H locs 0 0 Q (F0 m 25 ls []) from
        HL_4 _ 1 (zu f q 5000) (Nat.lt_succ_self _) (by omega) (zTab_upd hT (by omega)) (by rw [zu_s]; exact zInner_1) (by rw [zu_s]; omega) _ _ hP hD hS ls (lv_sub hl [0, 1, 2, 3] rfl)
      intro n_5
      induction n_5 with
      | zero => intro a f2 hm ha hT2 hI hv; exact absurd hm (Nat.not_lt_zero _)
      | succ n_5 ih_6 =>
        intro a f2 hm ha hT2 hI hv H locs hP hD hS ls hl
        refine lv_iload_n S.1 S.2.1 dX10_layFewest_25 rfl (lv_at hl 0 rfl) ?_
        refine lv_iload_n S.1 S.2.1 dX10_layFewest_26 rfl (lv_at hl 1 rfl) ?_
        refine z_bipush S (by decide +kernel) dX10_layFewest_27 ?_
        refine z_ri (z_rS S hK (c_X10_lesser l E q 99 (by omega) (by omega)) gX10_layFewest_X10_lesser rfl hs_X10_lesser ⟨Nat.le_of_ble_eq_true rfl, Nat.le_of_ble_eq_true rfl⟩ trivial hl.1 rfl (Nat.le_of_ble_eq_true rfl) ⟨by decide, by decide⟩ rfl dX10_layFewest_29) (fun r_29 h_29 => ?_)
        refine z_icmp_gt (tgt := 75) S dX10_layFewest_32 (by decide) (by omega) (fun c_32 => ?_) (fun c_32 => ?_)
        · skip
          refine z_iinc (lv' := [(2, .int (jI (q + 1))), (3, .int (jI (a))), (0, .ref (ad 0)), (1, .int (jI (most)))]) S hl (k := 1) rfl (by decide) rfl dX10_layFewest_75 (fun ls hl => ?_)
          refine z_goto (tgt := 9) S dX10_layFewest_78 (by decide) ?_
          exact ih_3 (q + 1) f2 (by omega) (by omega) (by rw [show q + 1 - 1 = q by omega]; exact zTab_next hT2 hI (by omega) (by omega)) _ _ hP hD hS ls (lv_sub hl [0, 2, 3] rfl)
        · skip
          have hc01 := h01 a (by omega) (by omega)
          refine lv_aload_n S.1 S.2.1 dX10_layFewest_35 rfl (lv_at hl 2 rfl) ?_
          refine z_get S hK hP 0 rfl rfl 14 (by decide) i_X10_layFewest_10 q_X10_layFewest_2 rfl dX10_layFewest_36 ?_
          refine lv_iload_n S.1 S.2.1 dX10_layFewest_39 rfl (lv_at hl 0 rfl) ?_
          refine z_zald S hK hP 11 rfl (by omega) dX10_layFewest_40 ?_
          refine z_if_eq (tgt := 69) S dX10_layFewest_41 (by decide) (by omega) (fun c_41 => ?_) (fun c_41 => ?_)
          · skip
            refine z_iinc (lv' := [(3, .int (jI (a + 1))), (2, .int (jI (q))), (0, .ref (ad 0)), (1, .int (jI (most)))]) S hl (k := 0) rfl (by decide) rfl dX10_layFewest_69 (fun ls hl => ?_)
            refine z_goto (tgt := 25) S dX10_layFewest_72 (by decide) ?_
            exact ih_6 (a + 1) f2 (by omega) (by omega) (by first | exact hT2 | exact zTab_upd hT2 (by omega)) (by first | exact zInner_no hI (by omega) | (rw [zu_s]; exact zInner_yes hI hT2 (by omega) (by omega) (by omega))) (by first | exact hv | (rw [zu_s]; omega)) _ _ hP hD hS ls (lv_sub hl [0, 1, 2, 3] rfl)
          · skip
            have hr2 := zTab_rng hT2 (q := q - a) (by omega) (by omega)
            refine lv_aload_n S.1 S.2.1 dX10_layFewest_44 rfl (lv_at hl 2 rfl) ?_
            refine z_get S hK hP 0 rfl rfl 15 (by decide) i_X10_layFewest_10 q_X10_layFewest_1 rfl dX10_layFewest_45 ?_
            refine lv_iload_n S.1 S.2.1 dX10_layFewest_48 rfl (lv_at hl 1 rfl) ?_
            refine lv_aload_n S.1 S.2.1 dX10_layFewest_49 rfl (lv_at hl 2 rfl) ?_
            refine z_get S hK hP 0 rfl rfl 15 (by decide) i_X10_layFewest_10 q_X10_layFewest_1 rfl dX10_layFewest_50 ?_
            refine lv_iload_n S.1 S.2.1 dX10_layFewest_53 rfl (lv_at hl 1 rfl) ?_
            refine z_iald S hK hP 12 rfl (by omega) dX10_layFewest_54 ?_
            refine lv_aload_n S.1 S.2.1 dX10_layFewest_55 rfl (lv_at hl 2 rfl) ?_
            refine z_get S hK hP 0 rfl rfl 15 (by decide) i_X10_layFewest_10 q_X10_layFewest_1 rfl dX10_layFewest_56 ?_
            refine lv_iload_n S.1 S.2.1 dX10_layFewest_59 rfl (lv_at hl 1 rfl) ?_
            refine lv_iload_n S.1 S.2.1 dX10_layFewest_60 rfl (lv_at hl 0 rfl) ?_
            refine z_isub S dX10_layFewest_61 ?_
            refine z_iald S hK hP 12 rfl (by omega) dX10_layFewest_62 ?_
            refine z_iconst S dX10_layFewest_63 ?_
            refine z_iadd S dX10_layFewest_64 ?_
            refine z_ri (z_rS S hK (c_X10_lesser l E (f2 (q)) ((f2 (q - a)) + 1) (by omega) (by omega)) gX10_layFewest_X10_lesser rfl hs_X10_lesser ⟨Nat.le_of_ble_eq_true rfl, Nat.le_of_ble_eq_true rfl⟩ trivial hl.1 rfl (Nat.le_of_ble_eq_true rfl) ⟨by decide, by decide⟩ rfl dX10_layFewest_65) (fun r_65 h_65 => ?_)
            refine z_iast S hK hP hD hS 12 rfl (by omega) dX10_layFewest_68 (fun H locs hP hD hS => ?_)
            have hP : zP E (mW E ad flt ppl kd vl nb fr tl rA rP rk rv rn rf rt can (zu f2 q r_65) fs ss sl sh hd tr) H := hP
            have hD : va_D A (mW E ad flt ppl kd vl nb fr tl rA rP rk rv rn rf rt can (zu f2 q r_65) fs ss sl sh hd tr) := hD
            refine z_iinc (lv' := [(3, .int (jI (a + 1))), (2, .int (jI (q))), (0, .ref (ad 0)), (1, .int (jI (most)))]) S hl (k := 0) rfl (by decide) rfl dX10_layFewest_69 (fun ls hl => ?_)
            refine z_goto (tgt := 25) S dX10_layFewest_72 (by decide) ?_
            exact ih_6 (a + 1) (zu f2 q r_65) (by omega) (by omega) (by first | exact hT2 | exact zTab_upd hT2 (by omega)) (by first | exact zInner_no hI (by omega) | (rw [zu_s]; exact zInner_yes hI hT2 (by omega) (by omega) (by omega))) (by first | exact hv | (rw [zu_s]; omega)) _ _ hP hD hS ls (lv_sub hl [0, 1, 2, 3] rfl)

set_option maxHeartbeats 1000000 in
set_option maxRecDepth 20000 in
theorem c_X10_laySaid (l : Launch) (E : zE) (ad : Nat → Nat) (flt ppl : Int) (kd vl nb fr tl : Int → Int) (rA rP : Int) (rk rv rn rf rt can fw fs ss sl sh hd : Int → Int) (tr : Int) (v : Int) (d : Int) (most : Int) (h_v : -2147483648 ≤ v ∧ v ≤ 2147483647) (h_d : -2147483648 ≤ d ∧ d ≤ 2147483647) (hm0 : 0 ≤ most ∧ most ≤ 999) (hp : 0 ≤ ppl ∧ ppl ≤ 10) (hpe : zPeo ppl kd vl nb fr tl) : zMv l E yX10_laySaid wsX10_laySaid (zr 3 0 0) [.ref (ad 0), .int (jI (v)), .int (jI (d)), .int (jI (most))] (mW E ad flt ppl kd vl nb fr tl rA rP rk rv rn rf rt can fw fs ss sl sh hd tr) (fun _ => True) (fun (u : (Int → Int) × (Int → Int)) => zSet u.1 (zCan nb (fun x => zlive kd vl fr tl x v d) ppl) ∧ zTab (zCan nb (fun x => zlive kd vl fr tl x v d) ppl) u.2 most 5000) (fun (u : (Int → Int) × (Int → Int)) => mW E ad flt ppl kd vl nb fr tl rA rP rk rv rn rf rt u.1 u.2 fs ss sl sh hd tr) 0 0 := by
  refine zMv_of (own := RX10) (cc := cX10_laySaid) (maxL := 4) (by decide) rfl (Nat.le_of_ble_eq_true rfl) rfl ?_
  intro p e s m args below meth c Q A S hK hini hA hS hP hD hAe hG hQ ls hl
  have hl : lv_has ls 4 [(0, .ref (ad 0)), (1, .int (jI (v))), (2, .int (jI (d))), (3, .int (jI (most)))] := hl
  refine lv_aload_n S.1 S.2.1 dX10_laySaid_0 rfl (lv_at hl 0 rfl) ?_
  refine lv_iload_n S.1 S.2.1 dX10_laySaid_1 rfl (lv_at hl 1 rfl) ?_
  refine lv_iload_n S.1 S.2.1 dX10_laySaid_2 rfl (lv_at hl 2 rfl) ?_
  refine z_bipush S (by decide +kernel) dX10_laySaid_3 ?_
  refine z_mvw (z_mV S hK (c_X10_layCan l E ad flt ppl kd vl nb fr tl rA rP rk rv rn rf rt can fw fs ss sl sh hd tr v d (-9) (by omega) (by omega) (by omega) (by omega) (hpe) _) gX10_laySaid_X10_layCan rfl hv_X10_layCan ⟨Nat.le_of_ble_eq_true rfl, Nat.le_of_ble_eq_true rfl⟩ (va_recv hK hP (ci := 10) (q0 := 0) rfl rfl) hP hD trivial hl.1 rfl (Nat.le_of_ble_eq_true rfl) ⟨by decide, by decide⟩ rfl dX10_laySaid_5) hD hS hA (fun u H locs h_5 hP hD hS => ?_)
  obtain ⟨u5_can, u5_can_e⟩ : ∃ z, z = u := ⟨_, rfl⟩
  subst u5_can_e
  try dsimp only at h_5
  have hP : zP E (mW E ad flt ppl kd vl nb fr tl rA rP rk rv rn rf rt u5_can fw fs ss sl sh hd tr) H := hP
  have hD : va_D A (mW E ad flt ppl kd vl nb fr tl rA rP rk rv rn rf rt u5_can fw fs ss sl sh hd tr) := hD
  refine lv_aload_n S.1 S.2.1 dX10_laySaid_8 rfl (lv_at hl 0 rfl) ?_
  refine lv_iload_n S.1 S.2.1 dX10_laySaid_9 rfl (lv_at hl 3 rfl) ?_
  refine z_mvw (z_mV S hK (c_X10_layFewest l E ad flt ppl kd vl nb fr tl rA rP rk rv rn rf rt u5_can fw fs ss sl sh hd tr most (by omega) (fun a q1 q2 => by rcases zSet_01 h_5 ⟨q1, q2⟩ with h | h <;> omega) _) gX10_laySaid_X10_layFewest rfl hv_X10_layFewest ⟨Nat.le_of_ble_eq_true rfl, Nat.le_of_ble_eq_true rfl⟩ (va_recv hK hP (ci := 10) (q0 := 0) rfl rfl) hP hD trivial hl.1 rfl (Nat.le_of_ble_eq_true rfl) ⟨by decide, by decide⟩ rfl dX10_laySaid_10) hD hS hA (fun u H locs h_10 hP hD hS => ?_)
  obtain ⟨u10_fw, u10_fw_e⟩ : ∃ z, z = u := ⟨_, rfl⟩
  subst u10_fw_e
  try dsimp only at h_10
  have hP : zP E (mW E ad flt ppl kd vl nb fr tl rA rP rk rv rn rf rt u5_can u10_fw fs ss sl sh hd tr) H := hP
  have hD : va_D A (mW E ad flt ppl kd vl nb fr tl rA rP rk rv rn rf rt u5_can u10_fw fs ss sl sh hd tr) := hD
  exact hQ ((u5_can, u10_fw)) _ _ (⟨zSet_cong h_5 (fun a _ _ => zCanW_9), zTab_cong (fun a q1 q2 => (zSet_iff h_5 a q1 q2).trans zCanW_9) h_10⟩) hP hD hS _ _ dX10_laySaid_13

set_option maxHeartbeats 1000000 in
set_option maxRecDepth 20000 in
theorem c_X10_saidOf (l : Launch) (E : zE) (ad : Nat → Nat) (flt ppl : Int) (kd vl nb fr tl : Int → Int) (rA rP : Int) (rk rv rn rf rt can fw fs ss sl sh hd : Int → Int) (tr : Int) (w : Int) (cs : Int → Prop) (hw : 1 ≤ w ∧ w ≤ 9) (hT : zTab cs fw 99 5000) : zRi l E yX10_saidOf wsX10_saidOf (zr 1 0 0) [.ref (ad 0), .int (jI (w))] (fun H => zP E (mW E ad flt ppl kd vl nb fr tl rA rP rk rv rn rf rt can fw fs ss sl sh hd tr) H) (fun r => r = zcnt (fun q => zIn cs w q) 99) := by
  refine zRi_of (own := RX10) (cc := cX10_saidOf) (maxL := 4) (by decide) rfl (Nat.le_of_ble_eq_true rfl) rfl ?_
  intro p e s m args below meth c Q S hK hP hQ ls hl
  have hl : lv_has ls 4 [(0, .ref (ad 0)), (1, .int (jI (w)))] := hl
  refine z_iconst S dX10_saidOf_0 ?_
  refine lv_istore_n (lv' := [(2, .int (jI (0))), (0, .ref (ad 0)), (1, .int (jI (w)))]) S.1 S.2.1 dX10_saidOf_1 rfl hl (by decide) rfl (fun ls hl => ?_)
  refine z_iconst S dX10_saidOf_2 ?_
  refine lv_istore_n (lv' := [(3, .int (jI (1))), (2, .int (jI (0))), (0, .ref (ad 0)), (1, .int (jI (w)))]) S.1 S.2.1 dX10_saidOf_3 rfl hl (by decide) rfl (fun ls hl => ?_)
  suffices HL_1 : ∀ (n_2 : Nat) (q : Int) (n : Int), (100 - q).toNat < n_2 → (1 ≤ q ∧ q ≤ 100) → (n = zcnt (fun q => zIn cs w q) (q - 1).toNat) → ∀ (ls : Array Slot), lv_has ls 4 [(3, .int (jI (q))), (2, .int (jI (n))), (0, .ref (ad 0)), (1, .int (jI (w)))] → W p l e (zr 1 0 0) s m args below meth c s.heap [] 0 0 Q (F0 m 4 ls []) from
    HL_1 _ 1 0 (Nat.lt_succ_self _) (by omega) (rfl) ls (lv_sub hl [0, 1, 2, 3] rfl)
  intro n_2
  induction n_2 with
  | zero => intro q n hm hq hn; exact absurd hm (Nat.not_lt_zero _)
  | succ n_2 ih_3 =>
    intro q n hm hq hn ls hl
    refine lv_iload_n S.1 S.2.1 dX10_saidOf_4 rfl (lv_at hl 0 rfl) ?_
    refine z_bipush S (by decide +kernel) dX10_saidOf_5 ?_
    refine z_icmp_ge (tgt := 34) S dX10_saidOf_7 (by decide) (by omega) (fun c_7 => ?_) (fun c_7 => ?_)
    · skip
      refine lv_iload_n S.1 S.2.1 dX10_saidOf_34 rfl (lv_at hl 1 rfl) ?_
      exact hQ (n) (by rw [hn, show q = 100 by omega]; rfl) _ _ dX10_saidOf_35
    · skip
      have hcr := zcnt_rng (fun q => zIn cs w q) (q - 1).toNat; have hr2 := zTab_rng hT (q := q) (by omega) (by omega)
      refine lv_iload_n S.1 S.2.1 dX10_saidOf_10 rfl (lv_at hl 1 rfl) ?_
      refine lv_aload_n S.1 S.2.1 dX10_saidOf_11 rfl (lv_at hl 2 rfl) ?_
      refine z_get S hK hP 0 rfl rfl 15 (by decide) i_X10_saidOf_10 q_X10_saidOf_1 rfl dX10_saidOf_12 ?_
      refine lv_iload_n S.1 S.2.1 dX10_saidOf_15 rfl (lv_at hl 0 rfl) ?_
      refine z_iald S hK hP 12 rfl (by omega) dX10_saidOf_16 ?_
      refine lv_iload_n S.1 S.2.1 dX10_saidOf_17 rfl (lv_at hl 3 rfl) ?_
      refine z_icmp_gt (tgt := 25) S dX10_saidOf_18 (by decide) (by omega) (fun c_18 => ?_) (fun c_18 => ?_)
      · skip
        refine z_iconst S dX10_saidOf_25 ?_
        refine z_iadd S dX10_saidOf_26 ?_
        refine lv_istore_n (lv' := [(2, .int (jI (n + 0))), (3, .int (jI (q))), (0, .ref (ad 0)), (1, .int (jI (w)))]) S.1 S.2.1 dX10_saidOf_27 rfl hl (by decide) rfl (fun ls hl => ?_)
        refine z_iinc (lv' := [(3, .int (jI (q + 1))), (2, .int (jI (n + 0))), (0, .ref (ad 0)), (1, .int (jI (w)))]) S hl (k := 1) rfl (by decide) rfl dX10_saidOf_28 (fun ls hl => ?_)
        refine z_goto (tgt := 4) S dX10_saidOf_31 (by decide) ?_
        exact ih_3 (q + 1) (n + 0) (by omega) (by omega) (by first | rw [zcnt_nt (by omega) ((zTab_le hT (by omega) (by omega) (by omega)).mp (by omega)), ← hn] | rw [zcnt_nf (by omega) (fun z => absurd ((zTab_le hT (by omega) (by omega) (by omega)).mpr z) (by omega)), ← hn, Int.add_zero]) ls (lv_sub hl [0, 1, 2, 3] rfl)
      · skip
        refine z_iconst S dX10_saidOf_21 ?_
        refine z_goto (tgt := 26) S dX10_saidOf_22 (by decide) ?_
        refine z_iadd S dX10_saidOf_26 ?_
        refine lv_istore_n (lv' := [(2, .int (jI (n + 1))), (3, .int (jI (q))), (0, .ref (ad 0)), (1, .int (jI (w)))]) S.1 S.2.1 dX10_saidOf_27 rfl hl (by decide) rfl (fun ls hl => ?_)
        refine z_iinc (lv' := [(3, .int (jI (q + 1))), (2, .int (jI (n + 1))), (0, .ref (ad 0)), (1, .int (jI (w)))]) S hl (k := 1) rfl (by decide) rfl dX10_saidOf_28 (fun ls hl => ?_)
        refine z_goto (tgt := 4) S dX10_saidOf_31 (by decide) ?_
        exact ih_3 (q + 1) (n + 1) (by omega) (by omega) (by first | rw [zcnt_nt (by omega) ((zTab_le hT (by omega) (by omega) (by omega)).mp (by omega)), ← hn] | rw [zcnt_nf (by omega) (fun z => absurd ((zTab_le hT (by omega) (by omega) (by omega)).mpr z) (by omega)), ← hn, Int.add_zero]) ls (lv_sub hl [0, 1, 2, 3] rfl)
