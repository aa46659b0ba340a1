theorem i_X5_calledAt_5 : ∀ w ∈ u_ws RX5 TX5 2, w ∈ wsX5_calledAt := fun w h => List.mem_cons_of_mem _ (List.mem_append_right _ h)
theorem q_X5_calledAt_1 : Cond.fieldLink RX5 9 "LivingNumbers$Recall" "chosen" "[I" ∈ wsX5_calledAt := List.mem_of_getElem? (i := 1) rfl
theorem i_X5_chooseFrom_5 : ∀ w ∈ u_ws RX5 TX5 2, w ∈ wsX5_chooseFrom := fun w h => List.mem_cons_of_mem _ (List.mem_append_right _ h)
theorem q_X5_chooseFrom_1 : Cond.fieldLink RX5 9 "LivingNumbers$Recall" "chosen" "[I" ∈ wsX5_chooseFrom := List.mem_of_getElem? (i := 1) rfl
theorem i_X5_chooseNext_5 : ∀ w ∈ u_ws RX5 TX5 2, w ∈ wsX5_chooseNext := fun w h => List.mem_cons_of_mem _ (List.mem_append_right _ h)
theorem q_X5_chooseNext_1 : Cond.fieldLink RX5 9 "LivingNumbers$Recall" "chosen" "[I" ∈ wsX5_chooseNext := List.mem_of_getElem? (i := 1) rfl
theorem q_X5_chooseNext_2 : Cond.methodLink RX5 42 Lib.Math.min.name ∈ wsX5_chooseNext := List.mem_of_getElem? (i := 2) rfl
theorem q_X5_chooseNext_3 : Cond.static Lib.Math.min.name ∈ wsX5_chooseNext := List.mem_of_getElem? (i := 3) rfl
theorem q_X5_chooseNext_4 : Cond.initialized "java/lang/Math" ∈ wsX5_chooseNext := List.mem_of_getElem? (i := 4) rfl
theorem q_X5_chooseNext_5 : Cond.code Lib.Math.min.name Lib.Math.min.code 2 (some .int) ∈ wsX5_chooseNext := List.mem_of_getElem? (i := 5) rfl
theorem hv_X5_chooseFrom : yX5_chooseFrom.cls = RX5 ∧ yX5_chooseFrom.cls ≠ "java/lang/invoke/MethodHandle" ∧ yX5_chooseFrom.cls ≠ "java/lang/invoke/VarHandle" ∧ (parseMethodDescriptor yX5_chooseFrom.desc).map (fun d => d.parameters.length) = some 3 := by decide +kernel
theorem i_X5_readNumbers_5 : ∀ w ∈ u_ws RX5 TX5 2, w ∈ wsX5_readNumbers := fun w h => List.mem_cons_of_mem _ (List.mem_append_left _ (List.mem_append_left _ (List.mem_append_left _ (List.mem_append_left _ (List.mem_append_right _ h)))))
theorem q_X5_readNumbers_1 : Cond.fieldLink RX5 9 "LivingNumbers$Recall" "chosen" "[I" ∈ wsX5_readNumbers := List.mem_of_getElem? (i := 1) rfl
theorem q_X5_readNumbers_2 : Cond.fieldLink RX5 15 "LivingNumbers$Recall" "numbers" "[I" ∈ wsX5_readNumbers := List.mem_of_getElem? (i := 2) rfl
theorem hv_X4_size : yX4_size.cls = RX4 ∧ yX4_size.cls ≠ "java/lang/invoke/MethodHandle" ∧ yX4_size.cls ≠ "java/lang/invoke/VarHandle" ∧ (parseMethodDescriptor yX4_size.desc).map (fun d => d.parameters.length) = some 0 := by decide +kernel
theorem hv_X5_readNumbers : yX5_readNumbers.cls = RX5 ∧ yX5_readNumbers.cls ≠ "java/lang/invoke/MethodHandle" ∧ yX5_readNumbers.cls ≠ "java/lang/invoke/VarHandle" ∧ (parseMethodDescriptor yX5_readNumbers.desc).map (fun d => d.parameters.length) = some 2 := by decide +kernel
theorem i_X5_search_5 : ∀ w ∈ u_ws RX5 TX5 2, w ∈ wsX5_search := fun w h => List.mem_cons_of_mem _ (List.mem_append_left _ (List.mem_append_left _ (List.mem_append_left _ (List.mem_append_left _ (List.mem_append_left _ (List.mem_append_right _ h))))))
theorem q_X5_search_1 : Cond.fieldLink RX5 15 "LivingNumbers$Recall" "numbers" "[I" ∈ wsX5_search := List.mem_of_getElem? (i := 1) rfl
theorem hv_X0_withinBy : yX0_withinBy.cls = RX0 ∧ yX0_withinBy.cls ≠ "java/lang/invoke/MethodHandle" ∧ yX0_withinBy.cls ≠ "java/lang/invoke/VarHandle" ∧ (parseMethodDescriptor yX0_withinBy.desc).map (fun d => d.parameters.length) = some 4 := by decide +kernel
theorem hv_X5_chooseNext : yX5_chooseNext.cls = RX5 ∧ yX5_chooseNext.cls ≠ "java/lang/invoke/MethodHandle" ∧ yX5_chooseNext.cls ≠ "java/lang/invoke/VarHandle" ∧ (parseMethodDescriptor yX5_chooseNext.desc).map (fun d => d.parameters.length) = some 2 := by decide +kernel
set_option maxHeartbeats 1000000 in
set_option maxRecDepth 20000 in
theorem c_X5_calledAt (l : Launch) (E : zE) (h : Nat) (a0 : Nat) (a1 : Nat) (ch : Int → Int) (nm : Int → Int) (k : Int) (hk : 0 ≤ k ∧ k ≤ 2) : zRi l E yX5_calledAt wsX5_calledAt (zr 1 0 0) [.ref h, .int (jI (k))] (fun H => zP E ([(h, .inr (5, [.ref a0, .ref a1])), (a0, eI E 3 ch), (a1, eI E 3 nm)]) H) (fun r => r = ch k) := by
  refine zRi_of (own := RX5) (cc := cX5_calledAt) (maxL := 2) (by decide) rfl (Nat.le_of_ble_eq_true rfl) rfl ?_
  intro p e s m args below meth c Q S hK hP hQ ls hl
  have hl : lv_has ls 2 [(0, .ref h), (1, .int (jI (k)))] := hl
  refine lv_iload_n S.1 S.2.1 dX5_calledAt_0 rfl (lv_at hl 1 rfl) ?_
  refine z_if_lt (tgt := 22) S dX5_calledAt_1 (by decide) (by omega) (fun c_1 => ?_) (fun c_1 => ?_)
  · omega
  · skip
    refine lv_iload_n S.1 S.2.1 dX5_calledAt_4 rfl (lv_at hl 1 rfl) ?_
    refine lv_aload_n S.1 S.2.1 dX5_calledAt_5 rfl (lv_at hl 0 rfl) ?_
    refine z_get S hK hP 0 rfl rfl 0 (by decide) i_X5_calledAt_5 q_X5_calledAt_1 rfl dX5_calledAt_6 ?_
    refine z_alen S hK hP 1 rfl dX5_calledAt_9 ?_
    refine z_icmp_ge (tgt := 22) S dX5_calledAt_10 (by decide) (by omega) (fun c_10 => ?_) (fun c_10 => ?_)
    · omega
    · skip
      refine lv_aload_n S.1 S.2.1 dX5_calledAt_13 rfl (lv_at hl 0 rfl) ?_
      refine z_get S hK hP 0 rfl rfl 0 (by decide) i_X5_calledAt_5 q_X5_calledAt_1 rfl dX5_calledAt_14 ?_
      refine lv_iload_n S.1 S.2.1 dX5_calledAt_17 rfl (lv_at hl 1 rfl) ?_
      refine z_iald S hK hP 1 rfl (by omega) dX5_calledAt_18 ?_
      refine z_goto (tgt := 24) S dX5_calledAt_19 (by decide) ?_
      exact hQ (ch (k)) (rfl) _ _ dX5_calledAt_24

set_option maxHeartbeats 1000000 in
set_option maxRecDepth 20000 in
theorem c_X5_chooseFrom (l : Launch) (E : zE) (h : Nat) (a0 : Nat) (a1 : Nat) (ch : Int → Int) (nm : Int → Int) (pl : Int) (fi : Int) (L : Int) (hpl : 0 ≤ pl ∧ pl ≤ 3) (hL : 0 ≤ L ∧ L ≤ 3) : zMv l E yX5_chooseFrom wsX5_chooseFrom (zr 1 0 0) [.ref h, .int (jI (pl)), .int (jI (fi)), .int (jI (L))] ([(h, .inr (5, [.ref a0, .ref a1])), (a0, eI E 3 ch), (a1, eI E 3 nm)]) (fun _ => True) (fun (u : Int → Int) => (∀ b, 0 ≤ b → b < pl → u b = ch b) ∧ ∀ b, pl ≤ b → b < L → u b = fi + (b - pl)) (fun (u : Int → Int) => [(h, .inr (5, [.ref a0, .ref a1])), (a0, eI E 3 u), (a1, eI E 3 nm)]) 0 0 := by
  refine zMv_of (own := RX5) (cc := cX5_chooseFrom) (maxL := 5) (by decide) rfl (Nat.le_of_ble_eq_true rfl) rfl ?_
  intro p e s m args below meth c Q A S hK hini hA hS hP hD hAe hG hQ ls hl
  have hl : lv_has ls 5 [(0, .ref h), (1, .int (jI (pl))), (2, .int (jI (fi))), (3, .int (jI (L)))] := hl
  refine lv_iload_n S.1 S.2.1 dX5_chooseFrom_0 rfl (lv_at hl 1 rfl) ?_
  refine lv_istore (lv' := [(4, .int (jI (pl))), (0, .ref h), (1, .int (jI (pl))), (2, .int (jI (fi))), (3, .int (jI (L)))]) S.1 S.2.1 dX5_chooseFrom_1 hl (by decide) rfl (fun ls hl => ?_)
  suffices HL_1 : ∀ (n_2 : Nat) (i : Int) (g : Int → Int), (3 - i).toNat < n_2 → (pl ≤ i ∧ i ≤ 3) → (∀ b, 0 ≤ b → b < pl → g b = ch b) → (∀ b, pl ≤ b → b < i → g b = fi + (b - pl)) → ∀ (H : Heap) (locs : List Loc), zP E ([(h, .inr (5, [.ref a0, .ref a1])), (a0, eI E 3 g), (a1, eI E 3 nm)]) H → va_D A ([(h, .inr (5, [.ref a0, .ref a1])), (a0, eI E 3 g), (a1, eI E 3 nm)]) → va_S A s.heap H locs → ∀ (ls : Array Slot), lv_has ls 5 [(4, .int (jI (i))), (0, .ref h), (1, .int (jI (pl))), (2, .int (jI (fi))), (3, .int (jI (L)))] → W p l e (zr 1 0 0) s m args below meth c H locs 0 0 Q (F0 m 3 ls []) from
    HL_1 _ pl ch (Nat.lt_succ_self _) (by omega) (fun b _ _ => rfl) (zall_0) _ _ hP hD hS ls (lv_sub hl [0, 1, 2, 3, 4] rfl)
  intro n_2
  induction n_2 with
  | zero => intro i g hm hi hg1 hg2; exact absurd hm (Nat.not_lt_zero _)
  | succ n_2 ih_3 =>
    intro i g hm hi hg1 hg2 H locs hP hD hS ls hl
    refine lv_iload S.1 S.2.1 dX5_chooseFrom_3 (lv_at hl 0 rfl) ?_
    refine z_if_lt (tgt := 43) S dX5_chooseFrom_5 (by decide) (by omega) (fun c_5 => ?_) (fun c_5 => ?_)
    · omega
    · skip
      refine lv_iload S.1 S.2.1 dX5_chooseFrom_8 (lv_at hl 0 rfl) ?_
      refine lv_iload_n S.1 S.2.1 dX5_chooseFrom_10 rfl (lv_at hl 4 rfl) ?_
      refine z_icmp_ge (tgt := 43) S dX5_chooseFrom_11 (by decide) (by omega) (fun c_11 => ?_) (fun c_11 => ?_)
      · skip
        exact hQ (g) _ _ (⟨hg1, fun b q1 q2 => hg2 b q1 (by omega)⟩) hP hD hS _ _ dX5_chooseFrom_43
      · skip
        refine lv_iload S.1 S.2.1 dX5_chooseFrom_14 (lv_at hl 0 rfl) ?_
        refine lv_aload_n S.1 S.2.1 dX5_chooseFrom_16 rfl (lv_at hl 1 rfl) ?_
        refine z_get S hK hP 0 rfl rfl 0 (by decide) i_X5_chooseFrom_5 q_X5_chooseFrom_1 rfl dX5_chooseFrom_17 ?_
        refine z_alen S hK hP 1 rfl dX5_chooseFrom_20 ?_
        refine z_icmp_ge (tgt := 43) S dX5_chooseFrom_21 (by decide) (by omega) (fun c_21 => ?_) (fun c_21 => ?_)
        · skip
          exact hQ (g) _ _ (⟨hg1, fun b q1 q2 => hg2 b q1 (by omega)⟩) hP hD hS _ _ dX5_chooseFrom_43
        · skip
          refine lv_aload_n S.1 S.2.1 dX5_chooseFrom_24 rfl (lv_at hl 1 rfl) ?_
          refine z_get S hK hP 0 rfl rfl 0 (by decide) i_X5_chooseFrom_5 q_X5_chooseFrom_1 rfl dX5_chooseFrom_25 ?_
          refine lv_iload S.1 S.2.1 dX5_chooseFrom_28 (lv_at hl 0 rfl) ?_
          refine lv_iload_n S.1 S.2.1 dX5_chooseFrom_30 rfl (lv_at hl 3 rfl) ?_
          refine lv_iload S.1 S.2.1 dX5_chooseFrom_31 (lv_at hl 0 rfl) ?_
          refine z_iadd S dX5_chooseFrom_33 ?_
          refine lv_iload_n S.1 S.2.1 dX5_chooseFrom_34 rfl (lv_at hl 2 rfl) ?_
          refine z_isub S dX5_chooseFrom_35 ?_
          refine z_iast S hK hP hD hS 1 rfl (by omega) dX5_chooseFrom_36 (fun H locs hP hD hS => ?_)
          have hP : zP E ([(h, .inr (5, [.ref a0, .ref a1])), (a0, eI E 3 (zu g i ((fi + i) - pl))), (a1, eI E 3 nm)]) H := hP
          have hD : va_D A ([(h, .inr (5, [.ref a0, .ref a1])), (a0, eI E 3 (zu g i ((fi + i) - pl))), (a1, eI E 3 nm)]) := hD
          refine z_iinc (lv' := [(4, .int (jI (i + 1))), (0, .ref h), (1, .int (jI (pl))), (2, .int (jI (fi))), (3, .int (jI (L)))]) S hl (k := 0) rfl (by decide) rfl dX5_chooseFrom_37 (fun ls hl => ?_)
          refine z_goto (tgt := 3) S dX5_chooseFrom_40 (by decide) ?_
          exact ih_3 (i + 1) (zu g i ((fi + i) - pl)) (by omega) (by omega) (fun b q1 q2 => by rw [zu_n (by omega)]; exact hg1 b q1 q2) (zall_step (fun b q1 q2 => by rw [zu_n (by omega)]; exact hg2 b q1 q2) (by rw [zu_s]; omega)) _ _ hP hD hS ls (lv_sub hl [0, 1, 2, 3, 4] rfl)

set_option maxHeartbeats 1000000 in
set_option maxRecDepth 20000 in
theorem c_X5_chooseNext (l : Launch) (E : zE) (h : Nat) (a0 : Nat) (a1 : Nat) (ch : Int → Int) (nm : Int → Int) (n2 : Int) (L : Int) (hn2 : 0 ≤ n2 ∧ n2 ≤ 10) (hL : 0 ≤ L ∧ L ≤ 3) (hcr : ∀ b, 0 ≤ b → b < L → 0 ≤ ch b ∧ ch b < n2) : zMi l E yX5_chooseNext wsX5_chooseNext (zr 2 0 0) [.ref h, .int (jI (n2)), .int (jI (L))] ([(h, .inr (5, [.ref a0, .ref a1])), (a0, eI E 3 ch), (a1, eI E 3 nm)]) (fun _ => True) (fun r (u : Int → Int) => zNx n2 L ch r u) (fun (u : Int → Int) => [(h, .inr (5, [.ref a0, .ref a1])), (a0, eI E 3 u), (a1, eI E 3 nm)]) 0 0 := by
  refine zMz_of (own := RX5) (cc := cX5_chooseNext) (maxL := 4) (by decide) rfl (Nat.le_of_ble_eq_true rfl) rfl ?_
  intro p e s m args below meth c Q A S hK hA hS hP hD hAe hG hQ ls hl
  have hl : lv_has ls 4 [(0, .ref h), (1, .int (jI (n2))), (2, .int (jI (L)))] := hl
  obtain ⟨zn, hzn⟩ : ∃ z, z = zmin L ((3 : Nat) : Int) := ⟨_, rfl⟩
  have hzn2 : zn = L := by have := zmin_is L ((3 : Nat) : Int); omega
  refine lv_iload_n S.1 S.2.1 dX5_chooseNext_0 rfl (lv_at hl 2 rfl) ?_
  refine lv_aload_n S.1 S.2.1 dX5_chooseNext_1 rfl (lv_at hl 0 rfl) ?_
  refine z_get S hK hP 0 rfl rfl 0 (by decide) i_X5_chooseNext_5 q_X5_chooseNext_1 rfl dX5_chooseNext_2 ?_
  refine z_alen S hK hP 1 rfl dX5_chooseNext_5 ?_
  refine z_min S (by omega) q_X5_chooseNext_2 q_X5_chooseNext_3 q_X5_chooseNext_4 q_X5_chooseNext_5 hl.1 (by decide) (Nat.le_of_ble_eq_true rfl) (by decide) dX5_chooseNext_6 ?_
  have hm_1 := zmin_is L (((3 : Nat) : Int))
  rw [← hzn, hzn2]
  refine z_iconst S dX5_chooseNext_9 ?_
  refine z_isub S dX5_chooseNext_10 ?_
  refine lv_istore_n (lv' := [(3, .int (jI (L - 1))), (0, .ref h), (1, .int (jI (n2))), (2, .int (jI (L)))]) S.1 S.2.1 dX5_chooseNext_11 rfl hl (by decide) rfl (fun ls hl => ?_)
  suffices HL_2 : ∀ (n_3 : Nat) (i : Int), (i + 1).toNat < n_3 → (-1 ≤ i ∧ i < L) → (∀ b, i < b → b < L → n2 - L + b ≤ ch b) → ∀ (H : Heap) (locs : List Loc), zP E ([(h, .inr (5, [.ref a0, .ref a1])), (a0, eI E 3 ch), (a1, eI E 3 nm)]) H → va_D A ([(h, .inr (5, [.ref a0, .ref a1])), (a0, eI E 3 ch), (a1, eI E 3 nm)]) → va_S A s.heap H locs → ∀ (ls : Array Slot), lv_has ls 4 [(3, .int (jI (i))), (0, .ref h), (1, .int (jI (n2))), (2, .int (jI (L)))] → W p l e (zr 2 0 0) s m args below meth c H locs 0 0 Q (F0 m 12 ls []) from
    HL_2 _ (L - 1) (Nat.lt_succ_self _) (by omega) (fun b q1 q2 => absurd q2 (by omega)) _ _ hP hD hS ls (lv_sub hl [0, 1, 2, 3] rfl)
  intro n_3
  induction n_3 with
  | zero => intro i hm hi hno; exact absurd hm (Nat.not_lt_zero _)
  | succ n_3 ih_4 =>
    intro i hm hi hno H locs hP hD hS ls hl
    refine lv_iload_n S.1 S.2.1 dX5_chooseNext_12 rfl (lv_at hl 0 rfl) ?_
    refine z_if_lt (tgt := 52) S dX5_chooseNext_13 (by decide) (by omega) (fun c_13 => ?_) (fun c_13 => ?_)
    · skip
      refine z_iconst S dX5_chooseNext_52 ?_
      exact hQ (0) (ch) _ _ (by omega) (Or.inl ⟨rfl, fun b q1 q2 => hno b (by omega) q2⟩) hP hD hS _ _ dX5_chooseNext_53
    · skip
      have hci := hcr i (by omega) (by omega)
      refine lv_aload_n S.1 S.2.1 dX5_chooseNext_16 rfl (lv_at hl 1 rfl) ?_
      refine z_get S hK hP 0 rfl rfl 0 (by decide) i_X5_chooseNext_5 q_X5_chooseNext_1 rfl dX5_chooseNext_17 ?_
      refine lv_iload_n S.1 S.2.1 dX5_chooseNext_20 rfl (lv_at hl 0 rfl) ?_
      refine z_iald S hK hP 1 rfl (by omega) dX5_chooseNext_21 ?_
      refine lv_iload_n S.1 S.2.1 dX5_chooseNext_22 rfl (lv_at hl 2 rfl) ?_
      refine lv_iload_n S.1 S.2.1 dX5_chooseNext_23 rfl (lv_at hl 3 rfl) ?_
      refine z_isub S dX5_chooseNext_24 ?_
      refine lv_iload_n S.1 S.2.1 dX5_chooseNext_25 rfl (lv_at hl 0 rfl) ?_
      refine z_iadd S dX5_chooseNext_26 ?_
      refine z_icmp_ge (tgt := 46) S dX5_chooseNext_27 (by decide) (by omega) (fun c_27 => ?_) (fun c_27 => ?_)
      · skip
        refine z_iinc (lv' := [(3, .int (jI (i + (-1)))), (0, .ref h), (1, .int (jI (n2))), (2, .int (jI (L)))]) S hl (k := 0) rfl (by decide) rfl dX5_chooseNext_46 (fun ls hl => ?_)
        refine z_goto (tgt := 12) S dX5_chooseNext_49 (by decide) ?_
        exact ih_4 (i + (-1)) (by omega) (by omega) (fun b q1 q2 => (show b = i ∨ i < b by omega).elim (fun e => by rw [e]; omega) (fun e => hno b e q2)) _ _ hP hD hS ls (lv_sub hl [0, 1, 2, 3] rfl)
      · skip
        refine lv_aload_n S.1 S.2.1 dX5_chooseNext_30 rfl (lv_at hl 1 rfl) ?_
        refine lv_iload_n S.1 S.2.1 dX5_chooseNext_31 rfl (lv_at hl 0 rfl) ?_
        refine lv_aload_n S.1 S.2.1 dX5_chooseNext_32 rfl (lv_at hl 1 rfl) ?_
        refine z_get S hK hP 0 rfl rfl 0 (by decide) i_X5_chooseNext_5 q_X5_chooseNext_1 rfl dX5_chooseNext_33 ?_
        refine lv_iload_n S.1 S.2.1 dX5_chooseNext_36 rfl (lv_at hl 0 rfl) ?_
        refine z_iald S hK hP 1 rfl (by omega) dX5_chooseNext_37 ?_
        refine z_iconst S dX5_chooseNext_38 ?_
        refine z_iadd S dX5_chooseNext_39 ?_
        refine lv_iload_n S.1 S.2.1 dX5_chooseNext_40 rfl (lv_at hl 3 rfl) ?_
        refine z_mvw (z_mV S hK (c_X5_chooseFrom l E h a0 a1 ch nm i ((ch (i)) + 1) L (by omega) (by omega) _) gX5_chooseNext_X5_chooseFrom rfl hv_X5_chooseFrom ⟨Nat.le_of_ble_eq_true rfl, Nat.le_of_ble_eq_true rfl⟩ (va_recv hK hP (ci := 5) (q0 := 0) rfl rfl) hP hD trivial hl.1 rfl (Nat.le_of_ble_eq_true rfl) ⟨by decide, by decide⟩ rfl dX5_chooseNext_41) hD hS hA (fun u H locs h_41 hP hD hS => ?_)
        obtain ⟨u41_ch, u41_ch_e⟩ : ∃ z, z = u := ⟨_, rfl⟩
        subst u41_ch_e
        try dsimp only at h_41
        have hP : zP E ([(h, .inr (5, [.ref a0, .ref a1])), (a0, eI E 3 u41_ch), (a1, eI E 3 nm)]) H := hP
        have hD : va_D A ([(h, .inr (5, [.ref a0, .ref a1])), (a0, eI E 3 u41_ch), (a1, eI E 3 nm)]) := hD
        refine z_iconst S dX5_chooseNext_44 ?_
        exact hQ (1) (u41_ch) _ _ (by omega) (Or.inr ⟨rfl, i, by omega, by omega, hno, h_41.1, h_41.2⟩) hP hD hS _ _ dX5_chooseNext_45

set_option maxHeartbeats 1000000 in
set_option maxRecDepth 20000 in
theorem c_X5_readNumbers (l : Launch) (E : zE) (h : Nat) (a0 : Nat) (a1 : Nat) (pp : Nat) (pa : Nat) (ch : Int → Int) (nm : Int → Int) (n : Int) (on : Nat → Option Nat) (an : Int → Nat) (kd vl nb fr tl : Int → Int) (L : Int) (hL : 0 ≤ L ∧ L ≤ 3) (hcr : ∀ b, 0 ≤ b → b < L → 0 ≤ ch b ∧ ch b < n) (hp : 0 ≤ n ∧ n ≤ 10) (hon : zOns n on an) (hpe : zPeo n kd vl nb fr tl) (hap : zAp ([(h, .inr (5, [.ref a0, .ref a1])), (a0, eI E 3 ch), (a1, eI E 3 nm), (pp, .inr (4, [.ref pa, .int (jI n)])), (pa, eN E 10 on)]) n an) : zMv l E yX5_readNumbers wsX5_readNumbers (zr 3 0 0) [.ref h, .ref pp, .int (jI (L))] ([(h, .inr (5, [.ref a0, .ref a1])), (a0, eI E 3 ch), (a1, eI E 3 nm), (pp, .inr (4, [.ref pa, .int (jI n)])), (pa, eN E 10 on)]) (fun H => zNm E n an kd vl nb fr tl H) (fun (u : Int → Int) => ∀ b, 0 ≤ b → b < L → u b = nb (ch b)) (fun (u : Int → Int) => [(h, .inr (5, [.ref a0, .ref a1])), (a0, eI E 3 ch), (a1, eI E 3 u), (pp, .inr (4, [.ref pa, .int (jI n)])), (pa, eN E 10 on)]) 0 0 := by
  refine zMv_of (own := RX5) (cc := cX5_readNumbers) (maxL := 5) (by decide) rfl (Nat.le_of_ble_eq_true rfl) rfl ?_
  intro p e s m args below meth c Q A S hK hini hA hS hP hD hAe hG hQ ls hl
  have hl : lv_has ls 5 [(0, .ref h), (1, .ref pp), (2, .int (jI (L)))] := hl
  have hNA := zNm_A hG hAe hap
  refine z_iconst S dX5_readNumbers_0 ?_
  refine lv_istore_n (lv' := [(3, .int (jI (0))), (0, .ref h), (1, .ref pp), (2, .int (jI (L)))]) S.1 S.2.1 dX5_readNumbers_1 rfl hl (by decide) rfl (fun ls hl => ?_)
  suffices HL_1 : ∀ (n_2 : Nat) (i : Int) (g : Int → Int), (L - i).toNat < n_2 → (0 ≤ i ∧ i ≤ L) → (∀ b, 0 ≤ b → b < i → g b = nb (ch b)) → ∀ (H : Heap) (locs : List Loc), zP E ([(h, .inr (5, [.ref a0, .ref a1])), (a0, eI E 3 ch), (a1, eI E 3 g), (pp, .inr (4, [.ref pa, .int (jI n)])), (pa, eN E 10 on)]) H → va_D A ([(h, .inr (5, [.ref a0, .ref a1])), (a0, eI E 3 ch), (a1, eI E 3 g), (pp, .inr (4, [.ref pa, .int (jI n)])), (pa, eN E 10 on)]) → va_S A s.heap H locs → ∀ (ls : Array Slot), lv_has ls 5 [(3, .int (jI (i))), (0, .ref h), (1, .ref pp), (2, .int (jI (L)))] → W p l e (zr 3 0 0) s m args below meth c H locs 0 0 Q (F0 m 2 ls []) from
    HL_1 _ 0 nm (Nat.lt_succ_self _) (by omega) (zall_0) _ _ hP hD hS ls (lv_sub hl [0, 1, 2, 3] rfl)
  intro n_2
  induction n_2 with
  | zero => intro i g hm hi hg; exact absurd hm (Nat.not_lt_zero _)
  | succ n_2 ih_3 =>
    intro i g hm hi hg H locs hP hD hS ls hl
    refine lv_iload_n S.1 S.2.1 dX5_readNumbers_2 rfl (lv_at hl 0 rfl) ?_
    refine lv_iload_n S.1 S.2.1 dX5_readNumbers_3 rfl (lv_at hl 3 rfl) ?_
    refine z_icmp_ge (tgt := 63) S dX5_readNumbers_4 (by decide) (by omega) (fun c_4 => ?_) (fun c_4 => ?_)
    · skip
      exact hQ (g) _ _ (fun b q1 q2 => hg b q1 (by omega)) hP hD hS _ _ dX5_readNumbers_63
    · skip
      refine lv_iload_n S.1 S.2.1 dX5_readNumbers_7 rfl (lv_at hl 0 rfl) ?_
      refine lv_aload_n S.1 S.2.1 dX5_readNumbers_8 rfl (lv_at hl 1 rfl) ?_
      refine z_get S hK hP 0 rfl rfl 0 (by decide) i_X5_readNumbers_5 q_X5_readNumbers_1 rfl dX5_readNumbers_9 ?_
      refine z_alen S hK hP 1 rfl dX5_readNumbers_12 ?_
      refine z_icmp_ge (tgt := 63) S dX5_readNumbers_13 (by decide) (by omega) (fun c_13 => ?_) (fun c_13 => ?_)
      · omega
      · skip
        refine lv_iload_n S.1 S.2.1 dX5_readNumbers_16 rfl (lv_at hl 0 rfl) ?_
        refine lv_aload_n S.1 S.2.1 dX5_readNumbers_17 rfl (lv_at hl 1 rfl) ?_
        refine z_get S hK hP 0 rfl rfl 1 (by decide) i_X5_readNumbers_5 q_X5_readNumbers_2 rfl dX5_readNumbers_18 ?_
        refine z_alen S hK hP 2 rfl dX5_readNumbers_21 ?_
        refine z_icmp_ge (tgt := 63) S dX5_readNumbers_22 (by decide) (by omega) (fun c_22 => ?_) (fun c_22 => ?_)
        · omega
        · skip
          have hci := hcr i (by omega) (by omega)
          refine lv_aload_n S.1 S.2.1 dX5_readNumbers_25 rfl (lv_at hl 2 rfl) ?_
          refine lv_aload_n S.1 S.2.1 dX5_readNumbers_26 rfl (lv_at hl 1 rfl) ?_
          refine z_get S hK hP 0 rfl rfl 0 (by decide) i_X5_readNumbers_5 q_X5_readNumbers_1 rfl dX5_readNumbers_27 ?_
          refine lv_iload_n S.1 S.2.1 dX5_readNumbers_30 rfl (lv_at hl 0 rfl) ?_
          refine z_iald S hK hP 1 rfl (by omega) dX5_readNumbers_31 ?_
          refine z_rq (z_rV S hK (c_X4_one l E pp pa n on (ch (i)) an (by omega) (by omega) (hon)) gX5_readNumbers_X4_one rfl hv_X4_one ⟨Nat.le_of_ble_eq_true rfl, Nat.le_of_ble_eq_true rfl⟩ (va_recv hK hP (ci := 4) (q0 := 3) rfl rfl) (hP.sub [3, 4] rfl) hl.1 rfl (Nat.le_of_ble_eq_true rfl) ⟨by decide, by decide⟩ rfl dX5_readNumbers_32) (fun r_32 h_32 => ?_)
          rcases h_32 with ⟨e_32, hx_32⟩ | ⟨e_32, hx_32⟩
          · subst e_32
            refine W.eq (g2 := F0 m 35 ls [.ref (an ((ch (i))))]) rfl ?_
            refine lv_astore (lv' := [(4, .ref (an ((ch (i))))), (3, .int (jI (i))), (0, .ref h), (1, .ref pp), (2, .int (jI (L)))]) S.1 S.2.1 dX5_readNumbers_35 hl (by decide) rfl (fun ls hl => ?_)
            refine lv_aload_n S.1 S.2.1 dX5_readNumbers_37 rfl (lv_at hl 2 rfl) ?_
            refine z_get S hK hP 0 rfl rfl 1 (by decide) i_X5_readNumbers_5 q_X5_readNumbers_2 rfl dX5_readNumbers_38 ?_
            refine lv_iload_n S.1 S.2.1 dX5_readNumbers_41 rfl (lv_at hl 1 rfl) ?_
            refine lv_aload S.1 S.2.1 dX5_readNumbers_42 (lv_at hl 0 rfl) ?_
            refine lv_ifnonnull (tgt := 51) S.1 S.2.1 dX5_readNumbers_44 (by decide) ?_
            refine lv_aload S.1 S.2.1 dX5_readNumbers_51 (lv_at hl 0 rfl) ?_
            have hv_53 := hpe (((ch (i)))) (by omega) (by omega)
            refine z_ri (post := fun r => r = nb (((ch (i))))) (av := ([.ref (an ((ch (i))))] : List Value).toArray) (by
              have hk3 : kd (((ch (i)))) = 2 ∨ kd (((ch (i)))) = 1 ∨ kd (((ch (i)))) = 0 := (by omega)
              rcases hk3 with e | e | e
              · exact (z_rU S hK (c_X3_number_1 l E (an (((ch (i))))) (vl (((ch (i))))) (nb (((ch (i))))) (fr (((ch (i))))) (tl (((ch (i)))))) gX5_readNumbers_X3_number_u52X1 rfl rfl hu_0___I ⟨Nat.le_of_ble_eq_true rfl, Nat.le_of_ble_eq_true rfl⟩ (va_recv hK (zNm_k (zNm_keep hG hS hNA) (x := ((ch (i)))) (ci := 1) (by omega) e rfl) (ci := 1) (q0 := 0) rfl rfl) (zNm_k (zNm_keep hG hS hNA) (x := ((ch (i)))) (ci := 1) (by omega) e rfl) hl.1 rfl (Nat.le_of_ble_eq_true rfl) ⟨by decide, by decide⟩ rfl dX5_readNumbers_53)
              · exact (z_rU S hK (c_X3_number_2 l E (an (((ch (i))))) (vl (((ch (i))))) (nb (((ch (i))))) (fr (((ch (i))))) (tl (((ch (i)))))) gX5_readNumbers_X3_number_u52X2 rfl rfl hu_0___I ⟨Nat.le_of_ble_eq_true rfl, Nat.le_of_ble_eq_true rfl⟩ (va_recv hK (zNm_k (zNm_keep hG hS hNA) (x := ((ch (i)))) (ci := 2) (by omega) e rfl) (ci := 2) (q0 := 0) rfl rfl) (zNm_k (zNm_keep hG hS hNA) (x := ((ch (i)))) (ci := 2) (by omega) e rfl) hl.1 rfl (Nat.le_of_ble_eq_true rfl) ⟨by decide, by decide⟩ rfl dX5_readNumbers_53)
              · exact (z_rV S hK (c_X3_number_3 l E (an (((ch (i))))) (vl (((ch (i))))) (nb (((ch (i))))) (fr (((ch (i))))) (tl (((ch (i)))))) gX5_readNumbers_X3_number rfl hv_X3_number ⟨Nat.le_of_ble_eq_true rfl, Nat.le_of_ble_eq_true rfl⟩ (va_recv hK (zNm_k (zNm_keep hG hS hNA) (x := ((ch (i)))) (ci := 3) (by omega) e rfl) (ci := 3) (q0 := 0) rfl rfl) (zNm_k (zNm_keep hG hS hNA) (x := ((ch (i)))) (ci := 3) (by omega) e rfl) hl.1 rfl (Nat.le_of_ble_eq_true rfl) ⟨by decide, by decide⟩ rfl dX5_readNumbers_53)) (fun r_53 h_53 => ?_)
            rw [h_53]
            refine z_iast S hK hP hD hS 2 rfl (by omega) dX5_readNumbers_56 (fun H locs hP hD hS => ?_)
            have hP : zP E ([(h, .inr (5, [.ref a0, .ref a1])), (a0, eI E 3 ch), (a1, eI E 3 (zu g i (nb (((ch (i))))))), (pp, .inr (4, [.ref pa, .int (jI n)])), (pa, eN E 10 on)]) H := hP
            have hD : va_D A ([(h, .inr (5, [.ref a0, .ref a1])), (a0, eI E 3 ch), (a1, eI E 3 (zu g i (nb (((ch (i))))))), (pp, .inr (4, [.ref pa, .int (jI n)])), (pa, eN E 10 on)]) := hD
            refine z_iinc (lv' := [(3, .int (jI (i + 1))), (4, .ref (an ((ch (i))))), (0, .ref h), (1, .ref pp), (2, .int (jI (L)))]) S hl (k := 1) rfl (by decide) rfl dX5_readNumbers_57 (fun ls hl => ?_)
            refine z_goto (tgt := 2) S dX5_readNumbers_60 (by decide) ?_
            exact ih_3 (i + 1) (zu g i (nb (((ch (i)))))) (by omega) (by omega) (zall_step (fun b q1 q2 => by rw [zu_n (by omega)]; exact hg b q1 q2) zu_s) _ _ hP hD hS ls (lv_sub hl [0, 2, 3, 4] rfl)
          · subst e_32
            omega

set_option maxHeartbeats 1000000 in
set_option maxRecDepth 20000 in
theorem c_X5_search (l : Launch) (E : zE) (h : Nat) (a0 : Nat) (a1 : Nat) (pp : Nat) (pa : Nat) (ff : Nat) (fa : Nat) (ch : Int → Int) (nm : Int → Int) (n : Int) (on : Nat → Option Nat) (fw : Int → Int) (an : Int → Nat) (kd vl nb fr tl : Int → Int) (q : Int) (w : Int) (lv : Int → Prop) (hq : 0 ≤ q ∧ q ≤ 999) (hw : 1 ≤ w ∧ w ≤ 9) (hp : 0 ≤ n ∧ n ≤ 10) (hon : zOns n on an) (hpe : zPeo n kd vl nb fr tl) (hT : zTab (zCan nb lv n) fw 999 1000000) (hap : zAp ([(h, .inr (5, [.ref a0, .ref a1])), (a0, eI E 3 ch), (a1, eI E 3 nm), (pp, .inr (4, [.ref pa, .int (jI n)])), (pa, eN E 10 on), (ff, .inr (0, [.ref fa])), (fa, eI E 1000 fw)]) n an) : zMi l E yX5_search wsX5_search (zr 8 0 0) [.ref h, .ref pp, .ref ff, .int (jI (q)), .int (jI (w))] ([(h, .inr (5, [.ref a0, .ref a1])), (a0, eI E 3 ch), (a1, eI E 3 nm), (pp, .inr (4, [.ref pa, .int (jI n)])), (pa, eN E 10 on), (ff, .inr (0, [.ref fa])), (fa, eI E 1000 fw)]) (fun H => zNm E n an kd vl nb fr tl H) (fun r (u : (Int → Int) × (Int → Int)) => zFound (zWk nb lv (zCan nb lv n) n w q) r u.1) (fun (u : (Int → Int) × (Int → Int)) => [(h, .inr (5, [.ref a0, .ref a1])), (a0, eI E 3 u.1), (a1, eI E 3 u.2), (pp, .inr (4, [.ref pa, .int (jI n)])), (pa, eN E 10 on), (ff, .inr (0, [.ref fa])), (fa, eI E 1000 fw)]) 0 0 := by
  refine zMi_of (own := RX5) (cc := cX5_search) (maxL := 8) (by decide) rfl (Nat.le_of_ble_eq_true rfl) rfl ?_
  intro p e s m args below meth c Q A S hK hA hS hP hD hAe hG hQ ls hl
  have hl : lv_has ls 8 [(0, .ref h), (1, .ref pp), (2, .ref ff), (3, .int (jI (q))), (4, .int (jI (w)))] := hl
  have hNA := zNm_A hG hAe hap
  refine z_iconst S dX5_search_0 ?_
  refine lv_istore (lv' := [(5, .int (jI (0))), (0, .ref h), (1, .ref pp), (2, .ref ff), (3, .int (jI (q))), (4, .int (jI (w)))]) S.1 S.2.1 dX5_search_1 hl (by decide) rfl (fun ls hl => ?_)
  suffices HL_1 : ∀ (n_2 : Nat) (L : Int) (c1 : Int → Int) (m1 : Int → Int), (4 - L).toNat < n_2 → (0 ≤ L ∧ L ≤ 4 ∧ L ≤ n + 1) → (zNoRow (zCan nb lv n) nb n w q L) → ∀ (H : Heap) (locs : List Loc), zP E ([(h, .inr (5, [.ref a0, .ref a1])), (a0, eI E 3 c1), (a1, eI E 3 m1), (pp, .inr (4, [.ref pa, .int (jI n)])), (pa, eN E 10 on), (ff, .inr (0, [.ref fa])), (fa, eI E 1000 fw)]) H → va_D A ([(h, .inr (5, [.ref a0, .ref a1])), (a0, eI E 3 c1), (a1, eI E 3 m1), (pp, .inr (4, [.ref pa, .int (jI n)])), (pa, eN E 10 on), (ff, .inr (0, [.ref fa])), (fa, eI E 1000 fw)]) → va_S A s.heap H locs → ∀ (ls : Array Slot), lv_has ls 8 [(5, .int (jI (L))), (0, .ref h), (1, .ref pp), (2, .ref ff), (3, .int (jI (q))), (4, .int (jI (w)))] → W p l e (zr 8 0 0) s m args below meth c H locs 0 0 Q (F0 m 3 ls []) from
    HL_1 _ 0 ch nm (Nat.lt_succ_self _) (by omega) (zall_0) _ _ hP hD hS ls (lv_sub hl [0, 1, 2, 3, 4, 5] rfl)
  intro n_2
  induction n_2 with
  | zero => intro L c1 m1 hm hL hno; exact absurd hm (Nat.not_lt_zero _)
  | succ n_2 ih_3 =>
    intro L c1 m1 hm hL hno H locs hP hD hS ls hl
    refine lv_iload S.1 S.2.1 dX5_search_3 (lv_at hl 0 rfl) ?_
    refine z_iconst S dX5_search_5 ?_
    refine z_icmp_gt (tgt := 94) S dX5_search_6 (by decide) (by omega) (fun c_6 => ?_) (fun c_6 => ?_)
    · skip
      refine z_bipush S (by decide +kernel) dX5_search_94 ?_
      exact hQ (-9) ((c1, m1)) _ _ (Or.inl ⟨rfl, zSearch_none hno (by omega) (by omega)⟩) hP hD hS _ _ dX5_search_96
    · skip
      refine lv_iload S.1 S.2.1 dX5_search_9 (lv_at hl 0 rfl) ?_
      refine lv_aload_n S.1 S.2.1 dX5_search_11 rfl (lv_at hl 2 rfl) ?_
      refine z_ri (z_rV S hK (c_X4_size l E pp pa n on) gX5_search_X4_size rfl hv_X4_size ⟨Nat.le_of_ble_eq_true rfl, Nat.le_of_ble_eq_true rfl⟩ (va_recv hK hP (ci := 4) (q0 := 3) rfl rfl) (hP.sub [3, 4] rfl) hl.1 rfl (Nat.le_of_ble_eq_true rfl) ⟨by decide, by decide⟩ rfl dX5_search_12) (fun r_12 h_12 => ?_)
      rw [h_12]
      refine z_icmp_gt (tgt := 94) S dX5_search_15 (by decide) (by omega) (fun c_15 => ?_) (fun c_15 => ?_)
      · skip
        refine z_bipush S (by decide +kernel) dX5_search_94 ?_
        exact hQ (-9) ((c1, m1)) _ _ (Or.inl ⟨rfl, zSearch_none hno (by omega) (by omega)⟩) hP hD hS _ _ dX5_search_96
      · skip
        refine lv_aload_n S.1 S.2.1 dX5_search_18 rfl (lv_at hl 1 rfl) ?_
        refine z_iconst S dX5_search_19 ?_
        refine z_iconst S dX5_search_20 ?_
        refine lv_iload S.1 S.2.1 dX5_search_21 (lv_at hl 0 rfl) ?_
        refine z_mv (wr := [(pp, .inr (4, [.ref pa, .int (jI n)])), (pa, eN E 10 on), (ff, .inr (0, [.ref fa])), (fa, eI E 1000 fw)]) (z_mV S hK (c_X5_chooseFrom l E h a0 a1 c1 m1 0 0 L (by omega) (by omega) _) gX5_search_X5_chooseFrom rfl hv_X5_chooseFrom ⟨Nat.le_of_ble_eq_true rfl, Nat.le_of_ble_eq_true rfl⟩ (va_recv hK hP (ci := 5) (q0 := 0) rfl rfl) (hP.sub [0, 1, 2] rfl) (hD.sub [0, 1, 2] (by decide) rfl) trivial hl.1 rfl (Nat.le_of_ble_eq_true rfl) ⟨by decide, by decide⟩ rfl dX5_search_23) hP hD hS hA [0, 1, 2] [3, 4, 5, 6] [4, 5, 6, 0, 1, 2, 3] rfl rfl (by decide) (by decide) (fun (u : Int → Int) => [(h, .inr (5, [.ref a0, .ref a1])), (a0, eI E 3 u), (a1, eI E 3 m1), (pp, .inr (4, [.ref pa, .int (jI n)])), (pa, eN E 10 on), (ff, .inr (0, [.ref fa])), (fa, eI E 1000 fw)]) (by decide) (fun _ => rfl) (fun u H locs h_23 hP hD hS => ?_)
        obtain ⟨u23_ch, u23_ch_e⟩ : ∃ z, z = u := ⟨_, rfl⟩
        subst u23_ch_e
        try dsimp only at h_23
        have hP : zP E ([(h, .inr (5, [.ref a0, .ref a1])), (a0, eI E 3 u23_ch), (a1, eI E 3 m1), (pp, .inr (4, [.ref pa, .int (jI n)])), (pa, eN E 10 on), (ff, .inr (0, [.ref fa])), (fa, eI E 1000 fw)]) H := hP
        have hD : va_D A ([(h, .inr (5, [.ref a0, .ref a1])), (a0, eI E 3 u23_ch), (a1, eI E 3 m1), (pp, .inr (4, [.ref pa, .int (jI n)])), (pa, eN E 10 on), (ff, .inr (0, [.ref fa])), (fa, eI E 1000 fw)]) := hD
        obtain ⟨hf1, hf2, hf3⟩ := zFirst_row (ch := u23_ch) (L := L) (by omega) (by omega) (fun i q1 q2 => by rw [h_23.2 i q1 q2]; omega)
        refine z_iconst S dX5_search_26 ?_
        refine lv_istore (lv' := [(6, .int (jI (1))), (5, .int (jI (L))), (0, .ref h), (1, .ref pp), (2, .ref ff), (3, .int (jI (q))), (4, .int (jI (w)))]) S.1 S.2.1 dX5_search_27 hl (by decide) rfl (fun ls hl => ?_)
        refine z_iconst S dX5_search_29 ?_
        refine lv_istore (lv' := [(7, .int (jI (0))), (6, .int (jI (1))), (5, .int (jI (L))), (0, .ref h), (1, .ref pp), (2, .ref ff), (3, .int (jI (q))), (4, .int (jI (w)))]) S.1 S.2.1 dX5_search_30 hl (by decide) rfl (fun ls hl => ?_)
        suffices HL_4 : ∀ (n_5 : Nat) (row : Int) (mo : Int) (c2 : Int → Int) (m2 : Int → Int), (120 - row).toNat < n_5 → (0 ≤ row ∧ row ≤ 120) → (mo = 0 ∨ mo = 1) → (zSrch (zCan nb lv n) nb n w q L row mo c2) → ∀ (H : Heap) (locs : List Loc), zP E ([(h, .inr (5, [.ref a0, .ref a1])), (a0, eI E 3 c2), (a1, eI E 3 m2), (pp, .inr (4, [.ref pa, .int (jI n)])), (pa, eN E 10 on), (ff, .inr (0, [.ref fa])), (fa, eI E 1000 fw)]) H → va_D A ([(h, .inr (5, [.ref a0, .ref a1])), (a0, eI E 3 c2), (a1, eI E 3 m2), (pp, .inr (4, [.ref pa, .int (jI n)])), (pa, eN E 10 on), (ff, .inr (0, [.ref fa])), (fa, eI E 1000 fw)]) → va_S A s.heap H locs → ∀ (ls : Array Slot), lv_has ls 8 [(7, .int (jI (row))), (6, .int (jI (mo))), (5, .int (jI (L))), (0, .ref h), (1, .ref pp), (2, .ref ff), (3, .int (jI (q))), (4, .int (jI (w)))] → W p l e (zr 8 0 0) s m args below meth c H locs 0 0 Q (F0 m 32 ls []) from
          HL_4 _ 0 1 u23_ch m1 (Nat.lt_succ_self _) (by omega) (by omega) (Or.inl ⟨rfl, hf1, by omega, fun y q1 q2 => absurd (hf3 y q1) (by omega)⟩) _ _ hP hD hS ls (lv_sub hl [0, 1, 2, 3, 4, 5, 6, 7] rfl)
        intro n_5
        induction n_5 with
        | zero => intro row mo c2 m2 hm hrow hmo hs; exact absurd hm (Nat.not_lt_zero _)
        | succ n_5 ih_6 =>
          intro row mo c2 m2 hm hrow hmo hs H locs hP hD hS ls hl
          refine lv_iload S.1 S.2.1 dX5_search_32 (lv_at hl 0 rfl) ?_
          refine z_bipush S (by decide +kernel) dX5_search_34 ?_
          refine z_icmp_ge (tgt := 88) S dX5_search_36 (by decide) (by omega) (fun c_36 => ?_) (fun c_36 => ?_)
          · skip
            refine z_iinc (lv' := [(5, .int (jI (L + 1))), (7, .int (jI (row))), (6, .int (jI (mo))), (0, .ref h), (1, .ref pp), (2, .ref ff), (3, .int (jI (q))), (4, .int (jI (w)))]) S hl (k := 2) rfl (by decide) rfl dX5_search_88 (fun ls hl => ?_)
            refine z_goto (tgt := 3) S dX5_search_91 (by decide) ?_
            exact ih_3 (L + 1) c2 m2 (by omega) (by omega) (zNoRow_next hno (zSrch_end hs (by omega) (by omega))) _ _ hP hD hS ls (lv_sub hl [0, 3, 4, 5, 6, 7] rfl)
          · skip
            refine lv_iload S.1 S.2.1 dX5_search_39 (lv_at hl 1 rfl) ?_
            refine z_if_eq (tgt := 88) S dX5_search_41 (by decide) (by omega) (fun c_41 => ?_) (fun c_41 => ?_)
            · skip
              refine z_iinc (lv' := [(5, .int (jI (L + 1))), (7, .int (jI (row))), (6, .int (jI (mo))), (0, .ref h), (1, .ref pp), (2, .ref ff), (3, .int (jI (q))), (4, .int (jI (w)))]) S hl (k := 2) rfl (by decide) rfl dX5_search_88 (fun ls hl => ?_)
              refine z_goto (tgt := 3) S dX5_search_91 (by decide) ?_
              exact ih_3 (L + 1) c2 m2 (by omega) (by omega) (zNoRow_next hno (zSrch_end hs (by omega) (by omega))) _ _ hP hD hS ls (lv_sub hl [0, 3, 4, 5, 6, 7] rfl)
            · skip
              have hsa := zSrch_a hs (by omega)
              refine lv_aload_n S.1 S.2.1 dX5_search_44 rfl (lv_at hl 3 rfl) ?_
              refine lv_aload_n S.1 S.2.1 dX5_search_45 rfl (lv_at hl 4 rfl) ?_
              refine lv_iload S.1 S.2.1 dX5_search_46 (lv_at hl 2 rfl) ?_
              refine z_mv (wr := [(ff, .inr (0, [.ref fa])), (fa, eI E 1000 fw)]) (z_mV S hK (c_X5_readNumbers l E h a0 a1 pp pa c2 m2 n on an kd vl nb fr tl L (by omega) (zCh_rng hsa.1) (by omega) (hon) (hpe) (zAp_sub (ws := [(h, .inr (5, [.ref a0, .ref a1])), (a0, eI E 3 c2), (a1, eI E 3 m2), (pp, .inr (4, [.ref pa, .int (jI n)])), (pa, eN E 10 on), (ff, .inr (0, [.ref fa])), (fa, eI E 1000 fw)]) (zAp_adr hap rfl) [0, 1, 2, 3, 4] rfl) _) gX5_search_X5_readNumbers rfl hv_X5_readNumbers ⟨Nat.le_of_ble_eq_true rfl, Nat.le_of_ble_eq_true rfl⟩ (va_recv hK hP (ci := 5) (q0 := 0) rfl rfl) (hP.sub [0, 1, 2, 3, 4] rfl) (hD.sub [0, 1, 2, 3, 4] (by decide) rfl) (zNm_keep hG hS hNA) hl.1 rfl (Nat.le_of_ble_eq_true rfl) ⟨by decide, by decide⟩ rfl dX5_search_48) hP hD hS hA [0, 1, 2, 3, 4] [5, 6] [2, 3, 4, 5, 6, 0, 1] rfl rfl (by decide) (by decide) (fun (u : Int → Int) => [(h, .inr (5, [.ref a0, .ref a1])), (a0, eI E 3 c2), (a1, eI E 3 u), (pp, .inr (4, [.ref pa, .int (jI n)])), (pa, eN E 10 on), (ff, .inr (0, [.ref fa])), (fa, eI E 1000 fw)]) (by decide) (fun _ => rfl) (fun u H locs h_48 hP hD hS => ?_)
              obtain ⟨u48_nm, u48_nm_e⟩ : ∃ z, z = u := ⟨_, rfl⟩
              subst u48_nm_e
              try dsimp only at h_48
              have hP : zP E ([(h, .inr (5, [.ref a0, .ref a1])), (a0, eI E 3 c2), (a1, eI E 3 u48_nm), (pp, .inr (4, [.ref pa, .int (jI n)])), (pa, eN E 10 on), (ff, .inr (0, [.ref fa])), (fa, eI E 1000 fw)]) H := hP
              have hD : va_D A ([(h, .inr (5, [.ref a0, .ref a1])), (a0, eI E 3 c2), (a1, eI E 3 u48_nm), (pp, .inr (4, [.ref pa, .int (jI n)])), (pa, eN E 10 on), (ff, .inr (0, [.ref fa])), (fa, eI E 1000 fw)]) := hD
              refine lv_aload_n S.1 S.2.1 dX5_search_51 rfl (lv_at hl 5 rfl) ?_
              refine lv_aload_n S.1 S.2.1 dX5_search_52 rfl (lv_at hl 3 rfl) ?_
              refine z_get S hK hP 0 rfl rfl 1 (by decide) i_X5_search_5 q_X5_search_1 rfl dX5_search_53 ?_
              refine lv_iload S.1 S.2.1 dX5_search_56 (lv_at hl 2 rfl) ?_
              refine lv_iload_n S.1 S.2.1 dX5_search_58 rfl (lv_at hl 6 rfl) ?_
              refine lv_iload S.1 S.2.1 dX5_search_59 (lv_at hl 7 rfl) ?_
              refine z_ri (z_rV S hK (c_X0_withinBy l E ff fa a1 fw 3 u48_nm L q w ((zCan nb lv n)) (by omega) (by omega) (by omega) (by omega) (fun i q1 q2 => by rw [h_48 i q1 q2]; exact (hpe _ (zCh_rng hsa.1 i q1 q2).1 (zCh_rng hsa.1 i q1 q2).2).2.2.1) (hT)) gX5_search_X0_withinBy rfl hv_X0_withinBy ⟨Nat.le_of_ble_eq_true rfl, Nat.le_of_ble_eq_true rfl⟩ (va_recv hK hP (ci := 0) (q0 := 5) rfl rfl) (hP.sub [5, 6, 2] rfl) hl.1 rfl (Nat.le_of_ble_eq_true rfl) ⟨by decide, by decide⟩ rfl dX5_search_61) (fun r_61 h_61 => ?_)
              have hwr : zIn (zMore (zCan nb lv n) u48_nm L) w q ↔ zWr (zCan nb lv n) nb w q (zcd L c2) := zIn_cong (fun a _ _ => zMore_row hsa.1 (by omega) h_48 a)
              refine z_if_eq (tgt := 70) S dX5_search_64 (by decide) (by omega) (fun c_64 => ?_) (fun c_64 => ?_)
              · skip
                refine lv_aload_n S.1 S.2.1 dX5_search_70 rfl (lv_at hl 3 rfl) ?_
                refine lv_aload_n S.1 S.2.1 dX5_search_71 rfl (lv_at hl 4 rfl) ?_
                refine z_ri (z_rV S hK (c_X4_size l E pp pa n on) gX5_search_X4_size rfl hv_X4_size ⟨Nat.le_of_ble_eq_true rfl, Nat.le_of_ble_eq_true rfl⟩ (va_recv hK hP (ci := 4) (q0 := 3) rfl rfl) (hP.sub [3, 4] rfl) hl.1 rfl (Nat.le_of_ble_eq_true rfl) ⟨by decide, by decide⟩ rfl dX5_search_72) (fun r_72 h_72 => ?_)
                rw [h_72]
                refine lv_iload S.1 S.2.1 dX5_search_75 (lv_at hl 2 rfl) ?_
                refine z_mi (wr := [(pp, .inr (4, [.ref pa, .int (jI n)])), (pa, eN E 10 on), (ff, .inr (0, [.ref fa])), (fa, eI E 1000 fw)]) (z_mV S hK (c_X5_chooseNext l E h a0 a1 c2 u48_nm n L (by omega) (by omega) (zCh_rng hsa.1) _) gX5_search_X5_chooseNext rfl hv_X5_chooseNext ⟨Nat.le_of_ble_eq_true rfl, Nat.le_of_ble_eq_true rfl⟩ (va_recv hK hP (ci := 5) (q0 := 0) rfl rfl) (hP.sub [0, 1, 2] rfl) (hD.sub [0, 1, 2] (by decide) rfl) trivial hl.1 rfl (Nat.le_of_ble_eq_true rfl) ⟨by decide, by decide⟩ rfl dX5_search_77) hP hD hS hA [0, 1, 2] [3, 4, 5, 6] [4, 5, 6, 0, 1, 2, 3] rfl rfl (by decide) (by decide) (fun (u : Int → Int) => [(h, .inr (5, [.ref a0, .ref a1])), (a0, eI E 3 u), (a1, eI E 3 u48_nm), (pp, .inr (4, [.ref pa, .int (jI n)])), (pa, eN E 10 on), (ff, .inr (0, [.ref fa])), (fa, eI E 1000 fw)]) (by decide) (fun _ => rfl) (fun r_77 u H locs h_77 hP hD hS => ?_)
                obtain ⟨u77_ch, u77_ch_e⟩ : ∃ z, z = u := ⟨_, rfl⟩
                subst u77_ch_e
                try dsimp only at h_77
                have hP : zP E ([(h, .inr (5, [.ref a0, .ref a1])), (a0, eI E 3 u77_ch), (a1, eI E 3 u48_nm), (pp, .inr (4, [.ref pa, .int (jI n)])), (pa, eN E 10 on), (ff, .inr (0, [.ref fa])), (fa, eI E 1000 fw)]) H := hP
                have hD : va_D A ([(h, .inr (5, [.ref a0, .ref a1])), (a0, eI E 3 u77_ch), (a1, eI E 3 u48_nm), (pp, .inr (4, [.ref pa, .int (jI n)])), (pa, eN E 10 on), (ff, .inr (0, [.ref fa])), (fa, eI E 1000 fw)]) := hD
                have h77r : r_77 = 0 ∨ r_77 = 1 := h_77.elim (fun z => Or.inl z.1) (fun z => Or.inr z.1)
                have hnw : ¬ zWr (zCan nb lv n) nb w q (zcd L c2) := fun z => zB_f h_61 (by omega) (hwr.mpr z)
                refine lv_istore (lv' := [(6, .int (jI (r_77))), (7, .int (jI (row))), (5, .int (jI (L))), (0, .ref h), (1, .ref pp), (2, .ref ff), (3, .int (jI (q))), (4, .int (jI (w)))]) S.1 S.2.1 dX5_search_80 hl (by decide) rfl (fun ls hl => ?_)
                refine z_iinc (lv' := [(7, .int (jI (row + 1))), (6, .int (jI (r_77))), (5, .int (jI (L))), (0, .ref h), (1, .ref pp), (2, .ref ff), (3, .int (jI (q))), (4, .int (jI (w)))]) S hl (k := 1) rfl (by decide) rfl dX5_search_82 (fun ls hl => ?_)
                refine z_goto (tgt := 32) S dX5_search_85 (by decide) ?_
                exact ih_6 (row + 1) r_77 u77_ch u48_nm (by omega) (by omega) (by omega) (zSrch_next hs (by omega) (by omega) hnw h_77) _ _ hP hD hS ls (lv_sub hl [0, 1, 2, 3, 4, 5, 6, 7] rfl)
              · skip
                refine lv_iload S.1 S.2.1 dX5_search_67 (lv_at hl 2 rfl) ?_
                exact hQ (L) ((c2, u48_nm)) _ _ (zFound_hit hno (by omega) hs (by omega) (hwr.mp (zB_t h_61 (by omega)))) hP hD hS _ _ dX5_search_69
