theorem i_X6_one_3 : ∀ w ∈ u_ws RX3 TX3 4, w ∈ wsX6_one := fun w h => List.mem_cons_of_mem _ (List.mem_append_left _ (List.mem_append_right _ h))
theorem q_X6_one_7 : Cond.classLink RX6 55 RX3 ∈ wsX6_one := List.mem_of_getElem? (i := 7) rfl
theorem q_X6_one_8 : Cond.instantiable RX3 4 ∈ wsX6_one := List.mem_of_getElem? (i := 8) rfl
theorem q_X6_one_9 : Cond.initialized RX3 ∈ wsX6_one := List.mem_of_getElem? (i := 9) rfl
theorem q_X6_one_42 : Cond.methodLink RX6 57 yX3_init ∈ wsX6_one := List.mem_of_getElem? (i := 42) rfl
theorem q_X6_one_32 : Cond.instanceMethod yX3_init ∈ wsX6_one := List.mem_of_getElem? (i := 32) rfl
theorem i_X6_one_2 : ∀ w ∈ u_ws RX2 TX2 4, w ∈ wsX6_one := fun w h => List.mem_cons_of_mem _ (List.mem_append_left _ (List.mem_append_left _ (List.mem_append_right _ h)))
theorem q_X6_one_4 : Cond.classLink RX6 52 RX2 ∈ wsX6_one := List.mem_of_getElem? (i := 4) rfl
theorem q_X6_one_5 : Cond.instantiable RX2 4 ∈ wsX6_one := List.mem_of_getElem? (i := 5) rfl
theorem q_X6_one_6 : Cond.initialized RX2 ∈ wsX6_one := List.mem_of_getElem? (i := 6) rfl
theorem q_X6_one_41 : Cond.methodLink RX6 54 yX2_init ∈ wsX6_one := List.mem_of_getElem? (i := 41) rfl
theorem q_X6_one_29 : Cond.instanceMethod yX2_init ∈ wsX6_one := List.mem_of_getElem? (i := 29) rfl
theorem i_X6_one_1 : ∀ w ∈ u_ws RX1 TX1 4, w ∈ wsX6_one := fun w h => List.mem_cons_of_mem _ (List.mem_append_left _ (List.mem_append_left _ (List.mem_append_left _ (List.mem_append_right _ h))))
theorem q_X6_one_1 : Cond.classLink RX6 47 RX1 ∈ wsX6_one := List.mem_of_getElem? (i := 1) rfl
theorem q_X6_one_2 : Cond.instantiable RX1 4 ∈ wsX6_one := List.mem_of_getElem? (i := 2) rfl
theorem q_X6_one_3 : Cond.initialized RX1 ∈ wsX6_one := List.mem_of_getElem? (i := 3) rfl
theorem q_X6_one_25 : Cond.methodLink RX6 49 yX1_init ∈ wsX6_one := List.mem_of_getElem? (i := 25) rfl
theorem q_X6_one_26 : Cond.instanceMethod yX1_init ∈ wsX6_one := List.mem_of_getElem? (i := 26) rfl
theorem hs_X1_init : yX1_init.cls ≠ "java/lang/invoke/MethodHandle" ∧ yX1_init.cls ≠ "java/lang/invoke/VarHandle" ∧ (parseMethodDescriptor yX1_init.desc).map (fun d => d.parameters.length) = some 4 := by decide +kernel
set_option maxHeartbeats 1000000 in
set_option maxRecDepth 20000 in
theorem c_X6_one (l : Launch) (E : zE) (h a0 : Nat) (ln : Int) (co : Int → Int) (x : Int) (hln : 0 ≤ ln ∧ ln ≤ 100) (hco : zRg co) (hx : 0 ≤ x ∧ 9 * x + 8 ≤ ln) (hgo : zAllGo co ln) : zMa l E yX6_one wsX6_one (zr 4 1 4) [.ref h, .int (jI x)] ([(h, .inr (6, [.ref a0, .int (jI ln)])), (a0, eI E 100 co)]) (fun _ => True) (fun r (u : Nat × (Nat × (Int × (Int × (Int × Int))))) => r = u.1 ∧ zOneR co x u.2.1 u.2.2.1 u.2.2.2.1 u.2.2.2.2.1 u.2.2.2.2.2) (fun (u : Nat × (Nat × (Int × (Int × (Int × Int))))) => [(h, .inr (6, [.ref a0, .int (jI ln)])), (a0, eI E 100 co)] ++ [(u.1, .inr (u.2.1, [.int (jI u.2.2.1), .int (jI u.2.2.2.1), .int (jI u.2.2.2.2.1), .int (jI u.2.2.2.2.2)]))]) 1 4 := by
  refine zMa_of (own := RX6) (cc := cX6_one) (maxL := 7) (by decide) rfl (Nat.le_of_ble_eq_true rfl) rfl ?_
  intro p e s m args below meth c Q A S hK hA hS hP hD hAe hG hQ ls hl
  have hl : lv_has ls 7 [(0, .ref h), (1, .int (jI (x)))] := hl
  refine lv_iload_n S.1 S.2.1 dX6_one_0 rfl (lv_at hl 1 rfl) ?_
  refine z_bipush S (by decide +kernel) dX6_one_1 ?_
  refine z_imul S dX6_one_3 ?_
  refine lv_istore_n (lv' := [(2, .int (jI (x * 9))), (0, .ref h), (1, .int (jI (x)))]) S.1 S.2.1 dX6_one_4 rfl hl (by decide) rfl (fun ls hl => ?_)
  refine lv_aload_n S.1 S.2.1 dX6_one_5 rfl (lv_at hl 1 rfl) ?_
  refine lv_iload_n S.1 S.2.1 dX6_one_6 rfl (lv_at hl 0 rfl) ?_
  refine z_iconst S dX6_one_7 ?_
  refine z_iadd S dX6_one_8 ?_
  refine z_ri (z_rV S hK (c_X6_digit l E h a0 ln co ((x * 9) + 1) (by omega) (by omega) (hco)) gX6_one_X6_digit rfl hv_X6_digit ⟨Nat.le_of_ble_eq_true rfl, Nat.le_of_ble_eq_true rfl⟩ (va_recv hK hP (ci := 6) (q0 := 0) rfl rfl) hP hl.1 rfl (Nat.le_of_ble_eq_true rfl) ⟨by decide, by decide⟩ rfl dX6_one_9) (fun r_9 h_9 => ?_)
  have h_9b := zFi_rng h_9
  refine lv_istore_n (lv' := [(3, .int (jI (r_9))), (2, .int (jI (x * 9))), (0, .ref h), (1, .int (jI (x)))]) S.1 S.2.1 dX6_one_12 rfl hl (by decide) rfl (fun ls hl => ?_)
  refine lv_aload_n S.1 S.2.1 dX6_one_13 rfl (lv_at hl 2 rfl) ?_
  refine lv_iload_n S.1 S.2.1 dX6_one_14 rfl (lv_at hl 1 rfl) ?_
  refine z_iconst S dX6_one_15 ?_
  refine z_iadd S dX6_one_16 ?_
  refine z_ri (z_rV S hK (c_X6_pair l E h a0 ln co ((x * 9) + 2) (by omega) (by omega) (hco)) gX6_one_X6_pair rfl hv_X6_pair ⟨Nat.le_of_ble_eq_true rfl, Nat.le_of_ble_eq_true rfl⟩ (va_recv hK hP (ci := 6) (q0 := 0) rfl rfl) hP hl.1 rfl (Nat.le_of_ble_eq_true rfl) ⟨by decide, by decide⟩ rfl dX6_one_17) (fun r_17 h_17 => ?_)
  refine lv_istore (lv' := [(4, .int (jI (r_17))), (3, .int (jI (r_9))), (2, .int (jI (x * 9))), (0, .ref h), (1, .int (jI (x)))]) S.1 S.2.1 dX6_one_20 hl (by decide) rfl (fun ls hl => ?_)
  refine lv_aload_n S.1 S.2.1 dX6_one_22 rfl (lv_at hl 3 rfl) ?_
  refine lv_iload_n S.1 S.2.1 dX6_one_23 rfl (lv_at hl 2 rfl) ?_
  refine z_iconst S dX6_one_24 ?_
  refine z_iadd S dX6_one_25 ?_
  refine z_ri (z_rV S hK (c_X6_pair l E h a0 ln co ((x * 9) + 4) (by omega) (by omega) (hco)) gX6_one_X6_pair rfl hv_X6_pair ⟨Nat.le_of_ble_eq_true rfl, Nat.le_of_ble_eq_true rfl⟩ (va_recv hK hP (ci := 6) (q0 := 0) rfl rfl) hP hl.1 rfl (Nat.le_of_ble_eq_true rfl) ⟨by decide, by decide⟩ rfl dX6_one_26) (fun r_26 h_26 => ?_)
  refine lv_istore (lv' := [(5, .int (jI (r_26))), (4, .int (jI (r_17))), (3, .int (jI (r_9))), (2, .int (jI (x * 9))), (0, .ref h), (1, .int (jI (x)))]) S.1 S.2.1 dX6_one_29 hl (by decide) rfl (fun ls hl => ?_)
  refine lv_aload_n S.1 S.2.1 dX6_one_31 rfl (lv_at hl 4 rfl) ?_
  refine lv_iload_n S.1 S.2.1 dX6_one_32 rfl (lv_at hl 3 rfl) ?_
  refine z_bipush S (by decide +kernel) dX6_one_33 ?_
  refine z_iadd S dX6_one_35 ?_
  refine z_ri (z_rV S hK (c_X6_pair l E h a0 ln co ((x * 9) + 6) (by omega) (by omega) (hco)) gX6_one_X6_pair rfl hv_X6_pair ⟨Nat.le_of_ble_eq_true rfl, Nat.le_of_ble_eq_true rfl⟩ (va_recv hK hP (ci := 6) (q0 := 0) rfl rfl) hP hl.1 rfl (Nat.le_of_ble_eq_true rfl) ⟨by decide, by decide⟩ rfl dX6_one_36) (fun r_36 h_36 => ?_)
  refine lv_istore (lv' := [(6, .int (jI (r_36))), (5, .int (jI (r_26))), (4, .int (jI (r_17))), (3, .int (jI (r_9))), (2, .int (jI (x * 9))), (0, .ref h), (1, .int (jI (x)))]) S.1 S.2.1 dX6_one_39 hl (by decide) rfl (fun ls hl => ?_)
  refine lv_aload_n S.1 S.2.1 dX6_one_41 rfl (lv_at hl 5 rfl) ?_
  refine lv_iload_n S.1 S.2.1 dX6_one_42 rfl (lv_at hl 4 rfl) ?_
  refine z_ri (z_rV S hK (c_X6_code l E h a0 ln co (x * 9) (by omega) (by omega) (hco)) gX6_one_X6_code rfl hv_X6_code ⟨Nat.le_of_ble_eq_true rfl, Nat.le_of_ble_eq_true rfl⟩ (va_recv hK hP (ci := 6) (q0 := 0) rfl rfl) hP hl.1 rfl (Nat.le_of_ble_eq_true rfl) ⟨by decide, by decide⟩ rfl dX6_one_43) (fun r_43 h_43 => ?_)
  refine z_bipush S (by decide +kernel) dX6_one_46 ?_
  have hcp := hco (x * 9)
  refine z_icmp_ne (tgt := 66) S dX6_one_48 (by decide) (by omega) (fun c_48 => ?_) (fun c_48 => ?_)
  · skip
    refine lv_aload_n S.1 S.2.1 dX6_one_66 rfl (lv_at hl 5 rfl) ?_
    refine lv_iload_n S.1 S.2.1 dX6_one_67 rfl (lv_at hl 4 rfl) ?_
    refine z_ri (z_rV S hK (c_X6_code l E h a0 ln co (x * 9) (by omega) (by omega) (hco)) gX6_one_X6_code rfl hv_X6_code ⟨Nat.le_of_ble_eq_true rfl, Nat.le_of_ble_eq_true rfl⟩ (va_recv hK hP (ci := 6) (q0 := 0) rfl rfl) hP hl.1 rfl (Nat.le_of_ble_eq_true rfl) ⟨by decide, by decide⟩ rfl dX6_one_68) (fun r_68 h_68 => ?_)
    refine z_bipush S (by decide +kernel) dX6_one_71 ?_
    have hcp := hco (x * 9)
    refine z_icmp_ne (tgt := 91) S dX6_one_73 (by decide) (by omega) (fun c_73 => ?_) (fun c_73 => ?_)
    · skip
      refine z_new S hK hP hD hS hA (ci := 3) (fs := [.int (jI 0), .int (jI 0), .int (jI 0), .int (jI 0)]) i_X6_one_3 tyX3 tyX3_ok q_X6_one_7 q_X6_one_8 q_X6_one_9 rfl (by intro j hj; have hj2 : j = 0 ∨ j = 1 ∨ j = 2 ∨ j = 3 := (by omega); rcases hj2 with rfl | rfl | rfl | rfl <;> rfl) (Nat.le_of_ble_eq_true rfl) (Nat.le_of_ble_eq_true rfl) dX6_one_91 (fun q91 H hP hD hS => ?_)
      have hP : zP E ([(h, .inr (6, [.ref a0, .int (jI ln)])), (a0, eI E 100 co), (q91, .inr (3, [.int (jI 0), .int (jI 0), .int (jI 0), .int (jI 0)]))]) H := hP
      have hD : va_D A ([(h, .inr (6, [.ref a0, .int (jI ln)])), (a0, eI E 100 co), (q91, .inr (3, [.int (jI 0), .int (jI 0), .int (jI 0), .int (jI 0)]))]) := hD
      refine lv_dup S.1 S.2.1 dX6_one_94 rfl ?_
      refine lv_iload_n S.1 S.2.1 dX6_one_95 rfl (lv_at hl 3 rfl) ?_
      refine lv_iload S.1 S.2.1 dX6_one_96 (lv_at hl 2 rfl) ?_
      refine lv_iload S.1 S.2.1 dX6_one_98 (lv_at hl 1 rfl) ?_
      refine lv_iload S.1 S.2.1 dX6_one_100 (lv_at hl 0 rfl) ?_
      refine z_mv (wr := [(h, .inr (6, [.ref a0, .int (jI ln)])), (a0, eI E 100 co)]) (z_mI S hK (c_X3_init_3 l E q91 r_9 r_17 r_26 r_36 _) ggX6_one_X3_init q_X6_one_9 q_X6_one_42 q_X6_one_32 rfl rfl hs_X3_init ⟨(Nat.le_of_ble_eq_true rfl), (Nat.le_of_ble_eq_true rfl)⟩ (hP.sub [2] rfl) (hD.sub [2] (by decide) rfl) trivial hl.1 rfl (Nat.le_of_ble_eq_true rfl) ⟨(Nat.le_of_ble_eq_true rfl), (Nat.le_of_ble_eq_true rfl)⟩ rfl dX6_one_102) hP hD hS hA [2] [0, 1] [0, 1, 2] rfl rfl (by decide) (by decide) (fun (u : Unit) => [(h, .inr (6, [.ref a0, .int (jI ln)])), (a0, eI E 100 co), (q91, .inr (3, [.int (jI r_9), .int (jI r_17), .int (jI r_26), .int (jI r_36)]))]) (by decide) (fun _ => rfl) (fun u H locs h_102 hP hD hS => ?_)
      have hP : zP E ([(h, .inr (6, [.ref a0, .int (jI ln)])), (a0, eI E 100 co), (q91, .inr (3, [.int (jI r_9), .int (jI r_17), .int (jI r_26), .int (jI r_36)]))]) H := hP
      have hD : va_D A ([(h, .inr (6, [.ref a0, .int (jI ln)])), (a0, eI E 100 co), (q91, .inr (3, [.int (jI r_9), .int (jI r_17), .int (jI r_26), .int (jI r_36)]))]) := hD
      exact hQ q91 ((q91, (3, (r_9, (r_17, (r_26, r_36)))))) _ _ (⟨rfl, zOneR_is (t := co) (x := x) (ci := 3) hx hgo h_9 h_17.2 h_26.2 h_36.2 (by omega)⟩) hP hD hS _ _ dX6_one_105
    · skip
      refine z_new S hK hP hD hS hA (ci := 2) (fs := [.int (jI 0), .int (jI 0), .int (jI 0), .int (jI 0)]) i_X6_one_2 tyX2 tyX2_ok q_X6_one_4 q_X6_one_5 q_X6_one_6 rfl (by intro j hj; have hj2 : j = 0 ∨ j = 1 ∨ j = 2 ∨ j = 3 := (by omega); rcases hj2 with rfl | rfl | rfl | rfl <;> rfl) (Nat.le_of_ble_eq_true rfl) (Nat.le_of_ble_eq_true rfl) dX6_one_76 (fun q76 H hP hD hS => ?_)
      have hP : zP E ([(h, .inr (6, [.ref a0, .int (jI ln)])), (a0, eI E 100 co), (q76, .inr (2, [.int (jI 0), .int (jI 0), .int (jI 0), .int (jI 0)]))]) H := hP
      have hD : va_D A ([(h, .inr (6, [.ref a0, .int (jI ln)])), (a0, eI E 100 co), (q76, .inr (2, [.int (jI 0), .int (jI 0), .int (jI 0), .int (jI 0)]))]) := hD
      refine lv_dup S.1 S.2.1 dX6_one_79 rfl ?_
      refine lv_iload_n S.1 S.2.1 dX6_one_80 rfl (lv_at hl 3 rfl) ?_
      refine lv_iload S.1 S.2.1 dX6_one_81 (lv_at hl 2 rfl) ?_
      refine lv_iload S.1 S.2.1 dX6_one_83 (lv_at hl 1 rfl) ?_
      refine lv_iload S.1 S.2.1 dX6_one_85 (lv_at hl 0 rfl) ?_
      refine z_mv (wr := [(h, .inr (6, [.ref a0, .int (jI ln)])), (a0, eI E 100 co)]) (z_mI S hK (c_X2_init_2 l E q76 r_9 r_17 r_26 r_36 _) ggX6_one_X2_init q_X6_one_6 q_X6_one_41 q_X6_one_29 rfl rfl hs_X2_init ⟨(Nat.le_of_ble_eq_true rfl), (Nat.le_of_ble_eq_true rfl)⟩ (hP.sub [2] rfl) (hD.sub [2] (by decide) rfl) trivial hl.1 rfl (Nat.le_of_ble_eq_true rfl) ⟨(Nat.le_of_ble_eq_true rfl), (Nat.le_of_ble_eq_true rfl)⟩ rfl dX6_one_87) hP hD hS hA [2] [0, 1] [0, 1, 2] rfl rfl (by decide) (by decide) (fun (u : Unit) => [(h, .inr (6, [.ref a0, .int (jI ln)])), (a0, eI E 100 co), (q76, .inr (2, [.int (jI r_9), .int (jI r_17), .int (jI r_26), .int (jI r_36)]))]) (by decide) (fun _ => rfl) (fun u H locs h_87 hP hD hS => ?_)
      have hP : zP E ([(h, .inr (6, [.ref a0, .int (jI ln)])), (a0, eI E 100 co), (q76, .inr (2, [.int (jI r_9), .int (jI r_17), .int (jI r_26), .int (jI r_36)]))]) H := hP
      have hD : va_D A ([(h, .inr (6, [.ref a0, .int (jI ln)])), (a0, eI E 100 co), (q76, .inr (2, [.int (jI r_9), .int (jI r_17), .int (jI r_26), .int (jI r_36)]))]) := hD
      exact hQ q76 ((q76, (2, (r_9, (r_17, (r_26, r_36)))))) _ _ (⟨rfl, zOneR_is (t := co) (x := x) (ci := 2) hx hgo h_9 h_17.2 h_26.2 h_36.2 (by omega)⟩) hP hD hS _ _ dX6_one_90
  · skip
    refine z_new S hK hP hD hS hA (ci := 1) (fs := [.int (jI 0), .int (jI 0), .int (jI 0), .int (jI 0)]) i_X6_one_1 tyX1 tyX1_ok q_X6_one_1 q_X6_one_2 q_X6_one_3 rfl (by intro j hj; have hj2 : j = 0 ∨ j = 1 ∨ j = 2 ∨ j = 3 := (by omega); rcases hj2 with rfl | rfl | rfl | rfl <;> rfl) (Nat.le_of_ble_eq_true rfl) (Nat.le_of_ble_eq_true rfl) dX6_one_51 (fun q51 H hP hD hS => ?_)
    have hP : zP E ([(h, .inr (6, [.ref a0, .int (jI ln)])), (a0, eI E 100 co), (q51, .inr (1, [.int (jI 0), .int (jI 0), .int (jI 0), .int (jI 0)]))]) H := hP
    have hD : va_D A ([(h, .inr (6, [.ref a0, .int (jI ln)])), (a0, eI E 100 co), (q51, .inr (1, [.int (jI 0), .int (jI 0), .int (jI 0), .int (jI 0)]))]) := hD
    refine lv_dup S.1 S.2.1 dX6_one_54 rfl ?_
    refine lv_iload_n S.1 S.2.1 dX6_one_55 rfl (lv_at hl 3 rfl) ?_
    refine lv_iload S.1 S.2.1 dX6_one_56 (lv_at hl 2 rfl) ?_
    refine lv_iload S.1 S.2.1 dX6_one_58 (lv_at hl 1 rfl) ?_
    refine lv_iload S.1 S.2.1 dX6_one_60 (lv_at hl 0 rfl) ?_
    refine z_mv (wr := [(h, .inr (6, [.ref a0, .int (jI ln)])), (a0, eI E 100 co)]) (z_mI S hK (c_X1_init_1 l E q51 r_9 r_17 r_26 r_36 _) ggX6_one_X1_init q_X6_one_3 q_X6_one_25 q_X6_one_26 rfl rfl hs_X1_init ⟨(Nat.le_of_ble_eq_true rfl), (Nat.le_of_ble_eq_true rfl)⟩ (hP.sub [2] rfl) (hD.sub [2] (by decide) rfl) trivial hl.1 rfl (Nat.le_of_ble_eq_true rfl) ⟨(Nat.le_of_ble_eq_true rfl), (Nat.le_of_ble_eq_true rfl)⟩ rfl dX6_one_62) hP hD hS hA [2] [0, 1] [0, 1, 2] rfl rfl (by decide) (by decide) (fun (u : Unit) => [(h, .inr (6, [.ref a0, .int (jI ln)])), (a0, eI E 100 co), (q51, .inr (1, [.int (jI r_9), .int (jI r_17), .int (jI r_26), .int (jI r_36)]))]) (by decide) (fun _ => rfl) (fun u H locs h_62 hP hD hS => ?_)
    have hP : zP E ([(h, .inr (6, [.ref a0, .int (jI ln)])), (a0, eI E 100 co), (q51, .inr (1, [.int (jI r_9), .int (jI r_17), .int (jI r_26), .int (jI r_36)]))]) H := hP
    have hD : va_D A ([(h, .inr (6, [.ref a0, .int (jI ln)])), (a0, eI E 100 co), (q51, .inr (1, [.int (jI r_9), .int (jI r_17), .int (jI r_26), .int (jI r_36)]))]) := hD
    exact hQ q51 ((q51, (1, (r_9, (r_17, (r_26, r_36)))))) _ _ (⟨rfl, zOneR_is (t := co) (x := x) (ci := 1) hx hgo h_9 h_17.2 h_26.2 h_36.2 (by omega)⟩) hP hD hS _ _ dX6_one_65
