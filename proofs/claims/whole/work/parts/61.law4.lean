theorem hw_X9_both : yX9_both.cls = RX9 ∧ yX9_both.cls ≠ "java/lang/invoke/MethodHandle" ∧ yX9_both.cls ≠ "java/lang/invoke/VarHandle" ∧ (parseMethodDescriptor yX9_both.desc).map (fun d => d.parameters.length) = some 3 := by decide +kernel
theorem hw_X10_both : yX10_both.cls = RX10 ∧ yX10_both.cls ≠ "java/lang/invoke/MethodHandle" ∧ yX10_both.cls ≠ "java/lang/invoke/VarHandle" ∧ (parseMethodDescriptor yX10_both.desc).map (fun d => d.parameters.length) = some 3 := by decide +kernel
theorem hw_X9_written : yX9_written.cls = RX9 ∧ yX9_written.cls ≠ "java/lang/invoke/MethodHandle" ∧ yX9_written.cls ≠ "java/lang/invoke/VarHandle" ∧ (parseMethodDescriptor yX9_written.desc).map (fun d => d.parameters.length) = some 6 := by decide +kernel
theorem hw_X10_written : yX10_written.cls = RX10 ∧ yX10_written.cls ≠ "java/lang/invoke/MethodHandle" ∧ yX10_written.cls ≠ "java/lang/invoke/VarHandle" ∧ (parseMethodDescriptor yX10_written.desc).map (fun d => d.parameters.length) = some 6 := by decide +kernel
set_option maxHeartbeats 4000000 in
set_option maxRecDepth 100000 in
theorem law_both {p : Program} {l : Launch} {e : Env} {s : State} {m : MethodId} {below : List Frame} {meth : Method} {c : Code} {E : zE} {b L : Nat} {xs : Nat → Int32} {i : Int} {ac ad : Nat → Nat} {H : Heap} {locs : List Loc} {cells slots : Nat} {Q : State → Prop} {ls : Array Slot} (S : CallFix p m c code 4 s #[.ref b] wsL_law RL) (hK : zK E s) (hCs : zCs s) (hX : va_X b L xs s s.heap) (hbl : b < s.heap.size) (hi : 0 ≤ i ∧ i + 9 ≤ L ∧ L ≤ 4608) (hc : cells + 10 ≤ 600000 ∧ slots + 40 ≤ 7302250) (hZ : zLS E ac ad (fun q : Nat => s.heap.size ≤ q) H) (hS : va_S (fun q : Nat => s.heap.size ≤ q) s.heap H locs) (hl : lv_has ls 4 [(3, .int (jI i)), (2, .ref (ad 0)), (1, .ref (ac 0)), (0, .ref b)]) (KK : ∀ (H : Heap) (locs : List Loc), zLS E ac ad (fun q : Nat => s.heap.size ≤ q) H → va_S (fun q : Nat => s.heap.size ≤ q) s.heap H locs → ∀ ls : Array Slot, lv_has ls 4 [(3, .int (jI i)), (2, .ref (ad 0)), (1, .ref (ac 0)), (0, .ref b)] → W p l e room_1 s m #[Value.ref b] below meth c H locs (cells + 10) (slots + 40) Q (F0 m 1299 ls [])) : W p l e room_1 s m #[Value.ref b] below meth c H locs cells slots Q (F0 m 677 ls []) := by
  obtain ⟨flt, ce, la, si, ln, co, n, on, tr, fw, cw, ch, nm, kd, vl, nb, fr, tl, rA, rP, rk, rv, rn, rf, rt, can, fm, fs, ss, sl, hd, an, pl, ⟨hrel, hce, hln, hco, hp, hon, hpe, hhas, hsh⟩, hP, hD⟩ := hZ
  have hA : ∀ q : Nat, s.heap.size ≤ q → (fun q : Nat => s.heap.size ≤ q) q := fun _ h => h
  refine lv_aload_n S.1 S.2.1 dL_law_677 rfl (lv_at hl 2 rfl) ?_
  refine z_arg (j := 1) S hX hbl hS hi hl (by decide) dL_law_678 dL_law_679 dL_law_680 dL_law_681 dL_law_682 ?_
  refine z_arg (j := 2) S hX hbl hS hi hl (by decide) dL_law_683 dL_law_684 dL_law_685 dL_law_686 dL_law_687 ?_
  refine z_arg (j := 3) S hX hbl hS hi hl (by decide) dL_law_688 dL_law_689 dL_law_690 dL_law_691 dL_law_692 ?_
  have hPc : zP E (cW E ac flt ce la si ln co n on tr fw cw ch nm) H := zPl (zPr hP)
  have hN : zNm E n an kd vl nb fr tl H := zHas_nm hhas (zPr (zPr hP))
  have hap : zAp (cW E ac flt ce la si ln co n on tr fw cw ch nm) n an := zHas_ap hhas (zDr hD)
  have hDc : va_D (fun q : Nat => s.heap.size ≤ q) (cW E ac flt ce la si ln co n on tr fw cw ch nm) := zDl (zDr hD)
  refine z_si (L := mW E ad flt n kd vl nb fr tl rA rP rk rv rn rf rt can fm fs ss sl ce hd tr) (wc := cW E ac flt ce la si ln co n on tr fw cw ch nm) (Rr := pl) (z_mV S hK (c_X9_both l E ac flt ce la si ln co n on tr fw cw ch nm an kd vl nb fr tl (zsc xs (i + 1)) (zsc xs (i + 2)) (zsc xs (i + 3)) (zsc_rng _ _) (zsc_rng _ _) (zsc_rng _ _) hp hon hpe hap _) gL_law_X9_both rfl hw_X9_both ⟨Nat.le_of_ble_eq_true rfl, Nat.le_of_ble_eq_true rfl⟩ (va_recv hK hPc (ci := 9) (q0 := 0) rfl rfl) hPc hDc hN hl.1 rfl (Nat.le_of_ble_eq_true rfl) ⟨(show _ ≤ 600000 by omega), (show _ ≤ 7302250 by omega)⟩ rfl dL_law_693) hP hD hS hA (fun r1 u H locs h1 hP hD hS => ?_)
  obtain ⟨x1, x2⟩ := u
  try dsimp only at h1
  have hP : zP E (mW E ad flt n kd vl nb fr tl rA rP rk rv rn rf rt can fm fs ss sl ce hd tr ++ (cW E ac flt ce la si ln co n on tr x1 x2 ch nm ++ pl)) H := hP
  have hD : va_D (fun q : Nat => s.heap.size ≤ q) (mW E ad flt n kd vl nb fr tl rA rP rk rv rn rf rt can fm fs ss sl ce hd tr ++ (cW E ac flt ce la si ln co n on tr x1 x2 ch nm ++ pl)) := hD
  refine lv_aload_n S.1 S.2.1 dL_law_696 rfl (lv_at hl 1 rfl) ?_
  refine z_arg (j := 1) S hX hbl hS hi hl (by decide) dL_law_697 dL_law_698 dL_law_699 dL_law_700 dL_law_701 ?_
  refine z_arg (j := 2) S hX hbl hS hi hl (by decide) dL_law_702 dL_law_703 dL_law_704 dL_law_705 dL_law_706 ?_
  refine z_arg (j := 3) S hX hbl hS hi hl (by decide) dL_law_707 dL_law_708 dL_law_709 dL_law_710 dL_law_711 ?_
  have hPc : zP E (mW E ad flt n kd vl nb fr tl rA rP rk rv rn rf rt can fm fs ss sl ce hd tr) H := zPl hP
  have hDc : va_D (fun q : Nat => s.heap.size ≤ q) (mW E ad flt n kd vl nb fr tl rA rP rk rv rn rf rt can fm fs ss sl ce hd tr) := zDl hD
  refine z_si (L := []) (wc := mW E ad flt n kd vl nb fr tl rA rP rk rv rn rf rt can fm fs ss sl ce hd tr) (Rr := cW E ac flt ce la si ln co n on tr x1 x2 ch nm ++ pl) (z_mV S hK (c_X10_both l E ad flt n kd vl nb fr tl rA rP rk rv rn rf rt can fm fs ss sl ce hd tr (zsc xs (i + 1)) (zsc xs (i + 2)) (zsc xs (i + 3)) (zsc_rng _ _) (zsc_rng _ _) (zsc_rng _ _) hp hpe _) gL_law_X10_both rfl hw_X10_both ⟨Nat.le_of_ble_eq_true rfl, Nat.le_of_ble_eq_true rfl⟩ (va_recv hK hPc (ci := 10) (q0 := 0) rfl rfl) hPc hDc trivial hl.1 rfl (Nat.le_of_ble_eq_true rfl) ⟨(show _ ≤ 600000 by omega), (show _ ≤ 7302250 by omega)⟩ rfl dL_law_712) hP hD hS hA (fun r2 u H locs h2 hP hD hS => ?_)
  obtain ⟨y1, y2, y3⟩ := u
  try dsimp only at h2
  have hP : zP E (mW E ad flt n kd vl nb fr tl rA rP rk rv rn rf rt y1 y2 y3 ss sl ce hd tr ++ (cW E ac flt ce la si ln co n on tr x1 x2 ch nm ++ pl)) H := hP
  have hD : va_D (fun q : Nat => s.heap.size ≤ q) (mW E ad flt n kd vl nb fr tl rA rP rk rv rn rf rt y1 y2 y3 ss sl ce hd tr ++ (cW E ac flt ce la si ln co n on tr x1 x2 ch nm ++ pl)) := hD
  have er : r1 = r2 := zU_both h1 h2
  rw [← er]
  refine zcmpI (tgt := 1299) (R := room_1) S dL_law_715 (by decide) ?_
  refine W.widen (k := cells + 10) (n := slots + 40) (by omega) (by omega) ?_
  exact KK _ _ ⟨flt, ce, la, si, ln, co, n, on, tr, x1, x2, ch, nm, kd, vl, nb, fr, tl, rA, rP, rk, rv, rn, rf, rt, y1, y2, y3, ss, sl, hd, an, pl, ⟨hrel, hce, hln, hco, hp, hon, hpe, hhas, hsh⟩, hP, hD⟩ hS ls hl

set_option maxHeartbeats 4000000 in
set_option maxRecDepth 100000 in
theorem law_written {p : Program} {l : Launch} {e : Env} {s : State} {m : MethodId} {below : List Frame} {meth : Method} {c : Code} {E : zE} {b L : Nat} {xs : Nat → Int32} {i : Int} {ac ad : Nat → Nat} {H : Heap} {locs : List Loc} {cells slots : Nat} {Q : State → Prop} {ls : Array Slot} (S : CallFix p m c code 4 s #[.ref b] wsL_law RL) (hK : zK E s) (hCs : zCs s) (hX : va_X b L xs s s.heap) (hbl : b < s.heap.size) (hi : 0 ≤ i ∧ i + 9 ≤ L ∧ L ≤ 4608) (hc : cells + 10 ≤ 600000 ∧ slots + 40 ≤ 7302250) (hZ : zLS E ac ad (fun q : Nat => s.heap.size ≤ q) H) (hS : va_S (fun q : Nat => s.heap.size ≤ q) s.heap H locs) (hl : lv_has ls 4 [(3, .int (jI i)), (2, .ref (ad 0)), (1, .ref (ac 0)), (0, .ref b)]) (KK : ∀ (H : Heap) (locs : List Loc), zLS E ac ad (fun q : Nat => s.heap.size ≤ q) H → va_S (fun q : Nat => s.heap.size ≤ q) s.heap H locs → ∀ ls : Array Slot, lv_has ls 4 [(3, .int (jI i)), (2, .ref (ad 0)), (1, .ref (ac 0)), (0, .ref b)] → W p l e room_1 s m #[Value.ref b] below meth c H locs (cells + 10) (slots + 40) Q (F0 m 1299 ls [])) : W p l e room_1 s m #[Value.ref b] below meth c H locs cells slots Q (F0 m 720 ls []) := by
  obtain ⟨flt, ce, la, si, ln, co, n, on, tr, fw, cw, ch, nm, kd, vl, nb, fr, tl, rA, rP, rk, rv, rn, rf, rt, can, fm, fs, ss, sl, hd, an, pl, ⟨hrel, hce, hln, hco, hp, hon, hpe, hhas, hsh⟩, hP, hD⟩ := hZ
  have hA : ∀ q : Nat, s.heap.size ≤ q → (fun q : Nat => s.heap.size ≤ q) q := fun _ h => h
  refine lv_aload_n S.1 S.2.1 dL_law_720 rfl (lv_at hl 2 rfl) ?_
  refine z_arg (j := 1) S hX hbl hS hi hl (by decide) dL_law_721 dL_law_722 dL_law_723 dL_law_724 dL_law_725 ?_
  refine z_arg (j := 2) S hX hbl hS hi hl (by decide) dL_law_726 dL_law_727 dL_law_728 dL_law_729 dL_law_730 ?_
  refine z_arg (j := 3) S hX hbl hS hi hl (by decide) dL_law_731 dL_law_732 dL_law_733 dL_law_734 dL_law_735 ?_
  refine z_arg (j := 4) S hX hbl hS hi hl (by decide) dL_law_736 dL_law_737 dL_law_738 dL_law_739 dL_law_740 ?_
  refine z_arg (j := 5) S hX hbl hS hi hl (by decide) dL_law_741 dL_law_742 dL_law_743 dL_law_744 dL_law_745 ?_
  refine z_argb (j := 6) S hX hbl hS hi hl (by decide) (by decide +kernel) dL_law_746 dL_law_747 dL_law_748 dL_law_750 dL_law_751 ?_
  have hPc : zP E (cW E ac flt ce la si ln co n on tr fw cw ch nm) H := zPl (zPr hP)
  have hN : zNm E n an kd vl nb fr tl H := zHas_nm hhas (zPr (zPr hP))
  have hap : zAp (cW E ac flt ce la si ln co n on tr fw cw ch nm) n an := zHas_ap hhas (zDr hD)
  have hDc : va_D (fun q : Nat => s.heap.size ≤ q) (cW E ac flt ce la si ln co n on tr fw cw ch nm) := zDl (zDr hD)
  refine z_si (L := mW E ad flt n kd vl nb fr tl rA rP rk rv rn rf rt can fm fs ss sl ce hd tr) (wc := cW E ac flt ce la si ln co n on tr fw cw ch nm) (Rr := pl) (z_mV S hK (c_X9_written l E ac flt ce la si ln co n on tr fw cw ch nm an kd vl nb fr tl (zsc xs (i + 1)) (zsc xs (i + 2)) (zsc xs (i + 3)) (zsc xs (i + 4)) (zsc xs (i + 5)) (zsc xs (i + 6)) ss sl hrel hce (zsc_rng _ _) (zsc_rng _ _) (zsc_rng _ _) (zsc_rng _ _) (zsc_rng _ _) (zsc_rng _ _) hp hon hpe hap _) gL_law_X9_written rfl hw_X9_written ⟨Nat.le_of_ble_eq_true rfl, Nat.le_of_ble_eq_true rfl⟩ (va_recv hK hPc (ci := 9) (q0 := 0) rfl rfl) hPc hDc hN hl.1 rfl (Nat.le_of_ble_eq_true rfl) ⟨(show _ ≤ 600000 by omega), (show _ ≤ 7302250 by omega)⟩ rfl dL_law_752) hP hD hS hA (fun r1 u H locs h1 hP hD hS => ?_)
  obtain ⟨x1, x1_e⟩ : ∃ z, z = u := ⟨_, rfl⟩
  subst x1_e
  try dsimp only at h1
  have hP : zP E (mW E ad flt n kd vl nb fr tl rA rP rk rv rn rf rt can fm fs ss sl ce hd tr ++ (cW E ac x1 ce la si ln co n on tr fw cw ch nm ++ pl)) H := hP
  have hD : va_D (fun q : Nat => s.heap.size ≤ q) (mW E ad flt n kd vl nb fr tl rA rP rk rv rn rf rt can fm fs ss sl ce hd tr ++ (cW E ac x1 ce la si ln co n on tr fw cw ch nm ++ pl)) := hD
  refine lv_aload_n S.1 S.2.1 dL_law_755 rfl (lv_at hl 1 rfl) ?_
  refine z_arg (j := 1) S hX hbl hS hi hl (by decide) dL_law_756 dL_law_757 dL_law_758 dL_law_759 dL_law_760 ?_
  refine z_arg (j := 2) S hX hbl hS hi hl (by decide) dL_law_761 dL_law_762 dL_law_763 dL_law_764 dL_law_765 ?_
  refine z_arg (j := 3) S hX hbl hS hi hl (by decide) dL_law_766 dL_law_767 dL_law_768 dL_law_769 dL_law_770 ?_
  refine z_arg (j := 4) S hX hbl hS hi hl (by decide) dL_law_771 dL_law_772 dL_law_773 dL_law_774 dL_law_775 ?_
  refine z_arg (j := 5) S hX hbl hS hi hl (by decide) dL_law_776 dL_law_777 dL_law_778 dL_law_779 dL_law_780 ?_
  refine z_argb (j := 6) S hX hbl hS hi hl (by decide) (by decide +kernel) dL_law_781 dL_law_782 dL_law_783 dL_law_785 dL_law_786 ?_
  have hPc : zP E (mW E ad flt n kd vl nb fr tl rA rP rk rv rn rf rt can fm fs ss sl ce hd tr) H := zPl hP
  have hDc : va_D (fun q : Nat => s.heap.size ≤ q) (mW E ad flt n kd vl nb fr tl rA rP rk rv rn rf rt can fm fs ss sl ce hd tr) := zDl hD
  refine z_si (L := []) (wc := mW E ad flt n kd vl nb fr tl rA rP rk rv rn rf rt can fm fs ss sl ce hd tr) (Rr := cW E ac x1 ce la si ln co n on tr fw cw ch nm ++ pl) (z_mV S hK (c_X10_written l E ad flt n kd vl nb fr tl rA rP rk rv rn rf rt can fm fs ss sl ce hd tr (zsc xs (i + 1)) (zsc xs (i + 2)) (zsc xs (i + 3)) (zsc xs (i + 4)) (zsc xs (i + 5)) (zsc xs (i + 6)) (zsc_rng _ _) (zsc_rng _ _) (zsc_rng _ _) (zsc_rng _ _) (zsc_rng _ _) (zsc_rng _ _) hp hpe hsh hce _) gL_law_X10_written rfl hw_X10_written ⟨Nat.le_of_ble_eq_true rfl, Nat.le_of_ble_eq_true rfl⟩ (va_recv hK hPc (ci := 10) (q0 := 0) rfl rfl) hPc hDc trivial hl.1 rfl (Nat.le_of_ble_eq_true rfl) ⟨(show _ ≤ 600000 by omega), (show _ ≤ 7302250 by omega)⟩ rfl dL_law_787) hP hD hS hA (fun r2 u H locs h2 hP hD hS => ?_)
  obtain ⟨y1, y1_e⟩ : ∃ z, z = u := ⟨_, rfl⟩
  subst y1_e
  try dsimp only at h2
  have hP : zP E (mW E ad y1 n kd vl nb fr tl rA rP rk rv rn rf rt can fm fs ss sl ce hd tr ++ (cW E ac x1 ce la si ln co n on tr fw cw ch nm ++ pl)) H := hP
  have hD : va_D (fun q : Nat => s.heap.size ≤ q) (mW E ad y1 n kd vl nb fr tl rA rP rk rv rn rf rt can fm fs ss sl ce hd tr ++ (cW E ac x1 ce la si ln co n on tr fw cw ch nm ++ pl)) := hD
  obtain ⟨er, ef⟩ := zU_written h1 h2
  rw [← ef] at hP hD
  rw [← er]
  refine zcmpI (tgt := 1299) (R := room_1) S dL_law_790 (by decide) ?_
  refine W.widen (k := cells + 10) (n := slots + 40) (by omega) (by omega) ?_
  exact KK _ _ ⟨x1, ce, la, si, ln, co, n, on, tr, fw, cw, ch, nm, kd, vl, nb, fr, tl, rA, rP, rk, rv, rn, rf, rt, can, fm, fs, ss, sl, hd, an, pl, ⟨hrel, hce, hln, hco, hp, hon, hpe, hhas, hsh⟩, hP, hD⟩ hS ls hl
