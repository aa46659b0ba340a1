theorem hw_X9_put : yX9_put.cls = RX9 ∧ yX9_put.cls ≠ "java/lang/invoke/MethodHandle" ∧ yX9_put.cls ≠ "java/lang/invoke/VarHandle" ∧ (parseMethodDescriptor yX9_put.desc).map (fun d => d.parameters.length) = some 3 := by decide +kernel
theorem hw_X10_put : yX10_put.cls = RX10 ∧ yX10_put.cls ≠ "java/lang/invoke/MethodHandle" ∧ yX10_put.cls ≠ "java/lang/invoke/VarHandle" ∧ (parseMethodDescriptor yX10_put.desc).map (fun d => d.parameters.length) = some 3 := by decide +kernel
theorem hw_X9_cell : yX9_cell.cls = RX9 ∧ yX9_cell.cls ≠ "java/lang/invoke/MethodHandle" ∧ yX9_cell.cls ≠ "java/lang/invoke/VarHandle" ∧ (parseMethodDescriptor yX9_cell.desc).map (fun d => d.parameters.length) = some 3 := by decide +kernel
theorem hw_X10_cell : yX10_cell.cls = RX10 ∧ yX10_cell.cls ≠ "java/lang/invoke/MethodHandle" ∧ yX10_cell.cls ≠ "java/lang/invoke/VarHandle" ∧ (parseMethodDescriptor yX10_cell.desc).map (fun d => d.parameters.length) = some 3 := by decide +kernel
set_option maxHeartbeats 4000000 in
set_option maxRecDepth 100000 in
theorem law_put {p : Program} {l : Launch} {e : Env} {s : State} {m : MethodId} {below : List Frame} {meth : Method} {c : Code} {E : zE} {b L : Nat} {xs : Nat → Int32} {i : Int} {ac ad : Nat → Nat} {H : Heap} {locs : List Loc} {cells slots : Nat} {Q : State → Prop} {ls : Array Slot} (S : CallFix p m c code 4 s #[.ref b] wsL_law RL) (hK : zK E s) (hCs : zCs s) (hX : va_X b L xs s s.heap) (hbl : b < s.heap.size) (hi : 0 ≤ i ∧ i + 9 ≤ L ∧ L ≤ 4608) (hc : cells + 10 ≤ 600000 ∧ slots + 40 ≤ 7302250) (hZ : zLS E ac ad (fun q : Nat => s.heap.size ≤ q) H) (hS : va_S (fun q : Nat => s.heap.size ≤ q) s.heap H locs) (hl : lv_has ls 4 [(3, .int (jI i)), (2, .ref (ad 0)), (1, .ref (ac 0)), (0, .ref b)]) (KK : ∀ (H : Heap) (locs : List Loc), zLS E ac ad (fun q : Nat => s.heap.size ≤ q) H → va_S (fun q : Nat => s.heap.size ≤ q) s.heap H locs → ∀ ls : Array Slot, lv_has ls 4 [(3, .int (jI i)), (2, .ref (ad 0)), (1, .ref (ac 0)), (0, .ref b)] → W p l e room_1 s m #[Value.ref b] below meth c H locs (cells + 10) (slots + 40) Q (F0 m 1299 ls [])) : W p l e room_1 s m #[Value.ref b] below meth c H locs cells slots Q (F0 m 1031 ls []) := by
  obtain ⟨flt, ce, la, si, ln, co, n, on, tr, fw, cw, ch, nm, kd, vl, nb, fr, tl, rA, rP, rk, rv, rn, rf, rt, can, fm, fs, ss, sl, hd, an, pl, ⟨hrel, hce, hln, hco, hp, hon, hpe, hhas, hsh⟩, hP, hD⟩ := hZ
  have hA : ∀ q : Nat, s.heap.size ≤ q → (fun q : Nat => s.heap.size ≤ q) q := fun _ h => h
  refine lv_aload_n S.1 S.2.1 dL_law_1031 rfl (lv_at hl 2 rfl) ?_
  refine z_arg (j := 1) S hX hbl hS hi hl (by decide) dL_law_1032 dL_law_1033 dL_law_1034 dL_law_1035 dL_law_1036 ?_
  refine z_arg (j := 2) S hX hbl hS hi hl (by decide) dL_law_1037 dL_law_1038 dL_law_1039 dL_law_1040 dL_law_1041 ?_
  refine z_arg (j := 3) S hX hbl hS hi hl (by decide) dL_law_1042 dL_law_1043 dL_law_1044 dL_law_1045 dL_law_1046 ?_
  have hPc : zP E (cW E ac flt ce la si ln co n on tr fw cw ch nm) H := zPl (zPr hP)
  have hDc : va_D (fun q : Nat => s.heap.size ≤ q) (cW E ac flt ce la si ln co n on tr fw cw ch nm) := zDl (zDr hD)
  refine z_si (L := mW E ad flt n kd vl nb fr tl rA rP rk rv rn rf rt can fm fs ss sl ce hd tr) (wc := cW E ac flt ce la si ln co n on tr fw cw ch nm) (Rr := pl) (z_mV S hK (c_X9_put l E ac flt ce la si ln co n on tr fw cw ch nm (zsc xs (i + 1)) (zsc xs (i + 2)) (zsc xs (i + 3)) ss sl (zsc_rng _ _) (zsc_rng _ _) (zsc_rng _ _) hrel _) gL_law_X9_put rfl hw_X9_put ⟨Nat.le_of_ble_eq_true rfl, Nat.le_of_ble_eq_true rfl⟩ (va_recv hK hPc (ci := 9) (q0 := 0) rfl rfl) hPc hDc trivial hl.1 rfl (Nat.le_of_ble_eq_true rfl) ⟨(show _ ≤ 600000 by omega), (show _ ≤ 7302250 by omega)⟩ rfl dL_law_1047) hP hD hS hA (fun r1 u H locs h1 hP hD hS => ?_)
  obtain ⟨x1, x2⟩ := u
  try dsimp only at h1
  have hP : zP E (mW E ad flt n kd vl nb fr tl rA rP rk rv rn rf rt can fm fs ss sl ce hd tr ++ (cW E ac x1 x2 la si ln co n on tr fw cw ch nm ++ pl)) H := hP
  have hD : va_D (fun q : Nat => s.heap.size ≤ q) (mW E ad flt n kd vl nb fr tl rA rP rk rv rn rf rt can fm fs ss sl ce hd tr ++ (cW E ac x1 x2 la si ln co n on tr fw cw ch nm ++ pl)) := hD
  refine lv_aload_n S.1 S.2.1 dL_law_1050 rfl (lv_at hl 1 rfl) ?_
  refine z_arg (j := 1) S hX hbl hS hi hl (by decide) dL_law_1051 dL_law_1052 dL_law_1053 dL_law_1054 dL_law_1055 ?_
  refine z_arg (j := 2) S hX hbl hS hi hl (by decide) dL_law_1056 dL_law_1057 dL_law_1058 dL_law_1059 dL_law_1060 ?_
  refine z_arg (j := 3) S hX hbl hS hi hl (by decide) dL_law_1061 dL_law_1062 dL_law_1063 dL_law_1064 dL_law_1065 ?_
  have hPc : zP E (mW E ad flt n kd vl nb fr tl rA rP rk rv rn rf rt can fm fs ss sl ce hd tr) H := zPl hP
  have hDc : va_D (fun q : Nat => s.heap.size ≤ q) (mW E ad flt n kd vl nb fr tl rA rP rk rv rn rf rt can fm fs ss sl ce hd tr) := zDl hD
  refine z_si (L := []) (wc := mW E ad flt n kd vl nb fr tl rA rP rk rv rn rf rt can fm fs ss sl ce hd tr) (Rr := cW E ac x1 x2 la si ln co n on tr fw cw ch nm ++ pl) (z_mV S hK (c_X10_put l E ad flt n kd vl nb fr tl rA rP rk rv rn rf rt can fm fs ss sl ce hd tr (zsc xs (i + 1)) (zsc xs (i + 2)) (zsc xs (i + 3)) (zsc_rng _ _) (zsc_rng _ _) (zsc_rng _ _) hsh _) gL_law_X10_put rfl hw_X10_put ⟨Nat.le_of_ble_eq_true rfl, Nat.le_of_ble_eq_true rfl⟩ (va_recv hK hPc (ci := 10) (q0 := 0) rfl rfl) hPc hDc trivial hl.1 rfl (Nat.le_of_ble_eq_true rfl) ⟨(show _ ≤ 600000 by omega), (show _ ≤ 7302250 by omega)⟩ rfl dL_law_1066) hP hD hS hA (fun r2 u H locs h2 hP hD hS => ?_)
  obtain ⟨y1, y2⟩ := u
  try dsimp only at h2
  have hP : zP E (mW E ad y1 n kd vl nb fr tl rA rP rk rv rn rf rt can fm fs ss sl y2 hd tr ++ (cW E ac x1 x2 la si ln co n on tr fw cw ch nm ++ pl)) H := hP
  have hD : va_D (fun q : Nat => s.heap.size ≤ q) (mW E ad y1 n kd vl nb fr tl rA rP rk rv rn rf rt can fm fs ss sl y2 hd tr ++ (cW E ac x1 x2 la si ln co n on tr fw cw ch nm ++ pl)) := hD
  obtain ⟨⟨er, ef⟩, eh⟩ := zU_put h1 h2
  have hce := zK_put h1 hce (zsc_rng _ _)
  rw [← ef, ← eh] at hP hD
  rw [← er]
  refine zcmpI (tgt := 1299) (R := room_1) S dL_law_1069 (by decide) ?_
  refine W.widen (k := cells + 10) (n := slots + 40) (by omega) (by omega) ?_
  exact KK _ _ ⟨x1, x2, la, si, ln, co, n, on, tr, fw, cw, ch, nm, kd, vl, nb, fr, tl, rA, rP, rk, rv, rn, rf, rt, can, fm, fs, ss, sl, hd, an, pl, ⟨hrel, hce, hln, hco, hp, hon, hpe, hhas, hsh⟩, hP, hD⟩ hS ls hl

set_option maxHeartbeats 4000000 in
set_option maxRecDepth 100000 in
theorem law_cell {p : Program} {l : Launch} {e : Env} {s : State} {m : MethodId} {below : List Frame} {meth : Method} {c : Code} {E : zE} {b L : Nat} {xs : Nat → Int32} {i : Int} {ac ad : Nat → Nat} {H : Heap} {locs : List Loc} {cells slots : Nat} {Q : State → Prop} {ls : Array Slot} (S : CallFix p m c code 4 s #[.ref b] wsL_law RL) (hK : zK E s) (hCs : zCs s) (hX : va_X b L xs s s.heap) (hbl : b < s.heap.size) (hi : 0 ≤ i ∧ i + 9 ≤ L ∧ L ≤ 4608) (hc : cells + 10 ≤ 600000 ∧ slots + 40 ≤ 7302250) (hZ : zLS E ac ad (fun q : Nat => s.heap.size ≤ q) H) (hS : va_S (fun q : Nat => s.heap.size ≤ q) s.heap H locs) (hl : lv_has ls 4 [(3, .int (jI i)), (2, .ref (ad 0)), (1, .ref (ac 0)), (0, .ref b)]) (KK : ∀ (H : Heap) (locs : List Loc), zLS E ac ad (fun q : Nat => s.heap.size ≤ q) H → va_S (fun q : Nat => s.heap.size ≤ q) s.heap H locs → ∀ ls : Array Slot, lv_has ls 4 [(3, .int (jI i)), (2, .ref (ad 0)), (1, .ref (ac 0)), (0, .ref b)] → W p l e room_1 s m #[Value.ref b] below meth c H locs (cells + 10) (slots + 40) Q (F0 m 1299 ls [])) : W p l e room_1 s m #[Value.ref b] below meth c H locs cells slots Q (F0 m 1074 ls []) := by
  obtain ⟨flt, ce, la, si, ln, co, n, on, tr, fw, cw, ch, nm, kd, vl, nb, fr, tl, rA, rP, rk, rv, rn, rf, rt, can, fm, fs, ss, sl, hd, an, pl, ⟨hrel, hce, hln, hco, hp, hon, hpe, hhas, hsh⟩, hP, hD⟩ := hZ
  have hA : ∀ q : Nat, s.heap.size ≤ q → (fun q : Nat => s.heap.size ≤ q) q := fun _ h => h
  refine lv_aload_n S.1 S.2.1 dL_law_1074 rfl (lv_at hl 2 rfl) ?_
  refine z_arg (j := 1) S hX hbl hS hi hl (by decide) dL_law_1075 dL_law_1076 dL_law_1077 dL_law_1078 dL_law_1079 ?_
  refine z_arg (j := 2) S hX hbl hS hi hl (by decide) dL_law_1080 dL_law_1081 dL_law_1082 dL_law_1083 dL_law_1084 ?_
  refine z_arg (j := 3) S hX hbl hS hi hl (by decide) dL_law_1085 dL_law_1086 dL_law_1087 dL_law_1088 dL_law_1089 ?_
  have hPc : zP E (cW E ac flt ce la si ln co n on tr fw cw ch nm) H := zPl (zPr hP)
  have hDc : va_D (fun q : Nat => s.heap.size ≤ q) (cW E ac flt ce la si ln co n on tr fw cw ch nm) := zDl (zDr hD)
  refine z_sl (L := mW E ad flt n kd vl nb fr tl rA rP rk rv rn rf rt can fm fs ss sl ce hd tr) (wc := cW E ac flt ce la si ln co n on tr fw cw ch nm) (Rr := pl) (z_mV S hK (c_X9_cell l E ac flt ce la si ln co n on tr fw cw ch nm (zsc xs (i + 1)) (zsc xs (i + 2)) (zsc xs (i + 3)) ss sl (zsc_rng _ _) (zsc_rng _ _) (zsc_rng _ _) hrel hce _) gL_law_X9_cell rfl hw_X9_cell ⟨Nat.le_of_ble_eq_true rfl, Nat.le_of_ble_eq_true rfl⟩ (va_recv hK hPc (ci := 9) (q0 := 0) rfl rfl) hPc hDc trivial hl.1 rfl (Nat.le_of_ble_eq_true rfl) ⟨(show _ ≤ 600000 by omega), (show _ ≤ 7302250 by omega)⟩ rfl dL_law_1090) hP hD hS hA (fun r1 u H locs h1 hP hD hS => ?_)
  obtain ⟨x1, x1_e⟩ : ∃ z, z = u := ⟨_, rfl⟩
  subst x1_e
  try dsimp only at h1
  have hP : zP E (mW E ad flt n kd vl nb fr tl rA rP rk rv rn rf rt can fm fs ss sl ce hd tr ++ (cW E ac x1 ce la si ln co n on tr fw cw ch nm ++ pl)) H := hP
  have hD : va_D (fun q : Nat => s.heap.size ≤ q) (mW E ad flt n kd vl nb fr tl rA rP rk rv rn rf rt can fm fs ss sl ce hd tr ++ (cW E ac x1 ce la si ln co n on tr fw cw ch nm ++ pl)) := hD
  refine lv_aload_n S.1 S.2.1 dL_law_1093 rfl (lv_at hl 1 rfl) ?_
  refine z_arg (j := 1) S hX hbl hS hi hl (by decide) dL_law_1094 dL_law_1095 dL_law_1096 dL_law_1097 dL_law_1098 ?_
  refine z_arg (j := 2) S hX hbl hS hi hl (by decide) dL_law_1099 dL_law_1100 dL_law_1101 dL_law_1102 dL_law_1103 ?_
  refine z_arg (j := 3) S hX hbl hS hi hl (by decide) dL_law_1104 dL_law_1105 dL_law_1106 dL_law_1107 dL_law_1108 ?_
  have hPc : zP E (mW E ad flt n kd vl nb fr tl rA rP rk rv rn rf rt can fm fs ss sl ce hd tr) H := zPl hP
  have hDc : va_D (fun q : Nat => s.heap.size ≤ q) (mW E ad flt n kd vl nb fr tl rA rP rk rv rn rf rt can fm fs ss sl ce hd tr) := zDl hD
  refine z_sl (L := []) (wc := mW E ad flt n kd vl nb fr tl rA rP rk rv rn rf rt can fm fs ss sl ce hd tr) (Rr := cW E ac x1 ce la si ln co n on tr fw cw ch nm ++ pl) (z_mV S hK (c_X10_cell l E ad flt n kd vl nb fr tl rA rP rk rv rn rf rt can fm fs ss sl ce hd tr (zsc xs (i + 1)) (zsc xs (i + 2)) (zsc xs (i + 3)) (zsc_rng _ _) (zsc_rng _ _) (zsc_rng _ _) hsh hce _) gL_law_X10_cell rfl hw_X10_cell ⟨Nat.le_of_ble_eq_true rfl, Nat.le_of_ble_eq_true rfl⟩ (va_recv hK hPc (ci := 10) (q0 := 0) rfl rfl) hPc hDc trivial hl.1 rfl (Nat.le_of_ble_eq_true rfl) ⟨(show _ ≤ 600000 by omega), (show _ ≤ 7302250 by omega)⟩ rfl dL_law_1109) hP hD hS hA (fun r2 u H locs h2 hP hD hS => ?_)
  obtain ⟨y1, y1_e⟩ : ∃ z, z = u := ⟨_, rfl⟩
  subst y1_e
  try dsimp only at h2
  have hP : zP E (mW E ad y1 n kd vl nb fr tl rA rP rk rv rn rf rt can fm fs ss sl ce hd tr ++ (cW E ac x1 ce la si ln co n on tr fw cw ch nm ++ pl)) H := hP
  have hD : va_D (fun q : Nat => s.heap.size ≤ q) (mW E ad y1 n kd vl nb fr tl rA rP rk rv rn rf rt can fm fs ss sl ce hd tr ++ (cW E ac x1 ce la si ln co n on tr fw cw ch nm ++ pl)) := hD
  obtain ⟨er, ef⟩ := zU_cell h1 h2
  rw [← ef] at hP hD
  rw [← er]
  refine zcmpL (tgt := 1299) (R := room_1) S dL_law_1112 dL_law_1113 (by decide) ?_
  refine W.widen (k := cells + 10) (n := slots + 40) (by omega) (by omega) ?_
  exact KK _ _ ⟨x1, ce, la, si, ln, co, n, on, tr, fw, cw, ch, nm, kd, vl, nb, fr, tl, rA, rP, rk, rv, rn, rf, rt, can, fm, fs, ss, sl, hd, an, pl, ⟨hrel, hce, hln, hco, hp, hon, hpe, hhas, hsh⟩, hP, hD⟩ hS ls hl
