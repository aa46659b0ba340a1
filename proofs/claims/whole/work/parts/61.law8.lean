theorem hw_X9_copy : yX9_copy.cls = RX9 ∧ yX9_copy.cls ≠ "java/lang/invoke/MethodHandle" ∧ yX9_copy.cls ≠ "java/lang/invoke/VarHandle" ∧ (parseMethodDescriptor yX9_copy.desc).map (fun d => d.parameters.length) = some 5 := by decide +kernel
theorem hw_X10_copy : yX10_copy.cls = RX10 ∧ yX10_copy.cls ≠ "java/lang/invoke/MethodHandle" ∧ yX10_copy.cls ≠ "java/lang/invoke/VarHandle" ∧ (parseMethodDescriptor yX10_copy.desc).map (fun d => d.parameters.length) = some 5 := by decide +kernel
theorem hw_X9_tell : yX9_tell.cls = RX9 ∧ yX9_tell.cls ≠ "java/lang/invoke/MethodHandle" ∧ yX9_tell.cls ≠ "java/lang/invoke/VarHandle" ∧ (parseMethodDescriptor yX9_tell.desc).map (fun d => d.parameters.length) = some 1 := by decide +kernel
theorem hw_X10_tell : yX10_tell.cls = RX10 ∧ yX10_tell.cls ≠ "java/lang/invoke/MethodHandle" ∧ yX10_tell.cls ≠ "java/lang/invoke/VarHandle" ∧ (parseMethodDescriptor yX10_tell.desc).map (fun d => d.parameters.length) = some 1 := by decide +kernel
theorem hw_X9_mourn : yX9_mourn.cls = RX9 ∧ yX9_mourn.cls ≠ "java/lang/invoke/MethodHandle" ∧ yX9_mourn.cls ≠ "java/lang/invoke/VarHandle" ∧ (parseMethodDescriptor yX9_mourn.desc).map (fun d => d.parameters.length) = some 1 := by decide +kernel
theorem hw_X10_mourn : yX10_mourn.cls = RX10 ∧ yX10_mourn.cls ≠ "java/lang/invoke/MethodHandle" ∧ yX10_mourn.cls ≠ "java/lang/invoke/VarHandle" ∧ (parseMethodDescriptor yX10_mourn.desc).map (fun d => d.parameters.length) = some 1 := by decide +kernel
set_option maxHeartbeats 4000000 in
set_option maxRecDepth 100000 in
theorem law_copy {p : Program} {l : Launch} {e : Env} {s : State} {m : MethodId} {below : List Frame} {meth : Method} {c : Code} {E : zE} {b L : Nat} {xs : Nat → Int32} {i : Int} {ac ad : Nat → Nat} {H : Heap} {locs : List Loc} {cells slots : Nat} {Q : State → Prop} {ls : Array Slot} (S : CallFix p m c code 4 s #[.ref b] wsL_law RL) (hK : zK E s) (hCs : zCs s) (hX : va_X b L xs s s.heap) (hbl : b < s.heap.size) (hi : 0 ≤ i ∧ i + 9 ≤ L ∧ L ≤ 4608) (hc : cells + 10 ≤ 600000 ∧ slots + 40 ≤ 7302250) (hZ : zLS E ac ad (fun q : Nat => s.heap.size ≤ q) H) (hS : va_S (fun q : Nat => s.heap.size ≤ q) s.heap H locs) (hl : lv_has ls 4 [(3, .int (jI i)), (2, .ref (ad 0)), (1, .ref (ac 0)), (0, .ref b)]) (KK : ∀ (H : Heap) (locs : List Loc), zLS E ac ad (fun q : Nat => s.heap.size ≤ q) H → va_S (fun q : Nat => s.heap.size ≤ q) s.heap H locs → ∀ ls : Array Slot, lv_has ls 4 [(3, .int (jI i)), (2, .ref (ad 0)), (1, .ref (ac 0)), (0, .ref b)] → W p l e room_1 s m #[Value.ref b] below meth c H locs (cells + 10) (slots + 40) Q (F0 m 1299 ls [])) : W p l e room_1 s m #[Value.ref b] below meth c H locs cells slots Q (F0 m 1118 ls []) := by
  obtain ⟨flt, ce, la, si, ln, co, n, on, tr, fw, cw, ch, nm, kd, vl, nb, fr, tl, rA, rP, rk, rv, rn, rf, rt, can, fm, fs, ss, sl, hd, an, pl, ⟨hrel, hce, hln, hco, hp, hon, hpe, hhas, hsh⟩, hP, hD⟩ := hZ
  have hA : ∀ q : Nat, s.heap.size ≤ q → (fun q : Nat => s.heap.size ≤ q) q := fun _ h => h
  refine lv_aload_n S.1 S.2.1 dL_law_1118 rfl (lv_at hl 2 rfl) ?_
  refine z_arg (j := 1) S hX hbl hS hi hl (by decide) dL_law_1119 dL_law_1120 dL_law_1121 dL_law_1122 dL_law_1123 ?_
  refine z_arg (j := 2) S hX hbl hS hi hl (by decide) dL_law_1124 dL_law_1125 dL_law_1126 dL_law_1127 dL_law_1128 ?_
  refine z_arg (j := 3) S hX hbl hS hi hl (by decide) dL_law_1129 dL_law_1130 dL_law_1131 dL_law_1132 dL_law_1133 ?_
  refine z_arg (j := 4) S hX hbl hS hi hl (by decide) dL_law_1134 dL_law_1135 dL_law_1136 dL_law_1137 dL_law_1138 ?_
  refine z_arg (j := 5) S hX hbl hS hi hl (by decide) dL_law_1139 dL_law_1140 dL_law_1141 dL_law_1142 dL_law_1143 ?_
  have hPc : zP E (cW E ac flt ce la si ln co n on tr fw cw ch nm) H := zPl (zPr hP)
  have hDc : va_D (fun q : Nat => s.heap.size ≤ q) (cW E ac flt ce la si ln co n on tr fw cw ch nm) := zDl (zDr hD)
  refine z_si (L := mW E ad flt n kd vl nb fr tl rA rP rk rv rn rf rt can fm fs ss sl ce hd tr) (wc := cW E ac flt ce la si ln co n on tr fw cw ch nm) (Rr := pl) (z_mV S hK (c_X9_copy l E ac flt ce la si ln co n on tr fw cw ch nm (zsc xs (i + 1)) (zsc xs (i + 2)) (zsc xs (i + 3)) (zsc xs (i + 4)) (zsc xs (i + 5)) ss sl (zsc_rng _ _) (zsc_rng _ _) (zsc_rng _ _) (zsc_rng _ _) (zsc_rng _ _) hrel _) gL_law_X9_copy rfl hw_X9_copy ⟨Nat.le_of_ble_eq_true rfl, Nat.le_of_ble_eq_true rfl⟩ (va_recv hK hPc (ci := 9) (q0 := 0) rfl rfl) hPc hDc trivial hl.1 rfl (Nat.le_of_ble_eq_true rfl) ⟨(show _ ≤ 600000 by omega), (show _ ≤ 7302250 by omega)⟩ rfl dL_law_1144) hP hD hS hA (fun r1 u H locs h1 hP hD hS => ?_)
  obtain ⟨x1, x2⟩ := u
  try dsimp only at h1
  have hP : zP E (mW E ad flt n kd vl nb fr tl rA rP rk rv rn rf rt can fm fs ss sl ce hd tr ++ (cW E ac x1 x2 la si ln co n on tr fw cw ch nm ++ pl)) H := hP
  have hD : va_D (fun q : Nat => s.heap.size ≤ q) (mW E ad flt n kd vl nb fr tl rA rP rk rv rn rf rt can fm fs ss sl ce hd tr ++ (cW E ac x1 x2 la si ln co n on tr fw cw ch nm ++ pl)) := hD
  refine lv_aload_n S.1 S.2.1 dL_law_1147 rfl (lv_at hl 1 rfl) ?_
  refine z_arg (j := 1) S hX hbl hS hi hl (by decide) dL_law_1148 dL_law_1149 dL_law_1150 dL_law_1151 dL_law_1152 ?_
  refine z_arg (j := 2) S hX hbl hS hi hl (by decide) dL_law_1153 dL_law_1154 dL_law_1155 dL_law_1156 dL_law_1157 ?_
  refine z_arg (j := 3) S hX hbl hS hi hl (by decide) dL_law_1158 dL_law_1159 dL_law_1160 dL_law_1161 dL_law_1162 ?_
  refine z_arg (j := 4) S hX hbl hS hi hl (by decide) dL_law_1163 dL_law_1164 dL_law_1165 dL_law_1166 dL_law_1167 ?_
  refine z_arg (j := 5) S hX hbl hS hi hl (by decide) dL_law_1168 dL_law_1169 dL_law_1170 dL_law_1171 dL_law_1172 ?_
  have hPc : zP E (mW E ad flt n kd vl nb fr tl rA rP rk rv rn rf rt can fm fs ss sl ce hd tr) H := zPl hP
  have hDc : va_D (fun q : Nat => s.heap.size ≤ q) (mW E ad flt n kd vl nb fr tl rA rP rk rv rn rf rt can fm fs ss sl ce hd tr) := zDl hD
  refine z_si (L := []) (wc := mW E ad flt n kd vl nb fr tl rA rP rk rv rn rf rt can fm fs ss sl ce hd tr) (Rr := cW E ac x1 x2 la si ln co n on tr fw cw ch nm ++ pl) (z_mV S hK (c_X10_copy l E ad flt n kd vl nb fr tl rA rP rk rv rn rf rt can fm fs ss sl ce hd tr (zsc xs (i + 1)) (zsc xs (i + 2)) (zsc xs (i + 3)) (zsc xs (i + 4)) (zsc xs (i + 5)) (zsc_rng _ _) (zsc_rng _ _) (zsc_rng _ _) (zsc_rng _ _) (zsc_rng _ _) hsh hce _) gL_law_X10_copy rfl hw_X10_copy ⟨Nat.le_of_ble_eq_true rfl, Nat.le_of_ble_eq_true rfl⟩ (va_recv hK hPc (ci := 10) (q0 := 0) rfl rfl) hPc hDc trivial hl.1 rfl (Nat.le_of_ble_eq_true rfl) ⟨(show _ ≤ 600000 by omega), (show _ ≤ 7302250 by omega)⟩ rfl dL_law_1173) hP hD hS hA (fun r2 u H locs h2 hP hD hS => ?_)
  obtain ⟨y1, y2, y3⟩ := u
  try dsimp only at h2
  have hP : zP E (mW E ad y1 n kd vl nb fr tl rA rP rk rv rn rf rt can fm fs ss sl y2 y3 tr ++ (cW E ac x1 x2 la si ln co n on tr fw cw ch nm ++ pl)) H := hP
  have hD : va_D (fun q : Nat => s.heap.size ≤ q) (mW E ad y1 n kd vl nb fr tl rA rP rk rv rn rf rt can fm fs ss sl y2 y3 tr ++ (cW E ac x1 x2 la si ln co n on tr fw cw ch nm ++ pl)) := hD
  obtain ⟨⟨er, ef⟩, eh⟩ := zU_copy h1 h2
  have hce := zK_copy h1 hce
  rw [← ef, ← eh] at hP hD
  rw [← er]
  refine zcmpI (tgt := 1299) (R := room_1) S dL_law_1176 (by decide) ?_
  refine W.widen (k := cells + 10) (n := slots + 40) (by omega) (by omega) ?_
  exact KK _ _ ⟨x1, x2, la, si, ln, co, n, on, tr, fw, cw, ch, nm, kd, vl, nb, fr, tl, rA, rP, rk, rv, rn, rf, rt, can, fm, fs, ss, sl, y3, an, pl, ⟨hrel, hce, hln, hco, hp, hon, hpe, hhas, hsh⟩, hP, hD⟩ hS ls hl

set_option maxHeartbeats 4000000 in
set_option maxRecDepth 100000 in
theorem law_tell {p : Program} {l : Launch} {e : Env} {s : State} {m : MethodId} {below : List Frame} {meth : Method} {c : Code} {E : zE} {b L : Nat} {xs : Nat → Int32} {i : Int} {ac ad : Nat → Nat} {H : Heap} {locs : List Loc} {cells slots : Nat} {Q : State → Prop} {ls : Array Slot} (S : CallFix p m c code 4 s #[.ref b] wsL_law RL) (hK : zK E s) (hCs : zCs s) (hX : va_X b L xs s s.heap) (hbl : b < s.heap.size) (hi : 0 ≤ i ∧ i + 9 ≤ L ∧ L ≤ 4608) (hc : cells + 10 ≤ 600000 ∧ slots + 40 ≤ 7302250) (hZ : zLS E ac ad (fun q : Nat => s.heap.size ≤ q) H) (hS : va_S (fun q : Nat => s.heap.size ≤ q) s.heap H locs) (hl : lv_has ls 4 [(3, .int (jI i)), (2, .ref (ad 0)), (1, .ref (ac 0)), (0, .ref b)]) (KK : ∀ (H : Heap) (locs : List Loc), zLS E ac ad (fun q : Nat => s.heap.size ≤ q) H → va_S (fun q : Nat => s.heap.size ≤ q) s.heap H locs → ∀ ls : Array Slot, lv_has ls 4 [(3, .int (jI i)), (2, .ref (ad 0)), (1, .ref (ac 0)), (0, .ref b)] → W p l e room_1 s m #[Value.ref b] below meth c H locs (cells + 10) (slots + 40) Q (F0 m 1299 ls [])) : W p l e room_1 s m #[Value.ref b] below meth c H locs cells slots Q (F0 m 1181 ls []) := by
  obtain ⟨flt, ce, la, si, ln, co, n, on, tr, fw, cw, ch, nm, kd, vl, nb, fr, tl, rA, rP, rk, rv, rn, rf, rt, can, fm, fs, ss, sl, hd, an, pl, ⟨hrel, hce, hln, hco, hp, hon, hpe, hhas, hsh⟩, hP, hD⟩ := hZ
  have hA : ∀ q : Nat, s.heap.size ≤ q → (fun q : Nat => s.heap.size ≤ q) q := fun _ h => h
  refine lv_aload_n S.1 S.2.1 dL_law_1181 rfl (lv_at hl 2 rfl) ?_
  refine z_arg (j := 1) S hX hbl hS hi hl (by decide) dL_law_1182 dL_law_1183 dL_law_1184 dL_law_1185 dL_law_1186 ?_
  have hPc : zP E (cW E ac flt ce la si ln co n on tr fw cw ch nm) H := zPl (zPr hP)
  have hN : zNm E n an kd vl nb fr tl H := zHas_nm hhas (zPr (zPr hP))
  have hap : zAp (cW E ac flt ce la si ln co n on tr fw cw ch nm) n an := zHas_ap hhas (zDr hD)
  have hDc : va_D (fun q : Nat => s.heap.size ≤ q) (cW E ac flt ce la si ln co n on tr fw cw ch nm) := zDl (zDr hD)
  refine z_si (L := mW E ad flt n kd vl nb fr tl rA rP rk rv rn rf rt can fm fs ss sl ce hd tr) (wc := cW E ac flt ce la si ln co n on tr fw cw ch nm) (Rr := pl) (z_mV S hK (c_X9_tell l E ac flt ce la si ln co n on tr fw cw ch nm an kd vl nb fr tl (zsc xs (i + 1)) (zsc_rng _ _) hp hon hpe hap _) gL_law_X9_tell rfl hw_X9_tell ⟨Nat.le_of_ble_eq_true rfl, Nat.le_of_ble_eq_true rfl⟩ (va_recv hK hPc (ci := 9) (q0 := 0) rfl rfl) hPc hDc hN hl.1 rfl (Nat.le_of_ble_eq_true rfl) ⟨(show _ ≤ 600000 by omega), (show _ ≤ 7302250 by omega)⟩ rfl dL_law_1187) hP hD hS hA (fun r1 u H locs h1 hP hD hS => ?_)
  obtain ⟨x1, x1_e⟩ : ∃ z, z = u := ⟨_, rfl⟩
  subst x1_e
  try dsimp only at h1
  have hP : zP E (mW E ad flt n kd vl nb fr tl rA rP rk rv rn rf rt can fm fs ss sl ce hd tr ++ (cW E ac flt ce la si ln co n on x1 fw cw ch nm ++ pl)) H := hP
  have hD : va_D (fun q : Nat => s.heap.size ≤ q) (mW E ad flt n kd vl nb fr tl rA rP rk rv rn rf rt can fm fs ss sl ce hd tr ++ (cW E ac flt ce la si ln co n on x1 fw cw ch nm ++ pl)) := hD
  refine lv_aload_n S.1 S.2.1 dL_law_1190 rfl (lv_at hl 1 rfl) ?_
  refine z_arg (j := 1) S hX hbl hS hi hl (by decide) dL_law_1191 dL_law_1192 dL_law_1193 dL_law_1194 dL_law_1195 ?_
  have hPc : zP E (mW E ad flt n kd vl nb fr tl rA rP rk rv rn rf rt can fm fs ss sl ce hd tr) H := zPl hP
  have hDc : va_D (fun q : Nat => s.heap.size ≤ q) (mW E ad flt n kd vl nb fr tl rA rP rk rv rn rf rt can fm fs ss sl ce hd tr) := zDl hD
  refine z_si (L := []) (wc := mW E ad flt n kd vl nb fr tl rA rP rk rv rn rf rt can fm fs ss sl ce hd tr) (Rr := cW E ac flt ce la si ln co n on x1 fw cw ch nm ++ pl) (z_mV S hK (c_X10_tell l E ad flt n kd vl nb fr tl rA rP rk rv rn rf rt can fm fs ss sl ce hd tr (zsc xs (i + 1)) (zsc_rng _ _) hp hpe _) gL_law_X10_tell rfl hw_X10_tell ⟨Nat.le_of_ble_eq_true rfl, Nat.le_of_ble_eq_true rfl⟩ (va_recv hK hPc (ci := 10) (q0 := 0) rfl rfl) hPc hDc trivial hl.1 rfl (Nat.le_of_ble_eq_true rfl) ⟨(show _ ≤ 600000 by omega), (show _ ≤ 7302250 by omega)⟩ rfl dL_law_1196) hP hD hS hA (fun r2 u H locs h2 hP hD hS => ?_)
  obtain ⟨y1, y1_e⟩ : ∃ z, z = u := ⟨_, rfl⟩
  subst y1_e
  try dsimp only at h2
  have hP : zP E (mW E ad flt n kd vl nb fr tl rA rP rk rv rn rf rt can fm fs ss sl ce hd y1 ++ (cW E ac flt ce la si ln co n on x1 fw cw ch nm ++ pl)) H := hP
  have hD : va_D (fun q : Nat => s.heap.size ≤ q) (mW E ad flt n kd vl nb fr tl rA rP rk rv rn rf rt can fm fs ss sl ce hd y1 ++ (cW E ac flt ce la si ln co n on x1 fw cw ch nm ++ pl)) := hD
  obtain ⟨er, ef⟩ := zU_tell h1 h2
  rw [← ef] at hP hD
  rw [← er]
  refine zcmpI (tgt := 1299) (R := room_1) S dL_law_1199 (by decide) ?_
  refine W.widen (k := cells + 10) (n := slots + 40) (by omega) (by omega) ?_
  exact KK _ _ ⟨flt, ce, la, si, ln, co, n, on, x1, fw, cw, ch, nm, kd, vl, nb, fr, tl, rA, rP, rk, rv, rn, rf, rt, can, fm, fs, ss, sl, hd, an, pl, ⟨hrel, hce, hln, hco, hp, hon, hpe, hhas, hsh⟩, hP, hD⟩ hS ls hl

set_option maxHeartbeats 4000000 in
set_option maxRecDepth 100000 in
theorem law_mourn {p : Program} {l : Launch} {e : Env} {s : State} {m : MethodId} {below : List Frame} {meth : Method} {c : Code} {E : zE} {b L : Nat} {xs : Nat → Int32} {i : Int} {ac ad : Nat → Nat} {H : Heap} {locs : List Loc} {cells slots : Nat} {Q : State → Prop} {ls : Array Slot} (S : CallFix p m c code 4 s #[.ref b] wsL_law RL) (hK : zK E s) (hCs : zCs s) (hX : va_X b L xs s s.heap) (hbl : b < s.heap.size) (hi : 0 ≤ i ∧ i + 9 ≤ L ∧ L ≤ 4608) (hc : cells + 10 ≤ 600000 ∧ slots + 40 ≤ 7302250) (hZ : zLS E ac ad (fun q : Nat => s.heap.size ≤ q) H) (hS : va_S (fun q : Nat => s.heap.size ≤ q) s.heap H locs) (hl : lv_has ls 4 [(3, .int (jI i)), (2, .ref (ad 0)), (1, .ref (ac 0)), (0, .ref b)]) (KK : ∀ (H : Heap) (locs : List Loc), zLS E ac ad (fun q : Nat => s.heap.size ≤ q) H → va_S (fun q : Nat => s.heap.size ≤ q) s.heap H locs → ∀ ls : Array Slot, lv_has ls 4 [(3, .int (jI i)), (2, .ref (ad 0)), (1, .ref (ac 0)), (0, .ref b)] → W p l e room_1 s m #[Value.ref b] below meth c H locs (cells + 10) (slots + 40) Q (F0 m 1299 ls [])) : W p l e room_1 s m #[Value.ref b] below meth c H locs cells slots Q (F0 m 1204 ls []) := by
  obtain ⟨flt, ce, la, si, ln, co, n, on, tr, fw, cw, ch, nm, kd, vl, nb, fr, tl, rA, rP, rk, rv, rn, rf, rt, can, fm, fs, ss, sl, hd, an, pl, ⟨hrel, hce, hln, hco, hp, hon, hpe, hhas, hsh⟩, hP, hD⟩ := hZ
  have hA : ∀ q : Nat, s.heap.size ≤ q → (fun q : Nat => s.heap.size ≤ q) q := fun _ h => h
  refine lv_aload_n S.1 S.2.1 dL_law_1204 rfl (lv_at hl 2 rfl) ?_
  refine z_arg (j := 1) S hX hbl hS hi hl (by decide) dL_law_1205 dL_law_1206 dL_law_1207 dL_law_1208 dL_law_1209 ?_
  have hPc : zP E (cW E ac flt ce la si ln co n on tr fw cw ch nm) H := zPl (zPr hP)
  have hN : zNm E n an kd vl nb fr tl H := zHas_nm hhas (zPr (zPr hP))
  have hap : zAp (cW E ac flt ce la si ln co n on tr fw cw ch nm) n an := zHas_ap hhas (zDr hD)
  have hDc : va_D (fun q : Nat => s.heap.size ≤ q) (cW E ac flt ce la si ln co n on tr fw cw ch nm) := zDl (zDr hD)
  refine z_si (L := mW E ad flt n kd vl nb fr tl rA rP rk rv rn rf rt can fm fs ss sl ce hd tr) (wc := cW E ac flt ce la si ln co n on tr fw cw ch nm) (Rr := pl) (z_mV S hK (c_X9_mourn l E ac flt ce la si ln co n on tr fw cw ch nm an kd vl nb fr tl (zsc xs (i + 1)) (zsc_rng _ _) hp hon hpe hap _) gL_law_X9_mourn rfl hw_X9_mourn ⟨Nat.le_of_ble_eq_true rfl, Nat.le_of_ble_eq_true rfl⟩ (va_recv hK hPc (ci := 9) (q0 := 0) rfl rfl) hPc hDc hN hl.1 rfl (Nat.le_of_ble_eq_true rfl) ⟨(show _ ≤ 600000 by omega), (show _ ≤ 7302250 by omega)⟩ rfl dL_law_1210) hP hD hS hA (fun r1 u H locs h1 hP hD hS => ?_)
  obtain ⟨x1, x1_e⟩ : ∃ z, z = u := ⟨_, rfl⟩
  subst x1_e
  try dsimp only at h1
  have hP : zP E (mW E ad flt n kd vl nb fr tl rA rP rk rv rn rf rt can fm fs ss sl ce hd tr ++ (cW E ac flt ce la si ln co n on x1 fw cw ch nm ++ pl)) H := hP
  have hD : va_D (fun q : Nat => s.heap.size ≤ q) (mW E ad flt n kd vl nb fr tl rA rP rk rv rn rf rt can fm fs ss sl ce hd tr ++ (cW E ac flt ce la si ln co n on x1 fw cw ch nm ++ pl)) := hD
  refine lv_aload_n S.1 S.2.1 dL_law_1213 rfl (lv_at hl 1 rfl) ?_
  refine z_arg (j := 1) S hX hbl hS hi hl (by decide) dL_law_1214 dL_law_1215 dL_law_1216 dL_law_1217 dL_law_1218 ?_
  have hPc : zP E (mW E ad flt n kd vl nb fr tl rA rP rk rv rn rf rt can fm fs ss sl ce hd tr) H := zPl hP
  have hDc : va_D (fun q : Nat => s.heap.size ≤ q) (mW E ad flt n kd vl nb fr tl rA rP rk rv rn rf rt can fm fs ss sl ce hd tr) := zDl hD
  refine z_si (L := []) (wc := mW E ad flt n kd vl nb fr tl rA rP rk rv rn rf rt can fm fs ss sl ce hd tr) (Rr := cW E ac flt ce la si ln co n on x1 fw cw ch nm ++ pl) (z_mV S hK (c_X10_mourn l E ad flt n kd vl nb fr tl rA rP rk rv rn rf rt can fm fs ss sl ce hd tr (zsc xs (i + 1)) (zsc_rng _ _) hp hpe _) gL_law_X10_mourn rfl hw_X10_mourn ⟨Nat.le_of_ble_eq_true rfl, Nat.le_of_ble_eq_true rfl⟩ (va_recv hK hPc (ci := 10) (q0 := 0) rfl rfl) hPc hDc trivial hl.1 rfl (Nat.le_of_ble_eq_true rfl) ⟨(show _ ≤ 600000 by omega), (show _ ≤ 7302250 by omega)⟩ rfl dL_law_1219) hP hD hS hA (fun r2 u H locs h2 hP hD hS => ?_)
  obtain ⟨y1, y1_e⟩ : ∃ z, z = u := ⟨_, rfl⟩
  subst y1_e
  try dsimp only at h2
  have hP : zP E (mW E ad flt n kd vl nb fr tl rA rP rk rv rn rf rt can fm fs ss sl ce hd y1 ++ (cW E ac flt ce la si ln co n on x1 fw cw ch nm ++ pl)) H := hP
  have hD : va_D (fun q : Nat => s.heap.size ≤ q) (mW E ad flt n kd vl nb fr tl rA rP rk rv rn rf rt can fm fs ss sl ce hd y1 ++ (cW E ac flt ce la si ln co n on x1 fw cw ch nm ++ pl)) := hD
  obtain ⟨er, ef⟩ := zU_mourn h1 h2
  rw [← ef] at hP hD
  rw [← er]
  refine zcmpI (tgt := 1299) (R := room_1) S dL_law_1222 (by decide) ?_
  refine W.widen (k := cells + 10) (n := slots + 40) (by omega) (by omega) ?_
  exact KK _ _ ⟨flt, ce, la, si, ln, co, n, on, x1, fw, cw, ch, nm, kd, vl, nb, fr, tl, rA, rP, rk, rv, rn, rf, rt, can, fm, fs, ss, sl, hd, an, pl, ⟨hrel, hce, hln, hco, hp, hon, hpe, hhas, hsh⟩, hP, hD⟩ hS ls hl
