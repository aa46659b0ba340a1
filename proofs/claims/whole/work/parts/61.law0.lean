theorem hw_X9_roll : yX9_roll.cls = RX9 ∧ yX9_roll.cls ≠ "java/lang/invoke/MethodHandle" ∧ yX9_roll.cls ≠ "java/lang/invoke/VarHandle" ∧ (parseMethodDescriptor yX9_roll.desc).map (fun d => d.parameters.length) = some 4 := by decide +kernel
theorem hw_X10_roll : yX10_roll.cls = RX10 ∧ yX10_roll.cls ≠ "java/lang/invoke/MethodHandle" ∧ yX10_roll.cls ≠ "java/lang/invoke/VarHandle" ∧ (parseMethodDescriptor yX10_roll.desc).map (fun d => d.parameters.length) = some 4 := by decide +kernel
theorem hw_X9_ofOne : yX9_ofOne.cls = RX9 ∧ yX9_ofOne.cls ≠ "java/lang/invoke/MethodHandle" ∧ yX9_ofOne.cls ≠ "java/lang/invoke/VarHandle" ∧ (parseMethodDescriptor yX9_ofOne.desc).map (fun d => d.parameters.length) = some 2 := by decide +kernel
theorem hw_X10_ofOne : yX10_ofOne.cls = RX10 ∧ yX10_ofOne.cls ≠ "java/lang/invoke/MethodHandle" ∧ yX10_ofOne.cls ≠ "java/lang/invoke/VarHandle" ∧ (parseMethodDescriptor yX10_ofOne.desc).map (fun d => d.parameters.length) = some 2 := by decide +kernel
set_option maxHeartbeats 4000000 in
set_option maxRecDepth 100000 in
theorem law_roll {p : Program} {l : Launch} {e : Env} {s : State} {m : MethodId} {below : List Frame} {meth : Method} {c : Code} {E : zE} {b L : Nat} {xs : Nat → Int32} {i : Int} {ac ad : Nat → Nat} {H : Heap} {locs : List Loc} {cells slots : Nat} {Q : State → Prop} {ls : Array Slot} (S : CallFix p m c code 4 s #[.ref b] wsL_law RL) (hK : zK E s) (hCs : zCs s) (hX : va_X b L xs s s.heap) (hbl : b < s.heap.size) (hi : 0 ≤ i ∧ i + 9 ≤ L ∧ L ≤ 4608) (hc : cells + 10 ≤ 600000 ∧ slots + 40 ≤ 7302250) (hZ : zLS E ac ad (fun q : Nat => s.heap.size ≤ q) H) (hS : va_S (fun q : Nat => s.heap.size ≤ q) s.heap H locs) (hl : lv_has ls 4 [(3, .int (jI i)), (2, .ref (ad 0)), (1, .ref (ac 0)), (0, .ref b)]) (KK : ∀ (H : Heap) (locs : List Loc), zLS E ac ad (fun q : Nat => s.heap.size ≤ q) H → va_S (fun q : Nat => s.heap.size ≤ q) s.heap H locs → ∀ ls : Array Slot, lv_has ls 4 [(3, .int (jI i)), (2, .ref (ad 0)), (1, .ref (ac 0)), (0, .ref b)] → W p l e room_1 s m #[Value.ref b] below meth c H locs (cells + 10) (slots + 40) Q (F0 m 1299 ls [])) : W p l e room_1 s m #[Value.ref b] below meth c H locs cells slots Q (F0 m 148 ls []) := by
  obtain ⟨flt, ce, la, si, ln, co, n, on, tr, fw, cw, ch, nm, kd, vl, nb, fr, tl, rA, rP, rk, rv, rn, rf, rt, can, fm, fs, ss, sl, hd, an, pl, ⟨hrel, hce, hln, hco, hp, hon, hpe, hhas, hsh⟩, hP, hD⟩ := hZ
  have hA : ∀ q : Nat, s.heap.size ≤ q → (fun q : Nat => s.heap.size ≤ q) q := fun _ h => h
  refine lv_aload_n S.1 S.2.1 dL_law_148 rfl (lv_at hl 2 rfl) ?_
  refine z_arg (j := 1) S hX hbl hS hi hl (by decide) dL_law_149 dL_law_150 dL_law_151 dL_law_152 dL_law_153 ?_
  refine z_arg (j := 2) S hX hbl hS hi hl (by decide) dL_law_154 dL_law_155 dL_law_156 dL_law_157 dL_law_158 ?_
  refine z_arg (j := 3) S hX hbl hS hi hl (by decide) dL_law_159 dL_law_160 dL_law_161 dL_law_162 dL_law_163 ?_
  refine z_arg (j := 4) S hX hbl hS hi hl (by decide) dL_law_164 dL_law_165 dL_law_166 dL_law_167 dL_law_168 ?_
  have hPc : zP E (cW E ac flt ce la si ln co n on tr fw cw ch nm) H := zPl (zPr hP)
  have hDc : va_D (fun q : Nat => s.heap.size ≤ q) (cW E ac flt ce la si ln co n on tr fw cw ch nm) := zDl (zDr hD)
  refine z_si (L := mW E ad flt n kd vl nb fr tl rA rP rk rv rn rf rt can fm fs ss sl ce hd tr) (wc := cW E ac flt ce la si ln co n on tr fw cw ch nm) (Rr := pl) (z_mVC S hK hCs (c_X9_roll l E ac flt ce la si ln co n on tr fw cw ch nm (zsc xs (i + 1)) (zsc xs (i + 2)) (zsc xs (i + 3)) (zsc xs (i + 4)) ss sl (zsc_rng _ _) (zsc_rng _ _) (zsc_rng _ _) (zsc_rng _ _) hrel hce hln hco _) gL_law_X9_roll rfl hw_X9_roll ⟨Nat.le_of_ble_eq_true rfl, Nat.le_of_ble_eq_true rfl⟩ (va_recv hK hPc (ci := 9) (q0 := 0) rfl rfl) hPc hDc trivial hl.1 rfl (Nat.le_of_ble_eq_true rfl) ⟨(show _ ≤ 600000 by omega), (show _ ≤ 7302250 by omega)⟩ rfl dL_law_169) hP hD hS hA (fun r1 u H locs h1 hP hD hS => ?_)
  obtain ⟨x1, x2, x3, x4, x5, x6, x7⟩ := u
  try dsimp only at h1
  have hP : zP E (mW E ad flt n kd vl nb fr tl rA rP rk rv rn rf rt can fm fs ss sl ce hd tr ++ (cW E ac x1 ce la si x2 x3 x4 x5 tr fw cw ch nm ++ (x7 ++ pl))) H := by rw [← List.append_assoc (cW E ac x1 ce la si x2 x3 x4 x5 tr fw cw ch nm) x7 pl]; exact hP
  have hD : va_D (fun q : Nat => s.heap.size ≤ q) (mW E ad flt n kd vl nb fr tl rA rP rk rv rn rf rt can fm fs ss sl ce hd tr ++ (cW E ac x1 ce la si x2 x3 x4 x5 tr fw cw ch nm ++ (x7 ++ pl))) := by rw [← List.append_assoc (cW E ac x1 ce la si x2 x3 x4 x5 tr fw cw ch nm) x7 pl]; exact hD
  refine lv_aload_n S.1 S.2.1 dL_law_172 rfl (lv_at hl 1 rfl) ?_
  refine z_arg (j := 1) S hX hbl hS hi hl (by decide) dL_law_173 dL_law_174 dL_law_175 dL_law_176 dL_law_177 ?_
  refine z_arg (j := 2) S hX hbl hS hi hl (by decide) dL_law_178 dL_law_179 dL_law_180 dL_law_181 dL_law_182 ?_
  refine z_arg (j := 3) S hX hbl hS hi hl (by decide) dL_law_183 dL_law_184 dL_law_185 dL_law_186 dL_law_187 ?_
  refine z_arg (j := 4) S hX hbl hS hi hl (by decide) dL_law_188 dL_law_189 dL_law_190 dL_law_191 dL_law_192 ?_
  have hPc : zP E (mW E ad flt n kd vl nb fr tl rA rP rk rv rn rf rt can fm fs ss sl ce hd tr) H := zPl hP
  have hDc : va_D (fun q : Nat => s.heap.size ≤ q) (mW E ad flt n kd vl nb fr tl rA rP rk rv rn rf rt can fm fs ss sl ce hd tr) := zDl hD
  refine z_si (L := []) (wc := mW E ad flt n kd vl nb fr tl rA rP rk rv rn rf rt can fm fs ss sl ce hd tr) (Rr := cW E ac x1 ce la si x2 x3 x4 x5 tr fw cw ch nm ++ (x7 ++ pl)) (z_mV S hK (c_X10_roll l E ad flt n kd vl nb fr tl rA rP rk rv rn rf rt can fm fs ss sl ce hd tr (zsc xs (i + 1)) (zsc xs (i + 2)) (zsc xs (i + 3)) (zsc xs (i + 4)) (zsc_rng _ _) (zsc_rng _ _) (zsc_rng _ _) (zsc_rng _ _) hp hsh hce _) gL_law_X10_roll rfl hw_X10_roll ⟨Nat.le_of_ble_eq_true rfl, Nat.le_of_ble_eq_true rfl⟩ (va_recv hK hPc (ci := 10) (q0 := 0) rfl rfl) hPc hDc trivial hl.1 rfl (Nat.le_of_ble_eq_true rfl) ⟨(show _ ≤ 600000 by omega), (show _ ≤ 7302250 by omega)⟩ rfl dL_law_193) hP hD hS hA (fun r2 u H locs h2 hP hD hS => ?_)
  obtain ⟨y1, y2, y3, y4, y5, y6, y7, y8, y9, y10, y11, y12, y13, y14⟩ := u
  try dsimp only at h2
  have hP : zP E (mW E ad y1 y2 y3 y4 y5 y6 y7 y8 y9 y10 y11 y12 y13 y14 can fm fs ss sl ce hd tr ++ (cW E ac x1 ce la si x2 x3 x4 x5 tr fw cw ch nm ++ (x7 ++ pl))) H := hP
  have hD : va_D (fun q : Nat => s.heap.size ≤ q) (mW E ad y1 y2 y3 y4 y5 y6 y7 y8 y9 y10 y11 y12 y13 y14 can fm fs ss sl ce hd tr ++ (cW E ac x1 ce la si x2 x3 x4 x5 tr fw cw ch nm ++ (x7 ++ pl))) := hD
  obtain ⟨⟨er, ef, en⟩, hp, an2, hon, hpe, hh2⟩ := zRoll_both h1.1 h2 hp hon hpe
  have hln := h1.2.1
  have hco := h1.2.2
  have hhas := hh2 _ hhas
  rw [← ef, ← en] at hP hD
  rw [← er]
  refine zcmpI (tgt := 1299) (R := room_1) S dL_law_196 (by decide) ?_
  refine W.widen (k := cells + 10) (n := slots + 40) (by omega) (by omega) ?_
  exact KK _ _ ⟨x1, ce, la, si, x2, x3, x4, x5, tr, fw, cw, ch, nm, y3, y4, y5, y6, y7, y8, y9, y10, y11, y12, y13, y14, can, fm, fs, ss, sl, hd, an2, (x7 ++ pl), ⟨hrel, hce, hln, hco, hp, hon, hpe, hhas, hsh⟩, hP, hD⟩ hS ls hl

set_option maxHeartbeats 4000000 in
set_option maxRecDepth 100000 in
theorem law_ofOne {p : Program} {l : Launch} {e : Env} {s : State} {m : MethodId} {below : List Frame} {meth : Method} {c : Code} {E : zE} {b L : Nat} {xs : Nat → Int32} {i : Int} {ac ad : Nat → Nat} {H : Heap} {locs : List Loc} {cells slots : Nat} {Q : State → Prop} {ls : Array Slot} (S : CallFix p m c code 4 s #[.ref b] wsL_law RL) (hK : zK E s) (hCs : zCs s) (hX : va_X b L xs s s.heap) (hbl : b < s.heap.size) (hi : 0 ≤ i ∧ i + 9 ≤ L ∧ L ≤ 4608) (hc : cells + 10 ≤ 600000 ∧ slots + 40 ≤ 7302250) (hZ : zLS E ac ad (fun q : Nat => s.heap.size ≤ q) H) (hS : va_S (fun q : Nat => s.heap.size ≤ q) s.heap H locs) (hl : lv_has ls 4 [(3, .int (jI i)), (2, .ref (ad 0)), (1, .ref (ac 0)), (0, .ref b)]) (KK : ∀ (H : Heap) (locs : List Loc), zLS E ac ad (fun q : Nat => s.heap.size ≤ q) H → va_S (fun q : Nat => s.heap.size ≤ q) s.heap H locs → ∀ ls : Array Slot, lv_has ls 4 [(3, .int (jI i)), (2, .ref (ad 0)), (1, .ref (ac 0)), (0, .ref b)] → W p l e room_1 s m #[Value.ref b] below meth c H locs (cells + 10) (slots + 40) Q (F0 m 1299 ls [])) : W p l e room_1 s m #[Value.ref b] below meth c H locs cells slots Q (F0 m 201 ls []) := by
  obtain ⟨flt, ce, la, si, ln, co, n, on, tr, fw, cw, ch, nm, kd, vl, nb, fr, tl, rA, rP, rk, rv, rn, rf, rt, can, fm, fs, ss, sl, hd, an, pl, ⟨hrel, hce, hln, hco, hp, hon, hpe, hhas, hsh⟩, hP, hD⟩ := hZ
  have hA : ∀ q : Nat, s.heap.size ≤ q → (fun q : Nat => s.heap.size ≤ q) q := fun _ h => h
  refine lv_aload_n S.1 S.2.1 dL_law_201 rfl (lv_at hl 2 rfl) ?_
  refine z_arg (j := 1) S hX hbl hS hi hl (by decide) dL_law_202 dL_law_203 dL_law_204 dL_law_205 dL_law_206 ?_
  refine z_arg (j := 2) S hX hbl hS hi hl (by decide) dL_law_207 dL_law_208 dL_law_209 dL_law_210 dL_law_211 ?_
  have hPc : zP E (cW E ac flt ce la si ln co n on tr fw cw ch nm) H := zPl (zPr hP)
  have hN : zNm E n an kd vl nb fr tl H := zHas_nm hhas (zPr (zPr hP))
  refine z_ri (z_rV S hK (c_X9_ofOne l E ac flt ce la si ln co n on tr fw cw ch nm an kd vl nb fr tl (zsc xs (i + 1)) (zsc xs (i + 2)) (zsc_rng _ _) (zsc_rng _ _) hp hon hpe) gL_law_X9_ofOne rfl hw_X9_ofOne ⟨Nat.le_of_ble_eq_true rfl, Nat.le_of_ble_eq_true rfl⟩ (va_recv hK hPc (ci := 9) (q0 := 0) rfl rfl) ⟨hPc, hN⟩ hl.1 rfl (Nat.le_of_ble_eq_true rfl) ⟨(show _ ≤ 600000 by omega), (show _ ≤ 7302250 by omega)⟩ rfl dL_law_212) (fun r1 h1 => ?_)
  refine lv_aload_n S.1 S.2.1 dL_law_215 rfl (lv_at hl 1 rfl) ?_
  refine z_arg (j := 1) S hX hbl hS hi hl (by decide) dL_law_216 dL_law_217 dL_law_218 dL_law_219 dL_law_220 ?_
  refine z_arg (j := 2) S hX hbl hS hi hl (by decide) dL_law_221 dL_law_222 dL_law_223 dL_law_224 dL_law_225 ?_
  have hPc : zP E (mW E ad flt n kd vl nb fr tl rA rP rk rv rn rf rt can fm fs ss sl ce hd tr) H := zPl hP
  refine z_ri (z_rV S hK (c_X10_ofOne l E ad flt n kd vl nb fr tl rA rP rk rv rn rf rt can fm fs ss sl ce hd tr (zsc xs (i + 1)) (zsc xs (i + 2)) (zsc_rng _ _) (zsc_rng _ _) hp) gL_law_X10_ofOne rfl hw_X10_ofOne ⟨Nat.le_of_ble_eq_true rfl, Nat.le_of_ble_eq_true rfl⟩ (va_recv hK hPc (ci := 10) (q0 := 0) rfl rfl) hPc hl.1 rfl (Nat.le_of_ble_eq_true rfl) ⟨(show _ ≤ 600000 by omega), (show _ ≤ 7302250 by omega)⟩ rfl dL_law_226) (fun r2 h2 => ?_)
  have er : r1 = r2 := zU_ofOne h1 h2
  rw [← er]
  refine zcmpI (tgt := 1299) (R := room_1) S dL_law_229 (by decide) ?_
  refine W.widen (k := cells + 10) (n := slots + 40) (by omega) (by omega) ?_
  exact KK _ _ ⟨flt, ce, la, si, ln, co, n, on, tr, fw, cw, ch, nm, kd, vl, nb, fr, tl, rA, rP, rk, rv, rn, rf, rt, can, fm, fs, ss, sl, hd, an, pl, ⟨hrel, hce, hln, hco, hp, hon, hpe, hhas, hsh⟩, hP, hD⟩ hS ls hl
