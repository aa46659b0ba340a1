theorem hw_X9_means : yX9_means.cls = RX9 ∧ yX9_means.cls ≠ "java/lang/invoke/MethodHandle" ∧ yX9_means.cls ≠ "java/lang/invoke/VarHandle" ∧ (parseMethodDescriptor yX9_means.desc).map (fun d => d.parameters.length) = some 6 := by decide +kernel
theorem hw_X10_means : yX10_means.cls = RX10 ∧ yX10_means.cls ≠ "java/lang/invoke/MethodHandle" ∧ yX10_means.cls ≠ "java/lang/invoke/VarHandle" ∧ (parseMethodDescriptor yX10_means.desc).map (fun d => d.parameters.length) = some 6 := by decide +kernel
theorem hw_X9_say : yX9_say.cls = RX9 ∧ yX9_say.cls ≠ "java/lang/invoke/MethodHandle" ∧ yX9_say.cls ≠ "java/lang/invoke/VarHandle" ∧ (parseMethodDescriptor yX9_say.desc).map (fun d => d.parameters.length) = some 4 := by decide +kernel
theorem hw_X10_say : yX10_say.cls = RX10 ∧ yX10_say.cls ≠ "java/lang/invoke/MethodHandle" ∧ yX10_say.cls ≠ "java/lang/invoke/VarHandle" ∧ (parseMethodDescriptor yX10_say.desc).map (fun d => d.parameters.length) = some 4 := by decide +kernel
set_option maxHeartbeats 4000000 in
set_option maxRecDepth 100000 in
theorem law_means {p : Program} {l : Launch} {e : Env} {s : State} {m : MethodId} {below : List Frame} {meth : Method} {c : Code} {E : zE} {b L : Nat} {xs : Nat → Int32} {i : Int} {ac ad : Nat → Nat} {H : Heap} {locs : List Loc} {cells slots : Nat} {Q : State → Prop} {ls : Array Slot} (S : CallFix p m c code 4 s #[.ref b] wsL_law RL) (hK : zK E s) (hCs : zCs s) (hX : va_X b L xs s s.heap) (hbl : b < s.heap.size) (hi : 0 ≤ i ∧ i + 9 ≤ L ∧ L ≤ 4608) (hc : cells + 10 ≤ 600000 ∧ slots + 40 ≤ 7302250) (hZ : zLS E ac ad (fun q : Nat => s.heap.size ≤ q) H) (hS : va_S (fun q : Nat => s.heap.size ≤ q) s.heap H locs) (hl : lv_has ls 4 [(3, .int (jI i)), (2, .ref (ad 0)), (1, .ref (ac 0)), (0, .ref b)]) (KK : ∀ (H : Heap) (locs : List Loc), zLS E ac ad (fun q : Nat => s.heap.size ≤ q) H → va_S (fun q : Nat => s.heap.size ≤ q) s.heap H locs → ∀ ls : Array Slot, lv_has ls 4 [(3, .int (jI i)), (2, .ref (ad 0)), (1, .ref (ac 0)), (0, .ref b)] → W p l e room_1 s m #[Value.ref b] below meth c H locs (cells + 10) (slots + 40) Q (F0 m 1299 ls [])) : W p l e room_1 s m #[Value.ref b] below meth c H locs cells slots Q (F0 m 363 ls []) := by
  obtain ⟨flt, ce, la, si, ln, co, n, on, tr, fw, cw, ch, nm, kd, vl, nb, fr, tl, rA, rP, rk, rv, rn, rf, rt, can, fm, fs, ss, sl, hd, an, pl, ⟨hrel, hce, hln, hco, hp, hon, hpe, hhas, hsh⟩, hP, hD⟩ := hZ
  have hA : ∀ q : Nat, s.heap.size ≤ q → (fun q : Nat => s.heap.size ≤ q) q := fun _ h => h
  refine lv_aload_n S.1 S.2.1 dL_law_363 rfl (lv_at hl 2 rfl) ?_
  refine z_arg (j := 1) S hX hbl hS hi hl (by decide) dL_law_364 dL_law_365 dL_law_366 dL_law_367 dL_law_368 ?_
  refine z_arg (j := 2) S hX hbl hS hi hl (by decide) dL_law_369 dL_law_370 dL_law_371 dL_law_372 dL_law_373 ?_
  refine z_arg (j := 3) S hX hbl hS hi hl (by decide) dL_law_374 dL_law_375 dL_law_376 dL_law_377 dL_law_378 ?_
  refine z_arg (j := 4) S hX hbl hS hi hl (by decide) dL_law_379 dL_law_380 dL_law_381 dL_law_382 dL_law_383 ?_
  refine z_arg (j := 5) S hX hbl hS hi hl (by decide) dL_law_384 dL_law_385 dL_law_386 dL_law_387 dL_law_388 ?_
  refine z_argb (j := 6) S hX hbl hS hi hl (by decide) (by decide +kernel) dL_law_389 dL_law_390 dL_law_391 dL_law_393 dL_law_394 ?_
  have hPc : zP E (cW E ac flt ce la si ln co n on tr fw cw ch nm) H := zPl (zPr hP)
  have hN : zNm E n an kd vl nb fr tl H := zHas_nm hhas (zPr (zPr hP))
  have hap : zAp (cW E ac flt ce la si ln co n on tr fw cw ch nm) n an := zHas_ap hhas (zDr hD)
  have hDc : va_D (fun q : Nat => s.heap.size ≤ q) (cW E ac flt ce la si ln co n on tr fw cw ch nm) := zDl (zDr hD)
  refine z_si (L := mW E ad flt n kd vl nb fr tl rA rP rk rv rn rf rt can fm fs ss sl ce hd tr) (wc := cW E ac flt ce la si ln co n on tr fw cw ch nm) (Rr := pl) (z_mV S hK (c_X9_means l E ac flt ce la si ln co n on tr fw cw ch nm an kd vl nb fr tl (zsc xs (i + 1)) (zsc xs (i + 2)) (zsc xs (i + 3)) (zsc xs (i + 4)) (zsc xs (i + 5)) (zsc xs (i + 6)) ss sl hrel hce (zsc_rng _ _) (zsc_rng _ _) (zsc_rng _ _) (zsc_rng _ _) (zsc_rng _ _) (zsc_rng _ _) hp hon hpe hap _) gL_law_X9_means rfl hw_X9_means ⟨Nat.le_of_ble_eq_true rfl, Nat.le_of_ble_eq_true rfl⟩ (va_recv hK hPc (ci := 9) (q0 := 0) rfl rfl) hPc hDc hN hl.1 rfl (Nat.le_of_ble_eq_true rfl) ⟨(show _ ≤ 600000 by omega), (show _ ≤ 7302250 by omega)⟩ rfl dL_law_395) hP hD hS hA (fun r1 u H locs h1 hP hD hS => ?_)
  obtain ⟨x1, x1_e⟩ : ∃ z, z = u := ⟨_, rfl⟩
  subst x1_e
  try dsimp only at h1
  have hP : zP E (mW E ad flt n kd vl nb fr tl rA rP rk rv rn rf rt can fm fs ss sl ce hd tr ++ (cW E ac x1 ce la si ln co n on tr fw cw ch nm ++ pl)) H := hP
  have hD : va_D (fun q : Nat => s.heap.size ≤ q) (mW E ad flt n kd vl nb fr tl rA rP rk rv rn rf rt can fm fs ss sl ce hd tr ++ (cW E ac x1 ce la si ln co n on tr fw cw ch nm ++ pl)) := hD
  refine lv_aload_n S.1 S.2.1 dL_law_398 rfl (lv_at hl 1 rfl) ?_
  refine z_arg (j := 1) S hX hbl hS hi hl (by decide) dL_law_399 dL_law_400 dL_law_401 dL_law_402 dL_law_403 ?_
  refine z_arg (j := 2) S hX hbl hS hi hl (by decide) dL_law_404 dL_law_405 dL_law_406 dL_law_407 dL_law_408 ?_
  refine z_arg (j := 3) S hX hbl hS hi hl (by decide) dL_law_409 dL_law_410 dL_law_411 dL_law_412 dL_law_413 ?_
  refine z_arg (j := 4) S hX hbl hS hi hl (by decide) dL_law_414 dL_law_415 dL_law_416 dL_law_417 dL_law_418 ?_
  refine z_arg (j := 5) S hX hbl hS hi hl (by decide) dL_law_419 dL_law_420 dL_law_421 dL_law_422 dL_law_423 ?_
  refine z_argb (j := 6) S hX hbl hS hi hl (by decide) (by decide +kernel) dL_law_424 dL_law_425 dL_law_426 dL_law_428 dL_law_429 ?_
  have hPc : zP E (mW E ad flt n kd vl nb fr tl rA rP rk rv rn rf rt can fm fs ss sl ce hd tr) H := zPl hP
  have hDc : va_D (fun q : Nat => s.heap.size ≤ q) (mW E ad flt n kd vl nb fr tl rA rP rk rv rn rf rt can fm fs ss sl ce hd tr) := zDl hD
  refine z_si (L := []) (wc := mW E ad flt n kd vl nb fr tl rA rP rk rv rn rf rt can fm fs ss sl ce hd tr) (Rr := cW E ac x1 ce la si ln co n on tr fw cw ch nm ++ pl) (z_mV S hK (c_X10_means l E ad flt n kd vl nb fr tl rA rP rk rv rn rf rt can fm fs ss sl ce hd tr (zsc xs (i + 1)) (zsc xs (i + 2)) (zsc xs (i + 3)) (zsc xs (i + 4)) (zsc xs (i + 5)) (zsc xs (i + 6)) (zsc_rng _ _) (zsc_rng _ _) (zsc_rng _ _) (zsc_rng _ _) (zsc_rng _ _) (zsc_rng _ _) hp hpe hsh hce _) gL_law_X10_means rfl hw_X10_means ⟨Nat.le_of_ble_eq_true rfl, Nat.le_of_ble_eq_true rfl⟩ (va_recv hK hPc (ci := 10) (q0 := 0) rfl rfl) hPc hDc trivial hl.1 rfl (Nat.le_of_ble_eq_true rfl) ⟨(show _ ≤ 600000 by omega), (show _ ≤ 7302250 by omega)⟩ rfl dL_law_430) hP hD hS hA (fun r2 u H locs h2 hP hD hS => ?_)
  obtain ⟨y1, y1_e⟩ : ∃ z, z = u := ⟨_, rfl⟩
  subst y1_e
  try dsimp only at h2
  have hP : zP E (mW E ad y1 n kd vl nb fr tl rA rP rk rv rn rf rt can fm fs ss sl ce hd tr ++ (cW E ac x1 ce la si ln co n on tr fw cw ch nm ++ pl)) H := hP
  have hD : va_D (fun q : Nat => s.heap.size ≤ q) (mW E ad y1 n kd vl nb fr tl rA rP rk rv rn rf rt can fm fs ss sl ce hd tr ++ (cW E ac x1 ce la si ln co n on tr fw cw ch nm ++ pl)) := hD
  obtain ⟨er, ef⟩ := zU_means h1 h2
  rw [← ef] at hP hD
  rw [← er]
  refine zcmpI (tgt := 1299) (R := room_1) S dL_law_433 (by decide) ?_
  refine W.widen (k := cells + 10) (n := slots + 40) (by omega) (by omega) ?_
  exact KK _ _ ⟨x1, ce, la, si, ln, co, n, on, tr, fw, cw, ch, nm, kd, vl, nb, fr, tl, rA, rP, rk, rv, rn, rf, rt, can, fm, fs, ss, sl, hd, an, pl, ⟨hrel, hce, hln, hco, hp, hon, hpe, hhas, hsh⟩, hP, hD⟩ hS ls hl

set_option maxHeartbeats 4000000 in
set_option maxRecDepth 100000 in
theorem law_say {p : Program} {l : Launch} {e : Env} {s : State} {m : MethodId} {below : List Frame} {meth : Method} {c : Code} {E : zE} {b L : Nat} {xs : Nat → Int32} {i : Int} {ac ad : Nat → Nat} {H : Heap} {locs : List Loc} {cells slots : Nat} {Q : State → Prop} {ls : Array Slot} (S : CallFix p m c code 4 s #[.ref b] wsL_law RL) (hK : zK E s) (hCs : zCs s) (hX : va_X b L xs s s.heap) (hbl : b < s.heap.size) (hi : 0 ≤ i ∧ i + 9 ≤ L ∧ L ≤ 4608) (hc : cells + 10 ≤ 600000 ∧ slots + 40 ≤ 7302250) (hZ : zLS E ac ad (fun q : Nat => s.heap.size ≤ q) H) (hS : va_S (fun q : Nat => s.heap.size ≤ q) s.heap H locs) (hl : lv_has ls 4 [(3, .int (jI i)), (2, .ref (ad 0)), (1, .ref (ac 0)), (0, .ref b)]) (KK : ∀ (H : Heap) (locs : List Loc), zLS E ac ad (fun q : Nat => s.heap.size ≤ q) H → va_S (fun q : Nat => s.heap.size ≤ q) s.heap H locs → ∀ ls : Array Slot, lv_has ls 4 [(3, .int (jI i)), (2, .ref (ad 0)), (1, .ref (ac 0)), (0, .ref b)] → W p l e room_1 s m #[Value.ref b] below meth c H locs (cells + 10) (slots + 40) Q (F0 m 1299 ls [])) : W p l e room_1 s m #[Value.ref b] below meth c H locs cells slots Q (F0 m 438 ls []) := by
  obtain ⟨flt, ce, la, si, ln, co, n, on, tr, fw, cw, ch, nm, kd, vl, nb, fr, tl, rA, rP, rk, rv, rn, rf, rt, can, fm, fs, ss, sl, hd, an, pl, ⟨hrel, hce, hln, hco, hp, hon, hpe, hhas, hsh⟩, hP, hD⟩ := hZ
  have hA : ∀ q : Nat, s.heap.size ≤ q → (fun q : Nat => s.heap.size ≤ q) q := fun _ h => h
  refine lv_aload_n S.1 S.2.1 dL_law_438 rfl (lv_at hl 2 rfl) ?_
  refine z_arg (j := 1) S hX hbl hS hi hl (by decide) dL_law_439 dL_law_440 dL_law_441 dL_law_442 dL_law_443 ?_
  refine z_arg (j := 2) S hX hbl hS hi hl (by decide) dL_law_444 dL_law_445 dL_law_446 dL_law_447 dL_law_448 ?_
  refine z_arg (j := 3) S hX hbl hS hi hl (by decide) dL_law_449 dL_law_450 dL_law_451 dL_law_452 dL_law_453 ?_
  refine z_arg (j := 4) S hX hbl hS hi hl (by decide) dL_law_454 dL_law_455 dL_law_456 dL_law_457 dL_law_458 ?_
  have hPc : zP E (cW E ac flt ce la si ln co n on tr fw cw ch nm) H := zPl (zPr hP)
  have hN : zNm E n an kd vl nb fr tl H := zHas_nm hhas (zPr (zPr hP))
  have hap : zAp (cW E ac flt ce la si ln co n on tr fw cw ch nm) n an := zHas_ap hhas (zDr hD)
  have hDc : va_D (fun q : Nat => s.heap.size ≤ q) (cW E ac flt ce la si ln co n on tr fw cw ch nm) := zDl (zDr hD)
  refine z_si (L := mW E ad flt n kd vl nb fr tl rA rP rk rv rn rf rt can fm fs ss sl ce hd tr) (wc := cW E ac flt ce la si ln co n on tr fw cw ch nm) (Rr := pl) (z_mV S hK (c_X9_say l E ac flt ce la si ln co n on tr fw cw ch nm an kd vl nb fr tl (zsc xs (i + 1)) (zsc xs (i + 2)) (zsc xs (i + 3)) (zsc xs (i + 4)) (zsc_rng _ _) (zsc_rng _ _) (zsc_rng _ _) (zsc_rng _ _) hp hon hpe hap _) gL_law_X9_say rfl hw_X9_say ⟨Nat.le_of_ble_eq_true rfl, Nat.le_of_ble_eq_true rfl⟩ (va_recv hK hPc (ci := 9) (q0 := 0) rfl rfl) hPc hDc hN hl.1 rfl (Nat.le_of_ble_eq_true rfl) ⟨(show _ ≤ 600000 by omega), (show _ ≤ 7302250 by omega)⟩ rfl dL_law_459) hP hD hS hA (fun r1 u H locs h1 hP hD hS => ?_)
  obtain ⟨x1, x1_e⟩ : ∃ z, z = u := ⟨_, rfl⟩
  subst x1_e
  try dsimp only at h1
  have hP : zP E (mW E ad flt n kd vl nb fr tl rA rP rk rv rn rf rt can fm fs ss sl ce hd tr ++ (cW E ac flt ce la si ln co n on tr x1 cw ch nm ++ pl)) H := hP
  have hD : va_D (fun q : Nat => s.heap.size ≤ q) (mW E ad flt n kd vl nb fr tl rA rP rk rv rn rf rt can fm fs ss sl ce hd tr ++ (cW E ac flt ce la si ln co n on tr x1 cw ch nm ++ pl)) := hD
  refine lv_aload_n S.1 S.2.1 dL_law_462 rfl (lv_at hl 1 rfl) ?_
  refine z_arg (j := 1) S hX hbl hS hi hl (by decide) dL_law_463 dL_law_464 dL_law_465 dL_law_466 dL_law_467 ?_
  refine z_arg (j := 2) S hX hbl hS hi hl (by decide) dL_law_468 dL_law_469 dL_law_470 dL_law_471 dL_law_472 ?_
  refine z_arg (j := 3) S hX hbl hS hi hl (by decide) dL_law_473 dL_law_474 dL_law_475 dL_law_476 dL_law_477 ?_
  refine z_arg (j := 4) S hX hbl hS hi hl (by decide) dL_law_478 dL_law_479 dL_law_480 dL_law_481 dL_law_482 ?_
  have hPc : zP E (mW E ad flt n kd vl nb fr tl rA rP rk rv rn rf rt can fm fs ss sl ce hd tr) H := zPl hP
  have hDc : va_D (fun q : Nat => s.heap.size ≤ q) (mW E ad flt n kd vl nb fr tl rA rP rk rv rn rf rt can fm fs ss sl ce hd tr) := zDl hD
  refine z_si (L := []) (wc := mW E ad flt n kd vl nb fr tl rA rP rk rv rn rf rt can fm fs ss sl ce hd tr) (Rr := cW E ac flt ce la si ln co n on tr x1 cw ch nm ++ pl) (z_mV S hK (c_X10_say l E ad flt n kd vl nb fr tl rA rP rk rv rn rf rt can fm fs ss sl ce hd tr (zsc xs (i + 1)) (zsc xs (i + 2)) (zsc xs (i + 3)) (zsc xs (i + 4)) (zsc_rng _ _) (zsc_rng _ _) (zsc_rng _ _) (zsc_rng _ _) hp hpe _) gL_law_X10_say rfl hw_X10_say ⟨Nat.le_of_ble_eq_true rfl, Nat.le_of_ble_eq_true rfl⟩ (va_recv hK hPc (ci := 10) (q0 := 0) rfl rfl) hPc hDc trivial hl.1 rfl (Nat.le_of_ble_eq_true rfl) ⟨(show _ ≤ 600000 by omega), (show _ ≤ 7302250 by omega)⟩ rfl dL_law_483) hP hD hS hA (fun r2 u H locs h2 hP hD hS => ?_)
  obtain ⟨y1, y2⟩ := u
  try dsimp only at h2
  have hP : zP E (mW E ad flt n kd vl nb fr tl rA rP rk rv rn rf rt y1 y2 fs ss sl ce hd tr ++ (cW E ac flt ce la si ln co n on tr x1 cw ch nm ++ pl)) H := hP
  have hD : va_D (fun q : Nat => s.heap.size ≤ q) (mW E ad flt n kd vl nb fr tl rA rP rk rv rn rf rt y1 y2 fs ss sl ce hd tr ++ (cW E ac flt ce la si ln co n on tr x1 cw ch nm ++ pl)) := hD
  have er : r1 = r2 := zU_say h1 h2
  rw [← er]
  refine zcmpI (tgt := 1299) (R := room_1) S dL_law_486 (by decide) ?_
  refine W.widen (k := cells + 10) (n := slots + 40) (by omega) (by omega) ?_
  exact KK _ _ ⟨flt, ce, la, si, ln, co, n, on, tr, x1, cw, ch, nm, kd, vl, nb, fr, tl, rA, rP, rk, rv, rn, rf, rt, y1, y2, fs, ss, sl, hd, an, pl, ⟨hrel, hce, hln, hco, hp, hon, hpe, hhas, hsh⟩, hP, hD⟩ hS ls hl
