set_option maxHeartbeats 4000000 in
set_option maxRecDepth 100000 in
/-- the law's loop: at its head both sides hold the same numbers -/
theorem law_loop {p : Program} {l : Launch} {e : Env} {s : State} {m : MethodId} {below : List Frame} {meth : Method} {c : Code} {E : zE} {b L : Nat} {xs : Nat → Int32} {ac ad : Nat → Nat} (hL : L ≤ 4608) (C0 : lw_At p s m meth c b L xs) (S : CallFix p m c code 4 s #[.ref b] wsL_law RL) (hK : zK E s) (hCs : zCs s) : ∀ (g j : Nat), L < 9 * j + g → 9 * j ≤ L → ∀ (H : Heap) (locs : List Loc), zLS E ac ad (fun q : Nat => s.heap.size ≤ q) H → va_S (fun q : Nat => s.heap.size ≤ q) s.heap H locs → ∀ (ls : Array Slot), lv_has ls 4 [(3, .int (jI (9 * (j : Int)))), (2, .ref (ad 0)), (1, .ref (ac 0)), (0, .ref b)] → W p l e room_1 s m #[Value.ref b] below meth c H locs (40 + 10 * j) (6000 + 40 * j) (lw_Z below #[Value.ref b] s) (F0 m 18 ls []) := by
  obtain ⟨hx, hb, hr, hml, hown, hts, hX, hbl, hlocks, hgv⟩ := C0
  have hbA : ¬ (fun q : Nat => s.heap.size ≤ q) b := Nat.not_le.mpr hbl
  intro g
  induction g with
  | zero => intro j h1 h2; exact absurd h1 (by omega)
  | succ g ih =>
    intro j h1 h2 H locs hZ hS ls hl
    have KK : 9 * (j : Int) + 9 ≤ L → ∀ (H : Heap) (locs : List Loc), zLS E ac ad (fun q : Nat => s.heap.size ≤ q) H → va_S (fun q : Nat => s.heap.size ≤ q) s.heap H locs → ∀ ls : Array Slot, lv_has ls 4 [(3, .int (jI (9 * (j : Int)))), (2, .ref (ad 0)), (1, .ref (ac 0)), (0, .ref b)] → W p l e room_1 s m #[Value.ref b] below meth c H locs ((40 + 10 * j) + 10) ((6000 + 40 * j) + 40) (lw_Z below #[Value.ref b] s) (F0 m 1299 ls []) := by
      intro h9 H locs hZ hS ls hl
      refine z_iinc (lv' := [(3, .int (jI (9 * (j : Int) + 9))), (2, .ref (ad 0)), (1, .ref (ac 0)), (0, .ref b)]) S hl (k := 0) rfl (by decide) rfl dL_law_1299 (fun ls hl => ?_)
      refine z_goto (tgt := 18) S dL_law_1302 (by decide) ?_
      have e9 : 9 * (j : Int) + 9 = 9 * ((j + 1 : Nat) : Int) := by omega
      rw [e9] at hl
      refine W.widen (k := 40 + 10 * (j + 1)) (n := 6000 + 40 * (j + 1)) (by omega) (by omega) ?_
      exact ih (j + 1) (by omega) (by omega) H locs hZ hS ls hl
    refine lv_iload_n S.1 S.2.1 dL_law_18 rfl (lv_at hl 0 rfl) ?_
    refine lv_aload_n S.1 S.2.1 dL_law_19 rfl (lv_at hl 3 rfl) ?_
    refine va_slen (A := fun q : Nat => s.heap.size ≤ q) S.1 S.2.1 hX hbl hbA hS dL_law_20 ?_
    rw [jI_nI]
    refine z_bipush S (by decide +kernel) dL_law_21 ?_
    refine z_isub S dL_law_23 ?_
    refine z_icmp_gt (tgt := 1305) S dL_law_24 (by decide) (by omega) (fun c_24 => ?_) (fun c_24 => ?_)
    · refine lv_iconst (v := 1) S.1 S.2.1 dL_law_1305 (by decide) ?_
      refine va_forget (fun q hq => hS.2.2 q hq) ?_
      refine W.widen (k := 600000) (n := 7302250) (by omega) (by omega) ?_
      exact lw_ret hx hb hr hlocks dL_law_1306
    · have h9 : 9 * (j : Int) + 9 ≤ L := by omega
      have hi : 0 ≤ 9 * (j : Int) ∧ 9 * (j : Int) + 9 ≤ L ∧ L ≤ 4608 := ⟨by omega, h9, hL⟩
      have hc : (40 + 10 * j) + 10 ≤ 600000 ∧ (6000 + 40 * j) + 40 ≤ 7302250 := by omega
      refine lv_aload_n S.1 S.2.1 dL_law_27 rfl (lv_at hl 3 rfl) ?_
      refine lv_iload_n S.1 S.2.1 dL_law_28 rfl (lv_at hl 0 rfl) ?_
      refine z_sld S hX hbl hS (by omega) dL_law_29 ?_
      refine z_bipush S (by decide +kernel) dL_law_30 ?_
      refine lv_iand S.1 S.2.1 dL_law_32 ?_
      refine lv_topi (fun w hw => ?_)
      obtain ⟨v, hv, hvr⟩ : ∃ v : Int, w = jI v ∧ (-2147483648 ≤ v ∧ v ≤ 2147483647) := ⟨_, jI_of w, jI_rng w⟩
      rw [hv]
      rcases zsw v 0 24 with cn | cn
      · refine z_swOut (tgt := 1299) S dL_law_33 hvr cn (by decide) ?_
        refine W.widen (k := (40 + 10 * j) + 10) (n := (6000 + 40 * j) + 40) (by omega) (by omega) ?_
        exact KK h9 H locs hZ hS ls hl
      · have hsw : v = 0 ∨ v = 1 ∨ v = 2 ∨ v = 3 ∨ v = 4 ∨ v = 5 ∨ v = 6 ∨ v = 7 ∨ v = 8 ∨ v = 9 ∨ v = 10 ∨ v = 11 ∨ v = 12 ∨ v = 13 ∨ v = 14 ∨ v = 15 ∨ v = 16 ∨ v = 17 ∨ v = 18 ∨ v = 19 ∨ v = 20 ∨ v = 21 ∨ v = 22 ∨ v = 23 ∨ v = 24 := by omega
        rcases hsw with hsw | hsw | hsw | hsw | hsw | hsw | hsw | hsw | hsw | hsw | hsw | hsw | hsw | hsw | hsw | hsw | hsw | hsw | hsw | hsw | hsw | hsw | hsw | hsw | hsw
        · refine z_swIn (tgt := 148) (off := 115) S dL_law_33 hvr hsw (by decide) (by decide) (by decide) (by decide) ?_
          exact law_roll S hK hCs hX hbl hi hc hZ hS hl (KK h9)
        · refine z_swIn (tgt := 201) (off := 168) S dL_law_33 hvr hsw (by decide) (by decide) (by decide) (by decide) ?_
          exact law_ofOne S hK hCs hX hbl hi hc hZ hS hl (KK h9)
        · refine z_swIn (tgt := 234) (off := 201) S dL_law_33 hvr hsw (by decide) (by decide) (by decide) (by decide) ?_
          exact law_lives S hK hCs hX hbl hi hc hZ hS hl (KK h9)
        · refine z_swIn (tgt := 277) (off := 244) S dL_law_33 hvr hsw (by decide) (by decide) (by decide) (by decide) ?_
          exact law_word S hK hCs hX hbl hi hc hZ hS hl (KK h9)
        · refine z_swIn (tgt := 320) (off := 287) S dL_law_33 hvr hsw (by decide) (by decide) (by decide) (by decide) ?_
          exact law_sayable S hK hCs hX hbl hi hc hZ hS hl (KK h9)
        · refine z_swIn (tgt := 363) (off := 330) S dL_law_33 hvr hsw (by decide) (by decide) (by decide) (by decide) ?_
          exact law_means S hK hCs hX hbl hi hc hZ hS hl (KK h9)
        · refine z_swIn (tgt := 438) (off := 405) S dL_law_33 hvr hsw (by decide) (by decide) (by decide) (by decide) ?_
          exact law_say S hK hCs hX hbl hi hc hZ hS hl (KK h9)
        · refine z_swIn (tgt := 491) (off := 458) S dL_law_33 hvr hsw (by decide) (by decide) (by decide) (by decide) ?_
          exact law_turned S hK hCs hX hbl hi hc hZ hS hl (KK h9)
        · refine z_swIn (tgt := 578) (off := 545) S dL_law_33 hvr hsw (by decide) (by decide) (by decide) (by decide) ?_
          exact law_child S hK hCs hX hbl hi hc hZ hS hl (KK h9)
        · refine z_swIn (tgt := 677) (off := 644) S dL_law_33 hvr hsw (by decide) (by decide) (by decide) (by decide) ?_
          exact law_both S hK hCs hX hbl hi hc hZ hS hl (KK h9)
        · refine z_swIn (tgt := 720) (off := 687) S dL_law_33 hvr hsw (by decide) (by decide) (by decide) (by decide) ?_
          exact law_written S hK hCs hX hbl hi hc hZ hS hl (KK h9)
        · refine z_swIn (tgt := 795) (off := 762) S dL_law_33 hvr hsw (by decide) (by decide) (by decide) (by decide) ?_
          exact law_lost S hK hCs hX hbl hi hc hZ hS hl (KK h9)
        · refine z_swIn (tgt := 848) (off := 815) S dL_law_33 hvr hsw (by decide) (by decide) (by decide) (by decide) ?_
          exact law_back S hK hCs hX hbl hi hc hZ hS hl (KK h9)
        · refine z_swIn (tgt := 911) (off := 878) S dL_law_33 hvr hsw (by decide) (by decide) (by decide) (by decide) ?_
          exact law_told S hK hCs hX hbl hi hc hZ hS hl (KK h9)
        · refine z_swIn (tgt := 965) (off := 932) S dL_law_33 hvr hsw (by decide) (by decide) (by decide) (by decide) ?_
          exact law_sheet S hK hCs hX hbl hi hc hZ hS hl (KK h9)
        · refine z_swIn (tgt := 1008) (off := 975) S dL_law_33 hvr hsw (by decide) (by decide) (by decide) (by decide) ?_
          exact law_lose S hK hCs hX hbl hi hc hZ hS hl (KK h9)
        · refine z_swIn (tgt := 1031) (off := 998) S dL_law_33 hvr hsw (by decide) (by decide) (by decide) (by decide) ?_
          exact law_put S hK hCs hX hbl hi hc hZ hS hl (KK h9)
        · refine z_swIn (tgt := 1074) (off := 1041) S dL_law_33 hvr hsw (by decide) (by decide) (by decide) (by decide) ?_
          exact law_cell S hK hCs hX hbl hi hc hZ hS hl (KK h9)
        · refine z_swIn (tgt := 1118) (off := 1085) S dL_law_33 hvr hsw (by decide) (by decide) (by decide) (by decide) ?_
          exact law_copy S hK hCs hX hbl hi hc hZ hS hl (KK h9)
        · refine z_swIn (tgt := 1181) (off := 1148) S dL_law_33 hvr hsw (by decide) (by decide) (by decide) (by decide) ?_
          exact law_tell S hK hCs hX hbl hi hc hZ hS hl (KK h9)
        · refine z_swIn (tgt := 1204) (off := 1171) S dL_law_33 hvr hsw (by decide) (by decide) (by decide) (by decide) ?_
          exact law_mourn S hK hCs hX hbl hi hc hZ hS hl (KK h9)
        · refine z_swIn (tgt := 1227) (off := 1194) S dL_law_33 hvr hsw (by decide) (by decide) (by decide) (by decide) ?_
          exact law_as S hK hCs hX hbl hi hc hZ hS hl (KK h9)
        · refine z_swIn (tgt := 1260) (off := 1227) S dL_law_33 hvr hsw (by decide) (by decide) (by decide) (by decide) ?_
          exact law_trace S hK hCs hX hbl hi hc hZ hS hl (KK h9)
        · refine z_swIn (tgt := 1273) (off := 1240) S dL_law_33 hvr hsw (by decide) (by decide) (by decide) (by decide) ?_
          exact law_fault S hK hCs hX hbl hi hc hZ hS hl (KK h9)
        · refine z_swIn (tgt := 1286) (off := 1253) S dL_law_33 hvr hsw (by decide) (by decide) (by decide) (by decide) ?_
          exact law_many S hK hCs hX hbl hi hc hZ hS hl (KK h9)
