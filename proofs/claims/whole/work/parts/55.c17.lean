/-- the class's roll: what is answered and who lives then -/
def zRollC (ss sl ce : Int → Int) (k lane i cn r f ln : Int) (n : Int) (on : Nat → Option Nat) (n2 : Int) (on2 : Nat → Option Nat) (an : Int → Nat) (pl : va_W) : Prop := ∃ b g, zBar ss sl k lane i cn True b g ∧ ((b < 0 ∧ r = b ∧ f = g ∧ n2 = n ∧ on2 = on ∧ pl = []) ∨ (b = 0 ∧ f = 0 ∧ ∃ p, zParse (fun j => ce (100 * k + i + j)) cn p ∧ ((0 ≤ p ∧ r = -100 - p ∧ n2 = n ∧ on2 = on ∧ pl = []) ∨ (p = -1 ∧ r = n2 ∧ cn = 9 * n2 - 1 ∧ (1 ≤ n2 ∧ n2 ≤ 10) ∧ zOns n2 on2 an ∧ zObs n2 an (fun j => ce (100 * k + i + j)) pl))))
theorem zParse_rng {t : Int → Int} {n r : Int} (h : zParse t n r) (hn : 0 ≤ n ∧ n ≤ 100) : -1 ≤ r ∧ r ≤ 100 := by
  rcases h with ⟨h1, h2, h3⟩ | ⟨p, h1, h2, h3, h4⟩ | ⟨h1, h2, h3⟩
  · omega
  · unfold zSec at h4
    omega
  · omega
theorem zParse_all {t : Int → Int} {n r : Int} (h : zParse t n r) (hn : 0 ≤ n ∧ n ≤ 100) (hr : r < 0) : ∃ N : Int, (n = 9 * N - 1 ∧ 1 ≤ N ∧ N ≤ 10) ∧ zAllGo t n := by
  rcases h with ⟨h1, h2, h3⟩ | ⟨p, h1, h2, h3, h4⟩ | ⟨h1, h2, h3⟩
  · refine ⟨(n + 1) / 9, ?_, h3⟩
    by_cases e : n ≤ 89
    · omega
    · have q := (zGo_at (t := t) (p := 89) (b := 81) (k := 8) (by omega) (by omega) (by omega)).mp (h3 89 (by omega) (by omega))
      unfold zG at q
      have := (q.2.2.2.2.2.2.2.2 rfl).2
      omega
  · unfold zSec at h4
    omega
  · omega
theorem zKd_cong {t t' : Int → Int} {n x : Int} (h : ∀ y, 0 ≤ y → y < n → t y = t' y) (hx : 0 ≤ x ∧ 9 * x + 8 ≤ n) : zKd t x = zKd t' x ∧ zVl t x = zVl t' x ∧ zNb t x = zNb t' x ∧ zFr t x = zFr t' x ∧ zTl t x = zTl t' x := by
  unfold zKd zVl zNb zFr zTl
  rw [h (9 * x) (by omega) (by omega), h (9 * x + 1) (by omega) (by omega), h (9 * x + 2) (by omega) (by omega), h (9 * x + 3) (by omega) (by omega), h (9 * x + 4) (by omega) (by omega), h (9 * x + 5) (by omega) (by omega), h (9 * x + 6) (by omega) (by omega), h (9 * x + 7) (by omega) (by omega)]
  exact ⟨rfl, rfl, rfl, rfl, rfl⟩
theorem zObs_cong {t t' : Int → Int} {n N : Int} {an : Int → Nat} {pl : va_W} (h : ∀ y, 0 ≤ y → y < n → t y = t' y) (hn : n = 9 * N - 1) (hb : zObs N an t pl) : zObs N an t' pl := fun x h1 h2 => by
  obtain ⟨k, hk⟩ := hb x h1 h2
  obtain ⟨e1, e2, e3, e4, e5⟩ := zKd_cong h (x := x) (by omega)
  rw [e1, e2, e3, e4, e5] at hk
  exact ⟨k, hk⟩
section ZMVP
variable {p : Program} {l : Launch} {e : Env} {R : Room} {s : State} {m : MethodId} {args : Array Value} {below : List Frame} {meth : Method} {c : Code} {H : Heap} {locs : List Loc} {cells slots : Nat} {Q : State → Prop}
variable {cc : ByteArray} {pc nL : Nat} {ls : Array Slot} {st rest : List Value} {Ts : List Cond} {own : String} {E : zE} {A : Nat → Prop} {av : Array Value} {mc ms : Nat}
theorem z_mvP {S : Type} {post : S → Prop} {rx pl1 : S → va_W} {wc : va_W} (hr : va_Run p l e R s m args below meth c H locs cells slots mc ms (F0 m pc ls st) rest (zQMv E wc H.size post (fun u => rx u ++ pl1 u) av) (va_A wc H.size)) {ws wr : va_W} (hP : zP E ws H) (hD : va_D A ws) (hS : va_S A s.heap H locs) (hA : ∀ q, s.heap.size ≤ q → A q) (isC isR isF : List Nat) (hC : isC.map (fun i => ws[i]?) = wc.map some) (hR : isR.map (fun i => ws[i]?) = wr.map some) (hn : va_nd isR = true) (hdis : ∀ i ∈ isR, i ∉ isC) (ws2 : S → va_W) (hnF : va_nd isF = true) (hF2 : ∀ u : S, isF.map (fun i => (wr ++ rx u)[i]?) = (ws2 u).map some)
    (kk : ∀ (u : S) (H1 : Heap) (locs1 : List Loc), post u → zP E (ws2 u ++ pl1 u) H1 → va_D A (ws2 u ++ pl1 u) → va_S A s.heap H1 locs1 → W p l e R s m args below meth c H1 locs1 (cells + mc) (slots + ms) Q (F0 m (pc + 3) ls (rest))) : W p l e R s m args below meth c H locs cells slots Q (F0 m (pc) ls (st)) := by
  refine z_mvc hr hD hS hA isC hC (fun u H1 locs1 hp hP1 hD1 hS1 hz hk hF => ?_)
  have hP0 : va_P E.1 vwCl (ws ++ []) H := by rw [List.append_nil]; exact hP
  have hD0 : va_D A (ws ++ []) := by rw [List.append_nil]; exact hD
  obtain ⟨h1, h2⟩ := va_joinP (rx := rx u) (pl1 := pl1 u) hP0 hD0 isC isR hC hR hn hdis (by rw [List.append_nil]; exact hk) (by rw [List.append_nil]; exact hF) hP1 (by rw [List.append_nil]; exact hD1)
  exact kk u H1 locs1 hp (fun k q hq => h1 _ q (va_part isF (hF2 u) k q hq)) (h2.part isF hnF (hF2 u)) hS1
end ZMVP
theorem i_X9_roll_9 : ∀ w ∈ u_ws RX9 TX9 8, w ∈ wsX9_roll := fun w h => List.mem_cons_of_mem _ (List.mem_append_left _ (List.mem_append_left _ (List.mem_append_left _ (List.mem_append_left _ (List.mem_append_left _ (List.mem_append_left _ (List.mem_append_right _ h)))))))
theorem q_X9_roll_1 : Cond.fieldLink RX9 21 "LivingNumbers" "text" "LLivingNumbers$RollText;" ∈ wsX9_roll := List.mem_of_getElem? (i := 1) rfl
theorem q_X9_roll_2 : Cond.fieldLink RX9 12 "LivingNumbers" "sheets" "LLivingNumbers$Sheets;" ∈ wsX9_roll := List.mem_of_getElem? (i := 2) rfl
theorem hv_X6_read : yX6_read.cls = RX6 ∧ yX6_read.cls ≠ "java/lang/invoke/MethodHandle" ∧ yX6_read.cls ≠ "java/lang/invoke/VarHandle" ∧ (parseMethodDescriptor yX6_read.desc).map (fun d => d.parameters.length) = some 4 := by decide +kernel
theorem hv_X6_firstFault : yX6_firstFault.cls = RX6 ∧ yX6_firstFault.cls ≠ "java/lang/invoke/MethodHandle" ∧ yX6_firstFault.cls ≠ "java/lang/invoke/VarHandle" ∧ (parseMethodDescriptor yX6_firstFault.desc).map (fun d => d.parameters.length) = some 0 := by decide +kernel
theorem q_X9_roll_3 : Cond.fieldLink RX9 28 "LivingNumbers" "people" "LLivingNumbers$People;" ∈ wsX9_roll := List.mem_of_getElem? (i := 3) rfl
theorem hv_X4_takeFrom : yX4_takeFrom.cls = RX4 ∧ yX4_takeFrom.cls ≠ "java/lang/invoke/MethodHandle" ∧ yX4_takeFrom.cls ≠ "java/lang/invoke/VarHandle" ∧ (parseMethodDescriptor yX4_takeFrom.desc).map (fun d => d.parameters.length) = some 1 := by decide +kernel
set_option maxHeartbeats 1000000 in
set_option maxRecDepth 20000 in
theorem c_X9_roll (l : Launch) (E : zE) (ac : Nat → Nat) (flt : Int) (ce la si : Int → Int) (ln : Int) (co : Int → Int) (n : Int) (on : Nat → Option Nat) (tr : Int) (fw cw ch nm : Int → Int) (k : Int) (lane : Int) (i : Int) (cn : Int) (ss : Int → Int) (sl : Int → Int) (h_k : -2147483648 ≤ k ∧ k ≤ 2147483647) (h_lane : -2147483648 ≤ lane ∧ lane ≤ 2147483647) (h_i : -2147483648 ≤ i ∧ i ≤ 2147483647) (h_cn : -2147483648 ≤ cn ∧ cn ≤ 2147483647) (hrel : zRel la si ss sl) (hce : zRg ce) (hln : 0 ≤ ln ∧ ln ≤ 100) (hco : zRg co) : zMiC l E yX9_roll wsX9_roll (zr 8 10 40) [.ref (ac 0), .int (jI (k)), .int (jI (lane)), .int (jI (i)), .int (jI (cn))] (cW E ac flt ce la si ln co n on tr fw cw ch nm) (fun _ => True) (fun r (u : Int × (Int × ((Int → Int) × (Int × ((Nat → Option Nat) × ((Int → Nat) × va_W)))))) => zRollC ss sl ce k lane i cn r u.1 u.2.1 n on u.2.2.2.1 u.2.2.2.2.1 u.2.2.2.2.2.1 u.2.2.2.2.2.2 ∧ (0 ≤ u.2.1 ∧ u.2.1 ≤ 100) ∧ zRg u.2.2.1) (fun (u : Int × (Int × ((Int → Int) × (Int × ((Nat → Option Nat) × ((Int → Nat) × va_W)))))) => cW E ac u.1 ce la si u.2.1 u.2.2.1 u.2.2.2.1 u.2.2.2.2.1 tr fw cw ch nm ++ u.2.2.2.2.2.2) 10 40 := by
  refine zMiC_of (own := RX9) (cc := cX9_roll) (maxL := 7) (by decide) rfl (Nat.le_of_ble_eq_true rfl) rfl ?_
  intro p e s m args below meth c Q A S hK hCs hA hS hP hD hAe hG hQ ls hl
  have hl : lv_has ls 7 [(0, .ref (ac 0)), (1, .int (jI (k))), (2, .int (jI (lane))), (3, .int (jI (i))), (4, .int (jI (cn)))] := hl
  have hls := zRel_ls hrel
  refine lv_aload_n S.1 S.2.1 dX9_roll_0 rfl (lv_at hl 0 rfl) ?_
  refine z_iconst S dX9_roll_1 ?_
  refine lv_iload_n S.1 S.2.1 dX9_roll_2 rfl (lv_at hl 1 rfl) ?_
  refine z_iconst S dX9_roll_3 ?_
  refine lv_iload_n S.1 S.2.1 dX9_roll_4 rfl (lv_at hl 2 rfl) ?_
  refine lv_iload_n S.1 S.2.1 dX9_roll_5 rfl (lv_at hl 3 rfl) ?_
  refine lv_iload S.1 S.2.1 dX9_roll_6 (lv_at hl 4 rfl) ?_
  refine z_miw (z_mV S hK (c_X9_refusalOfCells l E ac flt ce la si ln co n on tr fw cw ch nm 0 k 0 lane i cn ss sl (by omega) (by omega) (by omega) (by omega) (by omega) (by omega) (hrel) _) gX9_roll_X9_refusalOfCells rfl hv_X9_refusalOfCells ⟨Nat.le_of_ble_eq_true rfl, Nat.le_of_ble_eq_true rfl⟩ (va_recv hK hP (ci := 9) (q0 := 0) rfl rfl) hP hD trivial hl.1 rfl (Nat.le_of_ble_eq_true rfl) ⟨by decide, by decide⟩ rfl dX9_roll_8) hD hS hA (fun r_8 u H locs h_8 hP hD hS => ?_)
  obtain ⟨u8_flt, u8_flt_e⟩ : ∃ z, z = u := ⟨_, rfl⟩
  subst u8_flt_e
  try dsimp only at h_8
  have hP : zP E (cW E ac u8_flt ce la si ln co n on tr fw cw ch nm) H := hP
  have hD : va_D A (cW E ac u8_flt ce la si ln co n on tr fw cw ch nm) := hD
  have h_8b := zRefs_rng h_8
  refine lv_istore (lv' := [(5, .int (jI (r_8))), (0, .ref (ac 0)), (1, .int (jI (k))), (2, .int (jI (lane))), (3, .int (jI (i))), (4, .int (jI (cn)))]) S.1 S.2.1 dX9_roll_11 hl (by decide) rfl (fun ls hl => ?_)
  refine lv_iload S.1 S.2.1 dX9_roll_13 (lv_at hl 0 rfl) ?_
  refine z_if_ge (tgt := 21) S dX9_roll_15 (by decide) (by omega) (fun c_15 => ?_) (fun c_15 => ?_)
  · skip
    obtain ⟨okA, okB, okC, okD, okE⟩ := zRefs_ok h_8 (by omega)
    have hrk := hrel k (by omega) (by omega)
    refine lv_aload_n S.1 S.2.1 dX9_roll_21 rfl (lv_at hl 1 rfl) ?_
    refine z_get S hK hP 0 rfl rfl 1 (by decide) i_X9_roll_9 q_X9_roll_1 rfl dX9_roll_22 ?_
    refine lv_aload_n S.1 S.2.1 dX9_roll_25 rfl (lv_at hl 1 rfl) ?_
    refine z_get S hK hP 0 rfl rfl 0 (by decide) i_X9_roll_9 q_X9_roll_2 rfl dX9_roll_26 ?_
    refine lv_iload_n S.1 S.2.1 dX9_roll_29 rfl (lv_at hl 2 rfl) ?_
    refine lv_iload_n S.1 S.2.1 dX9_roll_30 rfl (lv_at hl 4 rfl) ?_
    refine lv_iload S.1 S.2.1 dX9_roll_31 (lv_at hl 5 rfl) ?_
    refine z_mv (wr := [(ac 0, .inr (9, [.ref (ac 1), .ref (ac 5), .ref (ac 7), .ref (ac 9), .ref (ac 10), .ref (ac 12), .ref (ac 14), .int (jI u8_flt)])), (ac 7, .inr (4, [.ref (ac 8), .int (jI n)])), (ac 8, eN E 10 on), (ac 9, .inr (8, [.int (jI tr)])), (ac 10, .inr (0, [.ref (ac 11)])), (ac 11, eI E 1000 fw), (ac 12, .inr (0, [.ref (ac 13)])), (ac 13, eI E 1000 cw), (ac 14, .inr (5, [.ref (ac 15), .ref (ac 16)])), (ac 15, eI E 3 ch), (ac 16, eI E 3 nm)]) (z_mV S hK (c_X6_read l E (ac 5) (ac 6) (ac 1) (ac 2) (ac 3) (ac 4) ln co ce la si k i cn (by omega) (by omega) (hls) (by omega) (hce) (hco) _) gX9_roll_X6_read rfl hv_X6_read ⟨Nat.le_of_ble_eq_true rfl, Nat.le_of_ble_eq_true rfl⟩ (va_recv hK hP (ci := 6) (q0 := 5) rfl rfl) (hP.sub [5, 6, 1, 2, 3, 4] rfl) (hD.sub [5, 6, 1, 2, 3, 4] (by decide) rfl) trivial hl.1 rfl (Nat.le_of_ble_eq_true rfl) ⟨by decide, by decide⟩ rfl dX9_roll_33) hP hD hS hA [5, 6, 1, 2, 3, 4] [0, 7, 8, 9, 10, 11, 12, 13, 14, 15, 16] [0, 13, 14, 15, 16, 11, 12, 1, 2, 3, 4, 5, 6, 7, 8, 9, 10] rfl rfl (by decide) (by decide) (fun (u : Int → Int) => cW E ac u8_flt ce la si cn u n on tr fw cw ch nm) (by decide) (fun _ => rfl) (fun u H locs h_33 hP hD hS => ?_)
    obtain ⟨u33_co, u33_co_e⟩ : ∃ z, z = u := ⟨_, rfl⟩
    subst u33_co_e
    try dsimp only at h_33
    have hP : zP E (cW E ac u8_flt ce la si cn u33_co n on tr fw cw ch nm) H := hP
    have hD : va_D A (cW E ac u8_flt ce la si cn u33_co n on tr fw cw ch nm) := hD
    have h33 := h_33
    refine lv_aload_n S.1 S.2.1 dX9_roll_36 rfl (lv_at hl 1 rfl) ?_
    refine z_get S hK hP 0 rfl rfl 1 (by decide) i_X9_roll_9 q_X9_roll_1 rfl dX9_roll_37 ?_
    refine z_ri (z_rV S hK (c_X6_firstFault l E (ac 5) (ac 6) cn u33_co (by omega) (h_33.1)) gX9_roll_X6_firstFault rfl hv_X6_firstFault ⟨Nat.le_of_ble_eq_true rfl, Nat.le_of_ble_eq_true rfl⟩ (va_recv hK hP (ci := 6) (q0 := 5) rfl rfl) (hP.sub [5, 6] rfl) hl.1 rfl (Nat.le_of_ble_eq_true rfl) ⟨by decide, by decide⟩ rfl dX9_roll_40) (fun r_40 h_40 => ?_)
    have h40b := zParse_rng h_40 (by omega)
    have hpz : zParse (fun j => ce (100 * k + i + j)) cn r_40 := zParse_cong (fun y q1 q2 => h_33.2 y q1 q2) h_40
    refine lv_istore (lv' := [(6, .int (jI (r_40))), (5, .int (jI (r_8))), (0, .ref (ac 0)), (1, .int (jI (k))), (2, .int (jI (lane))), (3, .int (jI (i))), (4, .int (jI (cn)))]) S.1 S.2.1 dX9_roll_43 hl (by decide) rfl (fun ls hl => ?_)
    refine lv_iload S.1 S.2.1 dX9_roll_45 (lv_at hl 0 rfl) ?_
    refine z_if_lt (tgt := 56) S dX9_roll_47 (by decide) (by omega) (fun c_47 => ?_) (fun c_47 => ?_)
    · skip
      have hNN := zParse_all h_40 (by omega) (by omega)
      refine lv_aload_n S.1 S.2.1 dX9_roll_56 rfl (lv_at hl 2 rfl) ?_
      refine z_get S hK hP 0 rfl rfl 2 (by decide) i_X9_roll_9 q_X9_roll_3 rfl dX9_roll_57 ?_
      refine lv_aload_n S.1 S.2.1 dX9_roll_60 rfl (lv_at hl 2 rfl) ?_
      refine z_get S hK hP 0 rfl rfl 1 (by decide) i_X9_roll_9 q_X9_roll_1 rfl dX9_roll_61 ?_
      obtain ⟨NN, hN1, hN2⟩ := hNN
      refine z_mvP (wr := [(ac 0, .inr (9, [.ref (ac 1), .ref (ac 5), .ref (ac 7), .ref (ac 9), .ref (ac 10), .ref (ac 12), .ref (ac 14), .int (jI u8_flt)])), (ac 1, .inr (7, [.ref (ac 2), .ref (ac 3), .ref (ac 4)])), (ac 2, eI E 400 ce), (ac 3, eI E 4 la), (ac 4, eI E 4 si), (ac 9, .inr (8, [.int (jI tr)])), (ac 10, .inr (0, [.ref (ac 11)])), (ac 11, eI E 1000 fw), (ac 12, .inr (0, [.ref (ac 13)])), (ac 13, eI E 1000 cw), (ac 14, .inr (5, [.ref (ac 15), .ref (ac 16)])), (ac 15, eI E 3 ch), (ac 16, eI E 3 nm)]) (rx := fun (u : (Nat → Option Nat) × ((Int → Nat) × va_W)) => [(ac 7, .inr (4, [.ref (ac 8), .int (jI NN)])), (ac 8, eN E 10 u.1), (ac 5, .inr (6, [.ref (ac 6), .int (jI cn)])), (ac 6, eI E 100 u33_co)]) (pl1 := fun (u : (Nat → Option Nat) × ((Int → Nat) × va_W)) => u.2.2) (z_mVC S hK hCs (c_X4_takeFrom l E (ac 7) (ac 8) (ac 5) (ac 6) n on cn u33_co NN hN1 h_33.1 hN2 _) gX9_roll_X4_takeFrom rfl hv_X4_takeFrom ⟨Nat.le_of_ble_eq_true rfl, Nat.le_of_ble_eq_true rfl⟩ (va_recv hK hP (ci := 4) (q0 := 7) rfl rfl) (hP.sub [7, 8, 5, 6] rfl) (hD.sub [7, 8, 5, 6] (by decide) rfl) trivial hl.1 rfl (Nat.le_of_ble_eq_true rfl) ⟨by decide, by decide⟩ rfl dX9_roll_64) hP hD hS hA [7, 8, 5, 6] [0, 1, 2, 3, 4, 9, 10, 11, 12, 13, 14, 15, 16] [0, 1, 2, 3, 4, 15, 16, 13, 14, 5, 6, 7, 8, 9, 10, 11, 12] rfl rfl (by decide) (by decide) (fun (u : (Nat → Option Nat) × ((Int → Nat) × va_W)) => cW E ac u8_flt ce la si cn u33_co NN u.1 tr fw cw ch nm) (by decide) (fun _ => rfl) (fun u H locs h_64 hP hD hS => ?_)
      obtain ⟨on1, an1, pl⟩ := u
      dsimp only at h_64
      have hP : zP E (cW E ac u8_flt ce la si cn u33_co NN on1 tr fw cw ch nm ++ pl) H := hP
      have hD : va_D A (cW E ac u8_flt ce la si cn u33_co NN on1 tr fw cw ch nm ++ pl) := hD
      refine lv_aload_n S.1 S.2.1 dX9_roll_67 rfl (lv_at hl 2 rfl) ?_
      refine z_get S hK hP 0 rfl rfl 2 (by decide) i_X9_roll_9 q_X9_roll_3 rfl dX9_roll_68 ?_
      refine z_ri (z_rV S hK (c_X4_size l E (ac 7) (ac 8) NN on1) gX9_roll_X4_size rfl hv_X4_size ⟨Nat.le_of_ble_eq_true rfl, Nat.le_of_ble_eq_true rfl⟩ (va_recv hK hP (ci := 4) (q0 := 7) rfl rfl) (hP.sub [7, 8] rfl) hl.1 rfl (Nat.le_of_ble_eq_true rfl) ⟨by decide, by decide⟩ rfl dX9_roll_71) (fun r_71 h_71 => ?_)
      rw [h_71]
      refine W.widen (k := 10) (n := 40) (by omega) (by omega) ?_
      exact hQ (NN) ((u8_flt, (cn, (u33_co, (NN, (on1, (an1, pl))))))) _ _ (⟨⟨0, 0, zBar_cong okB ⟨fun _ => trivial, fun _ => by decide⟩, Or.inr ⟨rfl, okC.1, r_40, hpz, Or.inr ⟨by omega, rfl, hN1.1, hN1.2, h_64.1, zObs_cong h_33.2 hN1.1 h_64.2⟩⟩⟩, (show 0 ≤ cn ∧ cn ≤ 100 by omega), h_33.1⟩) hP hD hS _ _ dX9_roll_74
    · skip
      refine z_bipush S (by decide +kernel) dX9_roll_50 ?_
      refine lv_iload S.1 S.2.1 dX9_roll_52 (lv_at hl 0 rfl) ?_
      refine z_isub S dX9_roll_54 ?_
      have hP : zP E (cW E ac u8_flt ce la si cn u33_co n on tr fw cw ch nm ++ []) H := by rw [List.append_nil]; exact hP
      have hD : va_D A (cW E ac u8_flt ce la si cn u33_co n on tr fw cw ch nm ++ []) := by rw [List.append_nil]; exact hD
      refine W.widen (k := 10) (n := 40) (by omega) (by omega) ?_
      exact hQ ((-100) - r_40) ((u8_flt, (cn, (u33_co, (n, (on, ((fun _ => 0), []))))))) _ _ (⟨⟨0, 0, zBar_cong okB ⟨fun _ => trivial, fun _ => by decide⟩, Or.inr ⟨rfl, okC.1, r_40, hpz, Or.inl ⟨by omega, rfl, rfl, rfl, rfl⟩⟩⟩, (show 0 ≤ cn ∧ cn ≤ 100 by omega), h_33.1⟩) hP hD hS _ _ dX9_roll_55
  · skip
    refine lv_iload S.1 S.2.1 dX9_roll_18 (lv_at hl 0 rfl) ?_
    have hP : zP E (cW E ac u8_flt ce la si ln co n on tr fw cw ch nm ++ []) H := by rw [List.append_nil]; exact hP
    have hD : va_D A (cW E ac u8_flt ce la si ln co n on tr fw cw ch nm ++ []) := by rw [List.append_nil]; exact hD
    refine W.widen (k := 10) (n := 40) (by omega) (by omega) ?_
    exact hQ (r_8) ((u8_flt, (ln, (co, (n, (on, ((fun _ => 0), []))))))) _ _ (⟨⟨_, _, zBar_cong (h_8.elim (fun q => absurd q.1 (by omega)) (fun q => q.2)) ⟨fun _ => trivial, fun _ => by decide⟩, Or.inl ⟨by omega, rfl, rfl, rfl, rfl, rfl⟩⟩, hln, hco⟩) hP hD hS _ _ dX9_roll_20
