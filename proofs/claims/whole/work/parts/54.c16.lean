/-- the people that were made, at their cells -/
def zObs (N : Int) (an : Int → Nat) (t : Int → Int) (pl : va_W) : Prop := ∀ x, 0 ≤ x → x < N → ∃ k : Nat, pl[k]? = some (an x, .inr (zkc (zKd t x), [.int (jI (zVl t x)), .int (jI (zNb t x)), .int (jI (zFr t x)), .int (jI (zTl t x))]))
theorem zkc_one {t : Int → Int} {x vl nb fr tl : Int} {ci : Nat} (h : zOneR t x ci vl nb fr tl) : ci = zkc (zKd t x) := by
  rcases h.1 with ⟨h1, h2⟩ | ⟨h1, h2⟩ | ⟨h1, h2⟩ <;> rw [h1, h2] <;> rfl
theorem zObs_next {N x : Int} {an : Int → Nat} {t : Int → Int} {pl : va_W} {ad ci : Nat} {vl nb fr tl : Int} (h : zObs x an t pl) (h1 : zOneR t x ci vl nb fr tl) (hN : N = x + 1) : zObs N (fun y => if y = x then ad else an y) t ((ad, .inr (ci, [.int (jI vl), .int (jI nb), .int (jI fr), .int (jI tl)])) :: pl) := by
  intro y y1 y2
  by_cases e : y = x
  · refine ⟨0, ?_⟩
    subst e
    rw [zkc_one h1, h1.2.1, h1.2.2.1, h1.2.2.2.1, h1.2.2.2.2]
    show _ = some ((if y = y then ad else an y), _)
    rw [if_pos rfl]
    rfl
  · obtain ⟨k, hk⟩ := h y y1 (by omega)
    refine ⟨k + 1, ?_⟩
    show _ = some ((if y = x then ad else an y), _)
    rw [if_neg e]
    exact hk
theorem zOns_next {N x : Int} {on : Nat → Option Nat} {an : Int → Nat} {ad : Nat} (h : zOns x on an) (hx : 0 ≤ x ∧ x ≤ 2147483647) (hN : N = x + 1) : zOns N (va_up on (jI x).toNatClampNeg (some ad)) (fun y => if y = x then ad else an y) := by
  intro y y1 y2
  have e := jI_clamp hx
  by_cases e2 : y = x
  · subst e2
    have e3 : y.toNat = (jI y).toNatClampNeg := by omega
    simp only [va_up, e3, if_pos]
  · have e3 : y.toNat ≠ (jI x).toNatClampNeg := by omega
    simp only [va_up, if_neg e3, if_neg e2]
    exact h y y1 (by omega)
theorem zOns_none {N x : Int} {on : Nat → Option Nat} {an : Int → Nat} (h : zOns N on an) (hx : 0 ≤ x ∧ x ≤ 2147483647) (hN : N ≤ x) : zOns N (va_up on (jI x).toNatClampNeg none) an := by
  intro y y1 y2
  have e := jI_clamp hx
  have e3 : y.toNat ≠ (jI x).toNatClampNeg := by omega
  simp only [va_up, if_neg e3]
  exact h y y1 y2
theorem q_X4_takeFrom_1 : Cond.fieldLink RX4 11 "LivingNumbers$People" "ones" "[LLivingNumbers$Named;" ∈ wsX4_takeFrom := List.mem_of_getElem? (i := 1) rfl
theorem q_X4_takeFrom_6 : Cond.fieldLink RX4 17 "LivingNumbers$People" "size" "I" ∈ wsX4_takeFrom := List.mem_of_getElem? (i := 6) rfl
theorem i_X4_takeFrom_4 : ∀ w ∈ u_ws RX4 TX4 2, w ∈ wsX4_takeFrom := fun w h => List.mem_cons_of_mem _ (List.mem_append_left _ (List.mem_append_left _ (List.mem_append_left _ (List.mem_append_left _ (List.mem_append_right _ h)))))
theorem hv_X6_people : yX6_people.cls = RX6 ∧ yX6_people.cls ≠ "java/lang/invoke/MethodHandle" ∧ yX6_people.cls ≠ "java/lang/invoke/VarHandle" ∧ (parseMethodDescriptor yX6_people.desc).map (fun d => d.parameters.length) = some 0 := by decide +kernel
theorem hv_X6_one : yX6_one.cls = RX6 ∧ yX6_one.cls ≠ "java/lang/invoke/MethodHandle" ∧ yX6_one.cls ≠ "java/lang/invoke/VarHandle" ∧ (parseMethodDescriptor yX6_one.desc).map (fun d => d.parameters.length) = some 1 := by decide +kernel
theorem q_X4_takeFrom_2 : Cond.methodLink RX4 27 Lib.Math.min.name ∈ wsX4_takeFrom := List.mem_of_getElem? (i := 2) rfl
theorem q_X4_takeFrom_3 : Cond.static Lib.Math.min.name ∈ wsX4_takeFrom := List.mem_of_getElem? (i := 3) rfl
theorem q_X4_takeFrom_4 : Cond.initialized "java/lang/Math" ∈ wsX4_takeFrom := List.mem_of_getElem? (i := 4) rfl
theorem q_X4_takeFrom_5 : Cond.code Lib.Math.min.name Lib.Math.min.code 2 (some .int) ∈ wsX4_takeFrom := List.mem_of_getElem? (i := 5) rfl
set_option maxHeartbeats 1000000 in
set_option maxRecDepth 20000 in
theorem c_X4_takeFrom (l : Launch) (E : zE) (h a0 t ta : Nat) (n : Int) (on : Nat → Option Nat) (ln : Int) (co : Int → Int) (N : Int) (hN : ln = 9 * N - 1 ∧ 1 ≤ N ∧ N ≤ 10) (hco : zRg co) (hgo : zAllGo co ln) : zMvC l E yX4_takeFrom wsX4_takeFrom (zr 5 10 40) [.ref h, .ref t] [(h, .inr (4, [.ref a0, .int (jI n)])), (a0, eN E 10 on), (t, .inr (6, [.ref ta, .int (jI ln)])), (ta, eI E 100 co)] (fun _ => True) (fun (u : (Nat → Option Nat) × ((Int → Nat) × va_W)) => zOns N u.1 u.2.1 ∧ zObs N u.2.1 co u.2.2) (fun u => [(h, .inr (4, [.ref a0, .int (jI N)])), (a0, eN E 10 u.1), (t, .inr (6, [.ref ta, .int (jI ln)])), (ta, eI E 100 co)] ++ u.2.2) 10 40 := by
  refine zMvC_of (own := RX4) (cc := cX4_takeFrom) (maxL := 3) (by decide) rfl (Nat.le_of_ble_eq_true rfl) rfl ?_
  intro p e s m args below meth c Q A S hK hCs hA hS hP hD hAe hG hQ ls hl
  have hl : lv_has ls 3 [(0, .ref h), (1, .ref t)] := hl
  have HL : ∀ (g k : Nat) (x : Int) (on : Nat → Option Nat) (an : Int → Nat) (pl : va_W), 10 - k < g → (k : Int) = x → x ≤ 10 → zOns (zmin x N) on an → zObs (zmin x N) an co pl → ∀ (H : Heap) (locs : List Loc), zP E ([(h, .inr (4, [.ref a0, .int (jI N)])), (a0, eN E 10 on), (t, .inr (6, [.ref ta, .int (jI ln)])), (ta, eI E 100 co)] ++ pl) H → va_D A ([(h, .inr (4, [.ref a0, .int (jI N)])), (a0, eN E 10 on), (t, .inr (6, [.ref ta, .int (jI ln)])), (ta, eI E 100 co)] ++ pl) → va_S A s.heap H locs → ∀ (ls : Array Slot), lv_has ls 3 [(2, .int (jI x)), (0, .ref h), (1, .ref t)] → W p l e (zr 5 10 40) s m args below meth c H locs k (4 * k) Q (F0 m 18 ls []) := by
    intro g
    induction g with
    | zero => intro k x on an pl hg; exact absurd hg (Nat.not_lt_zero _)
    | succ g ih =>
      intro k x on an pl hg hk hx ho hb H locs hP hD hS ls hl
      refine lv_iload_n S.1 S.2.1 dX4_takeFrom_18 rfl (lv_at hl 0 rfl) ?_
      refine lv_aload_n S.1 S.2.1 dX4_takeFrom_19 rfl (lv_at hl 1 rfl) ?_
      refine z_get S hK hP 0 rfl rfl 0 (by decide) i_X4_takeFrom_4 q_X4_takeFrom_1 rfl dX4_takeFrom_20 ?_
      refine z_qlen S hK hP 1 rfl dX4_takeFrom_23 ?_
      refine z_icmp_ge (tgt := 56) S dX4_takeFrom_24 (by decide) (by omega) (fun c_24 => ?_) (fun c_24 => ?_)
      · have hx10 : x = 10 := by omega
        have hk10 : k = 10 := by omega
        subst hk10
        have hz : zmin x N = N := by have := zmin_is x N; omega
        rw [hz] at ho hb
        exact hQ (on, (an, pl)) _ _ ⟨ho, hb⟩ hP hD hS _ _ dX4_takeFrom_56
      · have c24 : x < 10 := c_24
        have hzx := zmin_is x N
        have hzy := zmin_is (x + 1) N
        refine lv_aload_n S.1 S.2.1 dX4_takeFrom_27 rfl (lv_at hl 1 rfl) ?_
        refine z_get S hK hP 0 rfl rfl 0 (by decide) i_X4_takeFrom_4 q_X4_takeFrom_1 rfl dX4_takeFrom_28 ?_
        refine lv_iload_n S.1 S.2.1 dX4_takeFrom_31 rfl (lv_at hl 0 rfl) ?_
        refine lv_iload_n S.1 S.2.1 dX4_takeFrom_32 rfl (lv_at hl 0 rfl) ?_
        refine lv_aload_n S.1 S.2.1 dX4_takeFrom_33 rfl (lv_at hl 1 rfl) ?_
        refine z_get S hK hP 0 rfl rfl 1 (by decide) i_X4_takeFrom_4 q_X4_takeFrom_6 rfl dX4_takeFrom_34 ?_
        refine z_icmp_ge (tgt := 48) S dX4_takeFrom_37 (by decide) (by omega) (fun c_37 => ?_) (fun c_37 => ?_)
        · refine lv_null S.1 S.2.1 dX4_takeFrom_48 ?_
          refine va_astqN (D := E.1) (C := "LivingNumbers$Named") S.1 S.2.1 hK hP hD hS 1 2 rfl rfl (jI_inRow ⟨by omega, c_24, by decide⟩) dX4_takeFrom_49 (fun H locs hP hD hS => ?_)
          refine z_iinc (lv' := [(2, .int (jI (x + 1))), (0, .ref h), (1, .ref t)]) S hl (k := 0) rfl (by decide) rfl dX4_takeFrom_50 (fun ls hl => ?_)
          refine z_goto (tgt := 18) S dX4_takeFrom_53 (by decide) ?_
          refine W.widen (k := k + 1) (n := 4 * (k + 1)) (by omega) (by omega) ?_
          have e1 : zmin x N = N := by omega
          have e2 : zmin (x + 1) N = N := by omega
          rw [e1] at ho hb
          exact ih (k + 1) (x + 1) _ an pl (by omega) (by omega) (by omega) (by rw [e2]; exact zOns_none ho (by omega) (by omega)) (by rw [e2]; exact hb) H locs hP hD hS ls hl
        · refine lv_aload_n S.1 S.2.1 dX4_takeFrom_40 rfl (lv_at hl 2 rfl) ?_
          refine lv_iload_n S.1 S.2.1 dX4_takeFrom_41 rfl (lv_at hl 0 rfl) ?_
          have hPc : zP E [(t, .inr (6, [.ref ta, .int (jI ln)])), (ta, eI E 100 co)] H := hP.sub [2, 3] rfl
          have hDc : va_D A [(t, .inr (6, [.ref ta, .int (jI ln)])), (ta, eI E 100 co)] := hD.sub [2, 3] (by decide) rfl
          have hP : zP E ([(h, .inr (4, [.ref a0, .int (jI N)])), (a0, eN E 10 on)] ++ ([(t, .inr (6, [.ref ta, .int (jI ln)])), (ta, eI E 100 co)] ++ pl)) H := hP
          have hD : va_D A ([(h, .inr (4, [.ref a0, .int (jI N)])), (a0, eN E 10 on)] ++ ([(t, .inr (6, [.ref ta, .int (jI ln)])), (ta, eI E 100 co)] ++ pl)) := hD
          refine z_sa (z_mV S hK (c_X6_one l E t ta ln co x (by omega) hco (by omega) hgo _) gX4_takeFrom_X6_one rfl hv_X6_one ⟨Nat.le_of_ble_eq_true rfl, Nat.le_of_ble_eq_true rfl⟩ (va_recv hK hPc (ci := 6) (q0 := 0) rfl rfl) hPc hDc trivial hl.1 rfl (Nat.le_of_ble_eq_true rfl) ⟨(show k + 1 ≤ 10 by omega), (show 4 * k + 4 ≤ 40 by omega)⟩ rfl dX4_takeFrom_42) hP hD hS hA (fun r u H locs h_42 hP hD hS => ?_)
          obtain ⟨ad, ci, uv, un, uf, ut⟩ := u
          obtain ⟨hr, hone⟩ := h_42
          have hr : r = ad := hr
          subst hr
          have hone : zOneR co x ci uv un uf ut := hone
          have hci : ci = 3 ∨ ci = 2 ∨ ci = 1 := hone.1.elim (fun q => Or.inl q.1) (fun q => q.elim (fun q => Or.inr (Or.inl q.1)) (fun q => Or.inr (Or.inr q.1)))
          have hP : zP E ([(h, .inr (4, [.ref a0, .int (jI N)])), (a0, eN E 10 on), (t, .inr (6, [.ref ta, .int (jI ln)])), (ta, eI E 100 co)] ++ ((r, .inr (ci, [.int (jI uv), .int (jI un), .int (jI uf), .int (jI ut)])) :: pl)) H := hP
          have hD : va_D A ([(h, .inr (4, [.ref a0, .int (jI N)])), (a0, eN E 10 on), (t, .inr (6, [.ref ta, .int (jI ln)])), (ta, eI E 100 co)] ++ ((r, .inr (ci, [.int (jI uv), .int (jI un), .int (jI uf), .int (jI ut)])) :: pl)) := hD
          refine z_goto (tgt := 49) S dX4_takeFrom_45 (by decide) ?_
          refine va_astqM (D := E.1) (E := "LivingNumbers$Named") S.1 S.2.1 hK hP hD hS 1 2 rfl rfl (hCs.any hK hP (q0 := 4) rfl hci) (jI_inRow ⟨by omega, c_24, by decide⟩) dX4_takeFrom_49 (fun H locs hP hD hS => ?_)
          refine z_iinc (lv' := [(2, .int (jI (x + 1))), (0, .ref h), (1, .ref t)]) S hl (k := 0) rfl (by decide) rfl dX4_takeFrom_50 (fun ls hl => ?_)
          refine z_goto (tgt := 18) S dX4_takeFrom_53 (by decide) ?_
          refine W.widen (k := k + 1) (n := 4 * (k + 1)) (by omega) (by omega) ?_
          have e1 : zmin x N = x := by omega
          have e2 : zmin (x + 1) N = x + 1 := by omega
          rw [e1] at ho hb
          exact ih (k + 1) (x + 1) _ _ _ (by omega) (by omega) (by omega) (by rw [e2]; exact zOns_next (ad := r) ho (by omega) rfl) (by rw [e2]; exact zObs_next hb hone rfl) H locs hP hD hS ls hl
  refine lv_aload_n S.1 S.2.1 dX4_takeFrom_0 rfl (lv_at hl 0 rfl) ?_
  refine lv_aload_n S.1 S.2.1 dX4_takeFrom_1 rfl (lv_at hl 1 rfl) ?_
  have hPc : zP E [(t, .inr (6, [.ref ta, .int (jI ln)])), (ta, eI E 100 co)] s.heap := hP.sub [2, 3] rfl
  refine z_ri (z_rV S hK (c_X6_people l E t ta ln co (by omega)) gX4_takeFrom_X6_people rfl hv_X6_people ⟨Nat.le_of_ble_eq_true rfl, Nat.le_of_ble_eq_true rfl⟩ (va_recv hK hPc (ci := 6) (q0 := 0) rfl rfl) hPc hl.1 rfl (Nat.le_of_ble_eq_true rfl) ⟨by decide, by decide⟩ rfl dX4_takeFrom_2) (fun r_2 h_2 => ?_)
  have hr2 : r_2 = N := by omega
  rw [hr2]
  refine lv_aload_n S.1 S.2.1 dX4_takeFrom_5 rfl (lv_at hl 0 rfl) ?_
  refine z_get S hK hP 0 rfl rfl 0 (by decide) i_X4_takeFrom_4 q_X4_takeFrom_1 rfl dX4_takeFrom_6 ?_
  refine z_qlen S hK hP 1 rfl dX4_takeFrom_9 ?_
  refine z_min S (by omega) q_X4_takeFrom_2 q_X4_takeFrom_3 q_X4_takeFrom_4 q_X4_takeFrom_5 hl.1 (by decide) (Nat.le_of_ble_eq_true rfl) (by decide) dX4_takeFrom_10 ?_
  have hm : zmin N ((10 : Nat) : Int) = N := by have := zmin_is N ((10 : Nat) : Int); omega
  rw [hm]
  refine z_puti S hK hP hD hS 0 rfl rfl 1 (by decide) i_X4_takeFrom_4 q_X4_takeFrom_6 tyX4 tyX4_ok nmX4 rfl (by decide +kernel) (Nat.le_of_ble_eq_true rfl) dX4_takeFrom_13 (fun H locs hP hD hS => ?_)
  have hP : zP E ([(h, .inr (4, [.ref a0, .int (jI N)])), (a0, eN E 10 on), (t, .inr (6, [.ref ta, .int (jI ln)])), (ta, eI E 100 co)] ++ []) H := hP
  have hD : va_D A ([(h, .inr (4, [.ref a0, .int (jI N)])), (a0, eN E 10 on), (t, .inr (6, [.ref ta, .int (jI ln)])), (ta, eI E 100 co)] ++ []) := hD
  refine z_iconst S dX4_takeFrom_16 ?_
  refine lv_istore_n (lv' := [(2, .int (jI 0)), (0, .ref h), (1, .ref t)]) S.1 S.2.1 dX4_takeFrom_17 rfl hl (by decide) rfl (fun ls hl => ?_)
  have e0 : zmin 0 N = 0 := by have := zmin_is 0 N; omega
  exact HL 11 0 0 on (fun _ => 0) [] (by omega) rfl (by omega) (by rw [e0]; intro y y1 y2; omega) (by rw [e0]; intro y y1 y2; omega) H locs hP hD hS ls hl
