section ZST
variable {p : Program} {l : Launch} {e : Env} {R : Room} {s : State} {m : MethodId} {args : Array Value} {below : List Frame} {meth : Method} {c : Code} {H : Heap} {locs : List Loc} {cells slots : Nat} {Q : State → Prop}
variable {cc : ByteArray} {pc nL : Nat} {ls : Array Slot} {st rest : List Value} {Ts : List Cond} {own : String} {E : zE} {A : Nat → Prop} {av : Array Value} {mc ms : Nat}
theorem z_mI9 (S : CallFix p m c cc nL s args Ts own) (hK : zK E s) (hN9 : zN9 s) {y : MethodName} {wsy ws' : List Cond} {k : Nat} {As : List Value} {G : Heap → Prop} {Qc : Array Value → State → Outcome → State → Prop} {free : Addr → Prop} {bytes : ByteArray} {maxL n index : Nat} {b : Nat} {wc : va_W} (hM : Met l y wsy (zr k mc ms) (zPm9 E (.ref b :: As) wc H.size G) Qc mc ms free) (hT : GoodIn Ts wsy) (hini : Cond.initialized y.cls ∈ Ts) (hlk : Cond.methodLink own index y ∈ Ts) (hinm : Cond.instanceMethod y ∈ Ts) (hy1 : y.name = "<init>") (hw : wsy = Cond.code y bytes maxL none :: ws') (hd : y.cls ≠ "java/lang/invoke/MethodHandle" ∧ y.cls ≠ "java/lang/invoke/VarHandle" ∧ (parseMethodDescriptor y.desc).map (fun d => d.parameters.length) = some n) (hR : k + 1 ≤ R.frames ∧ 8 + (maxL + 11) + 64 * k ≤ R.locals)  (hP : zP E wc H) (hD : va_D A wc) (hG : G H) (hl : ls.size = nL) (hn : As.length = n) (hroom : (rest.map fun v => v.category).sum ≤ 8) (hf : cells + mc ≤ R.cells ∧ slots + ms ≤ R.slots) (hst : st = As.reverse ++ .ref b :: rest) (hdg : decode cc pc = .ok (.invokespecial index, 3)) : va_Run p l e R s m args below meth c H locs cells slots mc ms (F0 m pc ls st) rest (Qc (Value.ref b :: As).toArray) free := va_runI S hM (cwI n S.2.2.2.2 hT hw rfl rfl (S.2.2.2.2 _ hini) (S.2.2.2.2 _ hlk) (S.2.2.2.2 _ hinm) hy1 hd ⟨hR.1, hR.2⟩) ⟨zPm9_blind, fun U hU hW => ⟨rfl, ⟨by rw [hU], by rw [hU]; exact hP, va_K.moved hW.alike hK, hD.weaken (fun _ _ _ _ => trivial), by rw [hU]; exact hG⟩, hN9.warm hW⟩⟩ rfl hn hl hst (lv_room hroom) hdg hf
theorem zSwap {a b : va_W} (hP : zP E (a ++ (b ++ [])) H) (hD : va_D A (a ++ (b ++ []))) : zP E (b ++ (a ++ [])) H ∧ va_D A (b ++ (a ++ [])) := by
  rw [List.append_nil] at hP hD ⊢
  exact ⟨va_P.app (zPr hP) (zPl hP), va_D.app (zDr hD) (zDl hD) (fun i j x y hx hy hxy => zDx hD hy hx hxy.symm)⟩
end ZST
theorem z_arrK {s : State} {A : Array Value} {ty : FieldType} (h : (Cond.arrayClass ty).before A s = true) : ∃ cA : ClassId, ArrOfT s cA ty ∧ s.vm.findClass ("[" ++ ty.toString) = some cA := by
  obtain ⟨cA, kA, comp, hf, hk, hkind⟩ := Cond.arrayClass_spec h
  exact ⟨cA, fun n z => ⟨fun k h => (by cases h), kA, hk, comp, hkind⟩, hf⟩
theorem z_arrN {s : State} {A : Array Value} {C : String} (h : (Cond.arrayOver (.object C)).before A s = true) : ∃ cA : ClassId, ArrOfT s cA (.object C) ∧ va_RA s cA (.object C) := by
  obtain ⟨comp, cA, kA, h1, h2, h3, h4, h5⟩ := Cond.arrayOver_spec h
  exact ⟨cA, fun n z => ⟨fun k h => (by cases h), kA, h3, comp, h4⟩, kA, comp, h3, h4, h1, h5⟩
set_option maxHeartbeats 4000000 in
set_option maxRecDepth 100000 in
theorem zK_ex {s : State} {A : Array Value} (hts : ∀ w ∈ wsL_law, w.before A s = true) (T : ∀ w ∈ tables_1, w.before A s = true) : ∃ E : zE, zK E s := by
  obtain ⟨c0, i0, k0⟩ := u_known (C := RX0) (T := TX0) (N := 1) (n := 1) hts inlX0 (T _ (List.mem_of_getElem? (i := 78) (by decide +kernel)))
  obtain ⟨c1, i1, k1⟩ := u_known (C := RX1) (T := TX1) (N := 4) (n := 4) hts inlX1 (T _ (List.mem_of_getElem? (i := 224) (by decide +kernel)))
  obtain ⟨c2, i2, k2⟩ := u_known (C := RX2) (T := TX2) (N := 4) (n := 4) hts inlX2 (T _ (List.mem_of_getElem? (i := 249) (by decide +kernel)))
  obtain ⟨c3, i3, k3⟩ := u_known (C := RX3) (T := TX3) (N := 4) (n := 4) hts inlX3 (T _ (List.mem_of_getElem? (i := 257) (by decide +kernel)))
  obtain ⟨c4, i4, k4⟩ := u_known (C := RX4) (T := TX4) (N := 2) (n := 2) hts inlX4 (T _ (List.mem_of_getElem? (i := 53) (by decide +kernel)))
  obtain ⟨c5, i5, k5⟩ := u_known (C := RX5) (T := TX5) (N := 2) (n := 2) hts inlX5 (T _ (List.mem_of_getElem? (i := 88) (by decide +kernel)))
  obtain ⟨c6, i6, k6⟩ := u_known (C := RX6) (T := TX6) (N := 2) (n := 2) hts inlX6 (T _ (List.mem_of_getElem? (i := 40) (by decide +kernel)))
  obtain ⟨c7, i7, k7⟩ := u_known (C := RX7) (T := TX7) (N := 3) (n := 3) hts inlX7 (T _ (List.mem_of_getElem? (i := 23) (by decide +kernel)))
  obtain ⟨c8, i8, k8⟩ := u_known (C := RX8) (T := TX8) (N := 1) (n := 1) hts inlX8 (T _ (List.mem_of_getElem? (i := 68) (by decide +kernel)))
  obtain ⟨c9, i9, k9⟩ := u_known (C := RX9) (T := TX9) (N := 8) (n := 8) hts inlX9 (T _ (List.mem_of_getElem? (i := 15) (by decide +kernel)))
  obtain ⟨c10, i10, k10⟩ := u_known (C := RX10) (T := TX10) (N := 22) (n := 22) hts inlX10 (T _ (List.mem_of_getElem? (i := 601) (by decide +kernel)))
  obtain ⟨cI, a1, a2⟩ := z_arrK (ty := .int) (T _ (List.mem_of_getElem? (i := 38) (by decide +kernel)))
  obtain ⟨cZ, b1, b2⟩ := z_arrK (ty := .boolean) (T _ (List.mem_of_getElem? (i := 673) (by decide +kernel)))
  obtain ⟨cN, d1, d2⟩ := z_arrN (C := "LivingNumbers$Named") (T _ (List.mem_of_getElem? (i := 59) (by decide +kernel)))
  refine ⟨((fun k => match k with | 0 => c0 | 1 => c1 | 2 => c2 | 3 => c3 | 4 => c4 | 5 => c5 | 6 => c6 | 7 => c7 | 8 => c8 | 9 => c9 | _ => c10, fun k => match k with | 0 => i0 | 1 => i1 | 2 => i2 | 3 => i3 | 4 => i4 | 5 => i5 | 6 => i6 | 7 => i7 | 8 => i8 | 9 => i9 | _ => i10), (cI, (cZ, cN))), fun k q hq => ?_, fun k q hq => ?_⟩
  · match k, hq with
    | 0, hq => cases hq; exact k0
    | 1, hq => cases hq; exact k1
    | 2, hq => cases hq; exact k2
    | 3, hq => cases hq; exact k3
    | 4, hq => cases hq; exact k4
    | 5, hq => cases hq; exact k5
    | 6, hq => cases hq; exact k6
    | 7, hq => cases hq; exact k7
    | 8, hq => cases hq; exact k8
    | 9, hq => cases hq; exact k9
    | 10, hq => cases hq; exact k10
    | k + 11, hq => exact absurd (List.getElem?_eq_some_iff.mp hq).1 (by show ¬ (k + 11 < 11); omega)
  · match k, hq with
    | 0, hq => cases hq; exact ⟨a1, a2⟩
    | 1, hq => cases hq; exact ⟨b1, b2⟩
    | 2, hq => cases hq; exact ⟨d1, d2⟩
    | k + 3, hq => exact absurd (List.getElem?_eq_some_iff.mp hq).1 (by show ¬ (k + 3 < 3); omega)
set_option maxRecDepth 20000 in
theorem zN9_ex {s : State} {A : Array Value} (T : ∀ w ∈ tables_1, w.before A s = true) : zN9 s := ⟨va_AO.of (T _ (List.mem_of_getElem? (i := 59) (by decide +kernel))), va_Nw.of rfl (T _ (List.mem_of_getElem? (i := 41) (by decide +kernel))), va_Nw.of rfl (T _ (List.mem_of_getElem? (i := 54) (by decide +kernel))), va_Nw.of rfl (T _ (List.mem_of_getElem? (i := 69) (by decide +kernel))), va_Nw.of rfl (T _ (List.mem_of_getElem? (i := 79) (by decide +kernel))), va_Nw.of rfl (T _ (List.mem_of_getElem? (i := 89) (by decide +kernel)))⟩
set_option maxRecDepth 20000 in
theorem zCs_ex {s : State} {A : Array Value} (T : ∀ w ∈ tables_1, w.before A s = true) : zCs s := ⟨va_Nw.of rfl (T _ (List.mem_of_getElem? (i := 906) (by decide +kernel))), va_Nw.of rfl (T _ (List.mem_of_getElem? (i := 907) (by decide +kernel)))⟩
theorem hz_X9_init : yX9_init.cls ≠ "java/lang/invoke/MethodHandle" ∧ yX9_init.cls ≠ "java/lang/invoke/VarHandle" ∧ (parseMethodDescriptor yX9_init.desc).map (fun d => d.parameters.length) = some 0 := by decide +kernel
theorem hz_X10_init : yX10_init.cls ≠ "java/lang/invoke/MethodHandle" ∧ yX10_init.cls ≠ "java/lang/invoke/VarHandle" ∧ (parseMethodDescriptor yX10_init.desc).map (fun d => d.parameters.length) = some 0 := by decide +kernel
set_option maxHeartbeats 4000000 in
set_option maxRecDepth 100000 in
theorem whole_start {p : Program} {e : Env} {s : State} {m : MethodId} {below : List Frame} {meth : Method} {c : Code} (l : Launch) (hflags : l.flags = flags0) {b L : Nat} {xs : Nat → Int32} (hL : L ≤ 4608) (C0 : lw_At p s m meth c b L xs) : W p l e room_1 s m #[Value.ref b] below meth c s.heap [] 0 0 (lw_Z below #[Value.ref b] s) (entryFrame m ([Value.ref b] : List Value).toArray 4) := by
  obtain ⟨hx, hb, hr, hml, hown, hts, hX, hbl, hlocks, hgv⟩ := id C0
  have T : ∀ w ∈ tables_1, w.before #[Value.ref b] s = true := fun w h => hts w (List.mem_append_right _ h)
  have S : CallFix p m c code 4 s #[.ref b] wsL_law RL := ⟨hx, hb, hml, hown, fun w h => hts w (wsL_law_in w h)⟩
  obtain ⟨E, hK⟩ := zK_ex S.2.2.2.2 T
  have hN9 := zN9_ex T
  have hCs := zCs_ex T
  have hA : ∀ q : Nat, s.heap.size ≤ q → (fun q : Nat => s.heap.size ≤ q) q := fun _ h => h
  have hS : va_S (fun q : Nat => s.heap.size ≤ q) s.heap s.heap [] := va_S.rf
  have hP : zP E [] s.heap := fun k q h => by simp at h
  have hD : va_D (fun q : Nat => s.heap.size ≤ q) [] := ⟨fun i j p q h => by simp at h, fun k q h => by simp at h⟩
  have hl := lv_entry ([.ref b]) (n := 4) (Nat.le_of_ble_eq_true rfl)
  rw [lg_entry_eq]
  generalize (lg_sl ([.ref b]) ++ List.replicate (4 - (lg_sl ([.ref b])).length) Slot.unset).toArray = ls at hl ⊢
  have hl : lv_has ls 4 [(0, .ref b)] := hl
  refine z_new (R := room_1) (ws := []) S hK hP hD hS hA (ci := 9) (fs := [.null, .null, .null, .null, .null, .null, .null, .int (jI 0)]) inlX9 tyX9 tyX9_ok (List.mem_of_getElem? (i := 0) rfl) (List.mem_of_getElem? (i := 1) rfl) (List.mem_of_getElem? (i := 2) rfl) rfl (by intro j hj; have hj2 : j = 0 ∨ j = 1 ∨ j = 2 ∨ j = 3 ∨ j = 4 ∨ j = 5 ∨ j = 6 ∨ j = 7 := (by omega); rcases hj2 with rfl | rfl | rfl | rfl | rfl | rfl | rfl | rfl <;> rfl) (Nat.le_of_ble_eq_true rfl) (Nat.le_of_ble_eq_true rfl) dL_law_0 (fun q9 H hP hD hS => ?_)
  have hP : zP E [(q9, .inr (9, [.null, .null, .null, .null, .null, .null, .null, .int (jI 0)]))] H := hP
  have hD : va_D (fun q : Nat => s.heap.size ≤ q) [(q9, .inr (9, [.null, .null, .null, .null, .null, .null, .null, .int (jI 0)]))] := hD
  refine lv_dup S.1 S.2.1 dL_law_3 rfl ?_
  refine z_sv (L := []) (wc := [(q9, .inr (9, [.null, .null, .null, .null, .null, .null, .null, .int (jI 0)]))]) (Rr := []) (z_mI9 S hK hN9 (c_X9_init l E q9 _) gL_law_X9_init (List.mem_of_getElem? (i := 2) rfl) (List.mem_of_getElem? (i := 6) rfl) (List.mem_of_getElem? (i := 7) rfl) rfl rfl hz_X9_init ⟨Nat.le_of_ble_eq_true rfl, Nat.le_of_ble_eq_true rfl⟩ hP hD trivial hl.1 rfl (Nat.le_of_ble_eq_true rfl) ⟨Nat.le_of_ble_eq_true rfl, Nat.le_of_ble_eq_true rfl⟩ rfl dL_law_4) hP hD hS hA (fun ac H locs h4 hP hD hS => ?_)
  have h4 : ac 0 = q9 := h4
  rw [← h4]
  have hP : zP E (cW E ac 0 (fun _ => 0) (zlan 4) (fun _ => 0) 0 (fun _ => 0) 0 (fun _ => none) 0 (fun _ => 0) (fun _ => 0) (fun _ => 0) (fun _ => 0)) H := zPl hP
  have hD : va_D (fun q : Nat => s.heap.size ≤ q) (cW E ac 0 (fun _ => 0) (zlan 4) (fun _ => 0) 0 (fun _ => 0) 0 (fun _ => none) 0 (fun _ => 0) (fun _ => 0) (fun _ => 0) (fun _ => 0)) := zDl hD
  refine lv_astore_n (lv' := [(1, .ref (ac 0)), (0, .ref b)]) S.1 S.2.1 dL_law_7 rfl hl (by decide) rfl (fun ls hl => ?_)
  refine z_new (R := room_1) (ws := cW E ac 0 (fun _ => 0) (zlan 4) (fun _ => 0) 0 (fun _ => 0) 0 (fun _ => none) 0 (fun _ => 0) (fun _ => 0) (fun _ => 0) (fun _ => 0)) S hK hP hD hS hA (ci := 10) (fs := [.int (jI 0), .int (jI 0), .null, .null, .null, .null, .null, .int (jI 0), .int (jI 0), .null, .null, .null, .null, .null, .null, .null, .null, .null, .null, .null, .null, .int (jI 0)]) inlX10 tyX10 tyX10_ok (List.mem_of_getElem? (i := 3) rfl) (List.mem_of_getElem? (i := 4) rfl) (List.mem_of_getElem? (i := 5) rfl) rfl (by intro j hj; have hj2 : j = 0 ∨ j = 1 ∨ j = 2 ∨ j = 3 ∨ j = 4 ∨ j = 5 ∨ j = 6 ∨ j = 7 ∨ j = 8 ∨ j = 9 ∨ j = 10 ∨ j = 11 ∨ j = 12 ∨ j = 13 ∨ j = 14 ∨ j = 15 ∨ j = 16 ∨ j = 17 ∨ j = 18 ∨ j = 19 ∨ j = 20 ∨ j = 21 := (by omega); rcases hj2 with rfl | rfl | rfl | rfl | rfl | rfl | rfl | rfl | rfl | rfl | rfl | rfl | rfl | rfl | rfl | rfl | rfl | rfl | rfl | rfl | rfl | rfl <;> rfl) (Nat.le_of_ble_eq_true rfl) (Nat.le_of_ble_eq_true rfl) dL_law_8 (fun q10 H hP hD hS => ?_)
  refine lv_dup S.1 S.2.1 dL_law_11 rfl ?_
  have hPc : zP E [(q10, .inr (10, [.int (jI 0), .int (jI 0), .null, .null, .null, .null, .null, .int (jI 0), .int (jI 0), .null, .null, .null, .null, .null, .null, .null, .null, .null, .null, .null, .null, .int (jI 0)]))] H := zPr hP
  have hDc : va_D (fun q : Nat => s.heap.size ≤ q) [(q10, .inr (10, [.int (jI 0), .int (jI 0), .null, .null, .null, .null, .null, .int (jI 0), .int (jI 0), .null, .null, .null, .null, .null, .null, .null, .null, .null, .null, .null, .null, .int (jI 0)]))] := zDr hD
  refine z_sv (L := cW E ac 0 (fun _ => 0) (zlan 4) (fun _ => 0) 0 (fun _ => 0) 0 (fun _ => none) 0 (fun _ => 0) (fun _ => 0) (fun _ => 0) (fun _ => 0)) (wc := [(q10, .inr (10, [.int (jI 0), .int (jI 0), .null, .null, .null, .null, .null, .int (jI 0), .int (jI 0), .null, .null, .null, .null, .null, .null, .null, .null, .null, .null, .null, .null, .int (jI 0)]))]) (Rr := []) (z_mI S hK (c_X10_init l E q10 _) gL_law_X10_init (List.mem_of_getElem? (i := 5) rfl) (List.mem_of_getElem? (i := 70) rfl) (List.mem_of_getElem? (i := 71) rfl) rfl rfl hz_X10_init ⟨Nat.le_of_ble_eq_true rfl, Nat.le_of_ble_eq_true rfl⟩ hPc hDc trivial hl.1 rfl (Nat.le_of_ble_eq_true rfl) ⟨Nat.le_of_ble_eq_true rfl, Nat.le_of_ble_eq_true rfl⟩ rfl dL_law_12) (by rw [List.append_nil]; exact hP) (by rw [List.append_nil]; exact hD) hS hA (fun ad H locs h12 hP hD hS => ?_)
  have h12 : ad 0 = q10 := h12
  rw [← h12]
  obtain ⟨hP, hD⟩ := zSwap hP hD
  refine lv_astore_n (lv' := [(2, .ref (ad 0)), (1, .ref (ac 0)), (0, .ref b)]) S.1 S.2.1 dL_law_15 rfl hl (by decide) rfl (fun ls hl => ?_)
  refine z_iconst S dL_law_16 ?_
  refine lv_istore_n (lv' := [(3, .int (jI 0)), (2, .ref (ad 0)), (1, .ref (ac 0)), (0, .ref b)]) S.1 S.2.1 dL_law_17 rfl hl (by decide) rfl (fun ls hl => ?_)
  have e0 : jI 0 = jI (9 * ((0 : Nat) : Int)) := congrArg jI (by omega)
  rw [e0] at hl
  refine W.widen (k := 40 + 10 * 0) (n := 6000 + 40 * 0) (Nat.le_of_ble_eq_true rfl) (Nat.le_of_ble_eq_true rfl) ?_
  refine law_loop hL C0 S hK hCs (L + 1) 0 (by omega) (by omega) H locs ?_ hS ls hl
  refine ⟨0, (fun _ => 0), zlan 4, (fun _ => 0), 0, (fun _ => 0), 0, (fun _ => none), 0, (fun _ => 0), (fun _ => 0), (fun _ => 0), (fun _ => 0), (fun _ => 0), (fun _ => 0), (fun _ => 0), (fun _ => 0), (fun _ => 0), 0, 0, (fun _ => 0), (fun _ => 0), (fun _ => 0), (fun _ => 0), (fun _ => 0), (fun _ => 0), (fun _ => 0), (fun _ => 0), zlan 4, (fun _ => 0), (fun _ => 0), (fun _ => 0), [], ⟨?_, ?_, ?_, ?_, ?_, ?_, ?_, ?_, ?_⟩, hP, hD⟩
  · intro k k1 k2
    refine Or.inl ⟨?_, rfl, ?_⟩ <;> (unfold zlan; rw [if_pos (by omega)])
  · intro j
    show -2147483648 ≤ (0 : Int) ∧ (0 : Int) ≤ 2147483647
    omega
  · omega
  · intro j
    show -2147483648 ≤ (0 : Int) ∧ (0 : Int) ≤ 2147483647
    omega
  · omega
  · intro x x1 x2
    exact absurd x2 (by omega)
  · intro x x1 x2
    exact absurd x2 (by omega)
  · intro x x1 x2
    exact absurd x2 (by omega)
  · intro k k1 k2
    have e : zlan 4 k = -1 := by unfold zlan; rw [if_pos (by omega)]
    rw [e]
    show (-1 ≤ (-1 : Int) ∧ (-1 : Int) ≤ 100) ∧ (0 ≤ (0 : Int) ∧ (0 : Int) ≤ 2)
    omega
