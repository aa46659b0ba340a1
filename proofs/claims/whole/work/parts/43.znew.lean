section ZN
variable {p : Program} {l : Launch} {e : Env} {R : Room} {s : State} {m : MethodId} {args : Array Value} {below : List Frame} {meth : Method} {c : Code} {H : Heap} {locs : List Loc} {cells slots : Nat} {Q : State → Prop}
variable {cc : ByteArray} {pc nL : Nat} {ls : Array Slot} {st rest : List Value} {Ts : List Cond} {own : String} {E : zE} {A : Nat → Prop} {ws : va_W}
theorem jI_len {x : Int} {N : Nat} (hx : x = (N : Int)) (hN : N ≤ 1000) : ¬ jI x < 0 ∧ (jI x).toNatClampNeg = N := by
  have h : (jI x).toInt = x := jI_int (by omega)
  constructor
  · intro q
    have := Int32.lt_iff_toInt_lt.mp q
    rw [h] at this
    have e0 : (0 : Int32).toInt = 0 := rfl
    omega
  · show (jI x).toInt.toNat = N
    rw [h, hx]
    rfl
theorem z_newI (S : CallFix p m c cc nL s args Ts own) (hK : zK E s) (hP : zP E ws H) (hD : va_D A ws) (hS : va_S A s.heap H locs) (hA : ∀ q, s.heap.size ≤ q → A q) (harr : Cond.arrayClass .int ∈ Ts) {x : Int} {N : Nat} (hx : x = (N : Int)) (hN : N ≤ 1000) (hcells : cells + 1 ≤ R.cells) (hslots : slots + N ≤ R.slots) (hdg : decode cc pc = .ok (.newarray .int, 2))
    (kk : ∀ (q : Nat) (H1 : Heap), zP E (ws ++ [(q, eI E N (fun _ => 0))]) H1 → va_D A (ws ++ [(q, eI E N (fun _ => 0))]) → va_S A s.heap H1 locs → W p l e R s m args below meth c H1 locs (cells + 1) (slots + N) Q (F0 m (pc + 2) ls (.ref q :: rest))) : W p l e R s m args below meth c H locs cells slots Q (F0 m pc ls (.int (jI x) :: rest)) := by
  have hj := jI_len hx hN
  refine va_newa (atype := .int) (ty := .int) (a0 := (N, .inl (aI (fun _ => 0)))) S.1 S.2.1 (S.2.2.2.2 _ harr) rfl hK hP hD hS hA (fun cA => ?_) hj.1 hj.2 ?_ hcells hslots hdg (fun q cA H1 hK2 hP2 hD2 hS2 => ?_)
  · rw [vp_cell_i]; rfl
  · show N * 4 ≤ 536870912; omega
  · have e1 : s.vm.findClass ("[" ++ (FieldType.int).toString) = some cA := (hK2.2 3 _ rfl).2
    have e2 : s.vm.findClass ("[" ++ (FieldType.int).toString) = some E.2.1 := (hK.2 0 _ rfl).2
    rw [e1] at e2
    cases e2
    exact kk q H1 hP2 hD2 hS2
theorem z_newZ (S : CallFix p m c cc nL s args Ts own) (hK : zK E s) (hP : zP E ws H) (hD : va_D A ws) (hS : va_S A s.heap H locs) (hA : ∀ q, s.heap.size ≤ q → A q) (harr : Cond.arrayClass .boolean ∈ Ts) {x : Int} {N : Nat} (hx : x = (N : Int)) (hN : N ≤ 1000) (hcells : cells + 1 ≤ R.cells) (hslots : slots + N ≤ R.slots) (hdg : decode cc pc = .ok (.newarray .boolean, 2))
    (kk : ∀ (q : Nat) (H1 : Heap), zP E (ws ++ [(q, eZ E N (fun _ => 0))]) H1 → va_D A (ws ++ [(q, eZ E N (fun _ => 0))]) → va_S A s.heap H1 locs → W p l e R s m args below meth c H1 locs (cells + 1) (slots + N) Q (F0 m (pc + 2) ls (.ref q :: rest))) : W p l e R s m args below meth c H locs cells slots Q (F0 m pc ls (.int (jI x) :: rest)) := by
  have hj := jI_len hx hN
  refine va_newa (atype := .boolean) (ty := .boolean) (a0 := (N, .inl (aI (fun _ => 0)))) S.1 S.2.1 (S.2.2.2.2 _ harr) rfl hK hP hD hS hA (fun cA => ?_) hj.1 hj.2 ?_ hcells hslots hdg (fun q cA H1 hK2 hP2 hD2 hS2 => ?_)
  · rw [vp_cell_i]; rfl
  · show N * 1 ≤ 536870912; omega
  · have e1 : s.vm.findClass ("[" ++ (FieldType.boolean).toString) = some cA := (hK2.2 3 _ rfl).2
    have e2 : s.vm.findClass ("[" ++ (FieldType.boolean).toString) = some E.2.2.1 := (hK.2 1 _ rfl).2
    rw [e1] at e2
    cases e2
    exact kk q H1 hP2 hD2 hS2
theorem z_newN (S : CallFix p m c cc nL s args Ts own) (hK : zK E s) (hP : zP E ws H) (hD : va_D A ws) (hS : va_S A s.heap H locs) (hA : ∀ q, s.heap.size ≤ q → A q) {index : Nat} (hlk : Cond.classLink own index "LivingNumbers$Named" ∈ Ts) (hover : va_AO "LivingNumbers$Named" s) {x : Int} {N : Nat} (hx : x = (N : Int)) (hN : N ≤ 1000) (hcells : cells + 1 ≤ R.cells) (hslots : slots + N ≤ R.slots) (hdg : decode cc pc = .ok (.anewarray index, 3))
    (kk : ∀ (q : Nat) (H1 : Heap), zP E (ws ++ [(q, eN E N (fun _ => none))]) H1 → va_D A (ws ++ [(q, eN E N (fun _ => none))]) → va_S A s.heap H1 locs → W p l e R s m args below meth c H1 locs (cells + 1) (slots + N) Q (F0 m (pc + 3) ls (.ref q :: rest))) : W p l e R s m args below meth c H locs cells slots Q (F0 m pc ls (.int (jI x) :: rest)) := by
  have hj := jI_len hx hN
  refine va_newq S.1 S.2.1 S.2.2.2.1 (S.2.2.2.2 _ hlk) hover hK hP hD hS hA hj.1 hj.2 (by omega) hcells hslots hdg (fun q cA H1 hK2 hP2 hD2 hS2 => ?_)
  obtain ⟨k1, c1, a1, a2, a3, e1⟩ : ∃ (kA : Class) (comp : ClassId), s.vm.classes[cA]? = some kA ∧ kA.kind = .array comp (.object "LivingNumbers$Named") ∧ s.vm.findClass "LivingNumbers$Named" = some comp ∧ s.vm.findClass ("[" ++ (FieldType.object "LivingNumbers$Named").toString) = some cA := (hK2.2 3 _ rfl).2
  obtain ⟨k2, c2, b1, b2, b3, e2⟩ : ∃ (kA : Class) (comp : ClassId), s.vm.classes[E.2.2.2]? = some kA ∧ kA.kind = .array comp (.object "LivingNumbers$Named") ∧ s.vm.findClass "LivingNumbers$Named" = some comp ∧ s.vm.findClass ("[" ++ (FieldType.object "LivingNumbers$Named").toString) = some E.2.2.2 := (hK.2 2 _ rfl).2
  rw [e1] at e2
  have e3 : cA = E.2.2.2 := Option.some.inj e2
  subst e3
  exact kk q H1 hP2 hD2 hS2
theorem z_new (S : CallFix p m c cc nL s args Ts own) (hK : zK E s) (hP : zP E ws H) (hD : va_D A ws) (hS : va_S A s.heap H locs) (hA : ∀ q, s.heap.size ≤ q → A q) {C : String} {T : u_T} {N ci index : Nat} (hin : ∀ w ∈ u_ws C T N, w ∈ Ts) (ty : Nat → FieldType) (hty : ∀ k, k < N → parseFieldDescriptor (T k).2.2.1 = some (ty k)) (hcl : Cond.classLink own index C ∈ Ts) (hinst : Cond.instantiable C N ∈ Ts) (hini : Cond.initialized C ∈ Ts) (hc : vwCl[ci]? = some (C, T, N)) {fs : List Value} (hfs : ∀ j, j < N → defaultValue (ty j) = vp_V fs j) (hcells : cells + 1 ≤ R.cells) (hslots : slots + N ≤ R.slots) (hdg : decode cc pc = .ok (.new index, 3))
    (kk : ∀ (q : Nat) (H1 : Heap), zP E (ws ++ [(q, .inr (ci, fs))]) H1 → va_D A (ws ++ [(q, .inr (ci, fs))]) → va_S A s.heap H1 locs → W p l e R s m args below meth c H1 locs (cells + 1) (slots + N) Q (F0 m (pc + 3) ls (.ref q :: rest))) : W p l e R s m args below meth c H locs cells slots Q (F0 m pc ls rest) :=
  va_new S.1 S.2.1 S.2.2.2.2 hin ty hty S.2.2.2.1 (S.2.2.2.2 _ hcl) (S.2.2.2.2 _ hinst) (S.2.2.2.2 _ hini) hK hP hD hS hA hc hfs hcells hslots hdg kk
end ZN
