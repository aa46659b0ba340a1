/-! the classes' worlds: E = (what the kit calls D, the classes of int rows, of boolean rows, of rows of people) -/
abbrev zE : Type := va_G × (ClassId × (ClassId × ClassId))
abbrev zT (E : zE) : List (ClassId × FieldType) := [(E.2.1, .int), (E.2.2.1, .boolean), (E.2.2.2, .object "LivingNumbers$Named")]
abbrev zP (E : zE) (ws : va_W) (H : Heap) : Prop := va_P E.1 vwCl ws H
abbrev zK (E : zE) (s : State) : Prop := va_K E.1 vwCl (zT E) s
abbrev eI (E : zE) (n : Nat) (f : Int → Int) : va_E := .inl (E.2.1, n, .inl (aI f))
abbrev eZ (E : zE) (n : Nat) (f : Int → Int) : va_E := .inl (E.2.2.1, n, .inl (aI f))
abbrev eN (E : zE) (n : Nat) (f : Nat → Option Nat) : va_E := .inl (E.2.2.2, n, .inr (.inr (.inr (.inr f))))
/-- a method that changes nothing: contracts (int, long, reference or null) -/
def zQi (post : Int → Prop) : Array Value → State → Outcome → State → Prop := fun _ st oc t => (∃ r : Int, oc = .returned (some (.int (jI r))) ∧ post r) ∧ t.heap = st.heap
def zQl (post : Int → Prop) : Array Value → State → Outcome → State → Prop := fun _ st oc t => (∃ r : Int, oc = .returned (some (.long (jL r))) ∧ post r) ∧ t.heap = st.heap
def zQq (post : Option Nat → Prop) : Array Value → State → Outcome → State → Prop := fun _ st oc t => (∃ r : Option Nat, oc = .returned (some (va_rf r)) ∧ post r) ∧ t.heap = st.heap
def zPc (E : zE) (av : List Value) (G : Heap → Prop) : Array Value → State → Prop := va_Pc av (fun U => G U.heap ∧ zK E U)
def zRi (l : Launch) (E : zE) (y : MethodName) (wsy : List Cond) (rm : Room) (av : List Value) (G : Heap → Prop) (post : Int → Prop) : Prop := Met l y wsy rm (zPc E av G) (zQi post) 0 0 (fun _ => False)
def zRl (l : Launch) (E : zE) (y : MethodName) (wsy : List Cond) (rm : Room) (av : List Value) (G : Heap → Prop) (post : Int → Prop) : Prop := Met l y wsy rm (zPc E av G) (zQl post) 0 0 (fun _ => False)
def zRq (l : Launch) (E : zE) (y : MethodName) (wsy : List Cond) (rm : Room) (av : List Value) (G : Heap → Prop) (post : Option Nat → Prop) : Prop := Met l y wsy rm (zPc E av G) (zQq post) 0 0 (fun _ => False)
/-- a method that changes its world's cells: contracts (int, long, nothing) -/
def zQMi {S : Type} (E : zE) (ws : va_W) (sz : Nat) (post : Int → S → Prop) (ws' : S → va_W) : Array Value → State → Outcome → State → Prop := fun _ st oc t => (∃ (r : Int) (u : S), oc = .returned (some (.int (jI r))) ∧ post r u ∧ zP E (ws' u) t.heap ∧ va_D (va_A ws sz) (ws' u)) ∧ va_F (va_A ws sz) st t
def zQMl {S : Type} (E : zE) (ws : va_W) (sz : Nat) (post : Int → S → Prop) (ws' : S → va_W) : Array Value → State → Outcome → State → Prop := fun _ st oc t => (∃ (r : Int) (u : S), oc = .returned (some (.long (jL r))) ∧ post r u ∧ zP E (ws' u) t.heap ∧ va_D (va_A ws sz) (ws' u)) ∧ va_F (va_A ws sz) st t
def zQMv {S : Type} (E : zE) (ws : va_W) (sz : Nat) (post : S → Prop) (ws' : S → va_W) : Array Value → State → Outcome → State → Prop := fun _ st oc t => (∃ u : S, oc = .returned none ∧ post u ∧ zP E (ws' u) t.heap ∧ va_D (va_A ws sz) (ws' u)) ∧ va_F (va_A ws sz) st t
def zPm (E : zE) (av : List Value) (ws : va_W) (sz : Nat) (G : Heap → Prop) : Array Value → State → Prop := va_Pc av (fun U => U.heap.size = sz ∧ zP E ws U.heap ∧ zK E U ∧ va_D (fun _ => True) ws ∧ G U.heap)
def zMi {S : Type} (l : Launch) (E : zE) (y : MethodName) (wsy : List Cond) (rm : Room) (av : List Value) (ws : va_W) (G : Heap → Prop) (post : Int → S → Prop) (ws' : S → va_W) (mc ms : Nat) : Prop := ∀ sz, Met l y wsy rm (zPm E av ws sz G) (zQMi E ws sz post ws') mc ms (va_A ws sz)
def zMl {S : Type} (l : Launch) (E : zE) (y : MethodName) (wsy : List Cond) (rm : Room) (av : List Value) (ws : va_W) (G : Heap → Prop) (post : Int → S → Prop) (ws' : S → va_W) (mc ms : Nat) : Prop := ∀ sz, Met l y wsy rm (zPm E av ws sz G) (zQMl E ws sz post ws') mc ms (va_A ws sz)
def zMv {S : Type} (l : Launch) (E : zE) (y : MethodName) (wsy : List Cond) (rm : Room) (av : List Value) (ws : va_W) (G : Heap → Prop) (post : S → Prop) (ws' : S → va_W) (mc ms : Nat) : Prop := ∀ sz, Met l y wsy rm (zPm E av ws sz G) (zQMv E ws sz post ws') mc ms (va_A ws sz)
theorem zPc_blind {E : zE} {av : List Value} {G : Heap → Prop} : FrameBlind (zPc E av G) := fun a U g mk q => ⟨q.1, q.2.1, va_K.moved (u := U) (U := U.calling g mk a) (Vm.Alike.refl U.vm) q.2.2⟩
theorem zPm_blind {E : zE} {av : List Value} {ws : va_W} {sz : Nat} {G : Heap → Prop} : FrameBlind (zPm E av ws sz G) := fun a U g mk q => ⟨q.1, q.2.1, q.2.2.1, va_K.moved (u := U) (U := U.calling g mk a) (Vm.Alike.refl U.vm) q.2.2.2.1, q.2.2.2.2⟩
section ZR
variable {l : Launch} {E : zE} {y : MethodName} {wsy ws' : List Cond} {k : Nat} {av : List Value} {G : Heap → Prop} {cc : ByteArray} {maxL : Nat} {rt : FieldType} {own : String}
theorem zRi_of {post : Int → Prop} (hy : plainName y.cls = true) (hw : wsy = Cond.code y cc maxL (some .int) :: ws') (hlen : (lg_sl av).length ≤ maxL) (ho : y.cls = own)
    (body : ∀ (p : Program) (e : Env) (s : State) (m : MethodId) (args : Array Value) (below : List Frame) (meth : Method) (c : Code) (Q : State → Prop), CallFix p m c cc maxL s args wsy own → zK E s → G s.heap → (∀ r : Int, post r → ∀ (pc : Nat) (ls : Array Slot), decode cc pc = .ok (.ireturn, 1) → W p l e (zr k 0 0) s m args below meth c s.heap [] 0 0 Q (F0 m pc ls [.int (jI r)])) → ∀ ls : Array Slot, lv_has ls maxL (lv_args 0 av) → W p l e (zr k 0 0) s m args below meth c s.heap [] 0 0 Q (F0 m 0 ls [])) : zRi l E y wsy (zr k 0 0) av G post := by
  refine Met.ofW (cc := cc) (maxL := maxL) (ret := some .int) hy hw ?_
  intro p e s m args below meth c s₁ B hml hv
  obtain ⟨rfl, hG, hK⟩ := hv
  have hr := B.returns
  have hlocks := B.notSynchronized
  have S : CallFix p m c cc maxL s av.toArray wsy own := ⟨B.exec, B.bytes, hml, by rw [← ho]; exact findClass_of_methodNamed B.named, atoms_spec (ws := wsy) B.pre⟩
  have hl := lv_entry av (n := maxL) hlen
  rw [lg_entry_eq]
  exact body p e s m _ below meth c _ S hK hG (fun r hp pc ls hd => W.iret (v := jI r) S.1 S.2.1 hr (fun t ht hW => ⟨⟨r, rfl, hp⟩, ht⟩) (fun q h => by cases h) hd) _ hl
theorem zRz_of {post : Int → Prop} (hy : plainName y.cls = true) (hw : wsy = Cond.code y cc maxL (some .boolean) :: ws') (hlen : (lg_sl av).length ≤ maxL) (ho : y.cls = own)
    (body : ∀ (p : Program) (e : Env) (s : State) (m : MethodId) (args : Array Value) (below : List Frame) (meth : Method) (c : Code) (Q : State → Prop), CallFix p m c cc maxL s args wsy own → zK E s → G s.heap → (∀ r : Int, (r = 0 ∨ r = 1) → post r → ∀ (pc : Nat) (ls : Array Slot), decode cc pc = .ok (.ireturn, 1) → W p l e (zr k 0 0) s m args below meth c s.heap [] 0 0 Q (F0 m pc ls [.int (jI r)])) → ∀ ls : Array Slot, lv_has ls maxL (lv_args 0 av) → W p l e (zr k 0 0) s m args below meth c s.heap [] 0 0 Q (F0 m 0 ls [])) : zRi l E y wsy (zr k 0 0) av G post := by
  refine Met.ofW (cc := cc) (maxL := maxL) (ret := some .boolean) hy hw ?_
  intro p e s m args below meth c s₁ B hml hv
  obtain ⟨rfl, hG, hK⟩ := hv
  have hr := B.returns
  have hlocks := B.notSynchronized
  have S : CallFix p m c cc maxL s av.toArray wsy own := ⟨B.exec, B.bytes, hml, by rw [← ho]; exact findClass_of_methodNamed B.named, atoms_spec (ws := wsy) B.pre⟩
  have hl := lv_entry av (n := maxL) hlen
  rw [lg_entry_eq]
  exact body p e s m _ below meth c _ S hK hG (fun r h01 hp pc ls hd => W.zret (v := jI r) S.1 S.2.1 hr (by rcases h01 with rfl | rfl <;> decide +kernel) (fun t ht hW => ⟨⟨r, rfl, hp⟩, ht⟩) (fun q h => by cases h) hd) _ hl
theorem zRl_of {post : Int → Prop} (hy : plainName y.cls = true) (hw : wsy = Cond.code y cc maxL (some .long) :: ws') (hlen : (lg_sl av).length ≤ maxL) (ho : y.cls = own)
    (body : ∀ (p : Program) (e : Env) (s : State) (m : MethodId) (args : Array Value) (below : List Frame) (meth : Method) (c : Code) (Q : State → Prop), CallFix p m c cc maxL s args wsy own → zK E s → G s.heap → (∀ r : Int, post r → ∀ (pc : Nat) (ls : Array Slot), decode cc pc = .ok (.lreturn, 1) → W p l e (zr k 0 0) s m args below meth c s.heap [] 0 0 Q (F0 m pc ls [.long (jL r)])) → ∀ ls : Array Slot, lv_has ls maxL (lv_args 0 av) → W p l e (zr k 0 0) s m args below meth c s.heap [] 0 0 Q (F0 m 0 ls [])) : zRl l E y wsy (zr k 0 0) av G post := by
  refine Met.ofW (cc := cc) (maxL := maxL) (ret := some .long) hy hw ?_
  intro p e s m args below meth c s₁ B hml hv
  obtain ⟨rfl, hG, hK⟩ := hv
  have hr := B.returns
  have hlocks := B.notSynchronized
  have S : CallFix p m c cc maxL s av.toArray wsy own := ⟨B.exec, B.bytes, hml, by rw [← ho]; exact findClass_of_methodNamed B.named, atoms_spec (ws := wsy) B.pre⟩
  have hl := lv_entry av (n := maxL) hlen
  rw [lg_entry_eq]
  exact body p e s m _ below meth c _ S hK hG (fun r hp pc ls hd => W.lret (v := jL r) S.1 S.2.1 hr (fun t ht hW => ⟨⟨r, rfl, hp⟩, ht⟩) (fun q h => by cases h) hd) _ hl
theorem zRq_of {post : Option Nat → Prop} {cn : String} (hy : plainName y.cls = true) (hw : wsy = Cond.code y cc maxL (some (.object cn)) :: ws') (hlen : (lg_sl av).length ≤ maxL) (ho : y.cls = own)
    (body : ∀ (p : Program) (e : Env) (s : State) (m : MethodId) (args : Array Value) (below : List Frame) (meth : Method) (c : Code) (Q : State → Prop), CallFix p m c cc maxL s args wsy own → zK E s → G s.heap → (∀ r : Option Nat, post r → ∀ (pc : Nat) (ls : Array Slot), decode cc pc = .ok (.areturn, 1) → W p l e (zr k 0 0) s m args below meth c s.heap [] 0 0 Q (F0 m pc ls [va_rf r])) → ∀ ls : Array Slot, lv_has ls maxL (lv_args 0 av) → W p l e (zr k 0 0) s m args below meth c s.heap [] 0 0 Q (F0 m 0 ls [])) : zRq l E y wsy (zr k 0 0) av G post := by
  refine Met.ofW (cc := cc) (maxL := maxL) (ret := some (.object cn)) hy hw ?_
  intro p e s m args below meth c s₁ B hml hv
  obtain ⟨rfl, hG, hK⟩ := hv
  have hr := B.returns
  have hlocks := B.notSynchronized
  have S : CallFix p m c cc maxL s av.toArray wsy own := ⟨B.exec, B.bytes, hml, by rw [← ho]; exact findClass_of_methodNamed B.named, atoms_spec (ws := wsy) B.pre⟩
  have hl := lv_entry av (n := maxL) hlen
  rw [lg_entry_eq]
  exact body p e s m _ below meth c _ S hK hG (fun r hp pc ls hd => W.aret (v := va_rf r) S.1 S.2.1 hr (Or.inl ⟨cn, rfl⟩) (by cases r with | none => exact Or.inl rfl | some a => exact Or.inr ⟨a, rfl⟩) (fun t ht hW => ⟨⟨r, rfl, hp⟩, ht⟩) (fun q h => by cases h) hd) _ hl
theorem zMi_of {S : Type} {ws : va_W} {post : Int → S → Prop} {wsF : S → va_W} {mc ms : Nat} (hy : plainName y.cls = true) (hw : wsy = Cond.code y cc maxL (some .int) :: ws') (hlen : (lg_sl av).length ≤ maxL) (ho : y.cls = own)
    (body : ∀ (p : Program) (e : Env) (s : State) (m : MethodId) (args : Array Value) (below : List Frame) (meth : Method) (c : Code) (Q : State → Prop) (A : Nat → Prop), CallFix p m c cc maxL s args wsy own → zK E s → (∀ q, s.heap.size ≤ q → A q) → va_S A s.heap s.heap [] → zP E ws s.heap → va_D A ws → va_A ws s.heap.size = A → G s.heap → (∀ (r : Int) (u : S) (H : Heap) (locs : List Loc), post r u → zP E (wsF u) H → va_D A (wsF u) → va_S A s.heap H locs → ∀ (pc : Nat) (ls : Array Slot), decode cc pc = .ok (.ireturn, 1) → W p l e (zr k mc ms) s m args below meth c H locs mc ms Q (F0 m pc ls [.int (jI r)])) → ∀ ls : Array Slot, lv_has ls maxL (lv_args 0 av) → W p l e (zr k mc ms) s m args below meth c s.heap [] 0 0 Q (F0 m 0 ls [])) : zMi l E y wsy (zr k mc ms) av ws G post wsF mc ms := by
  intro sz
  refine Met.ofW (cc := cc) (maxL := maxL) (ret := some .int) hy hw ?_
  intro p e s m args below meth c s₁ B hml hv
  obtain ⟨rfl, hsz, hP, hK, hD0, hG⟩ := hv
  have hr := B.returns
  have hlocks := B.notSynchronized
  subst hsz
  have hD := hD0.self (sz := s.heap.size)
  have S0 : CallFix p m c cc maxL s av.toArray wsy own := ⟨B.exec, B.bytes, hml, by rw [← ho]; exact findClass_of_methodNamed B.named, atoms_spec (ws := wsy) B.pre⟩
  have hl := lv_entry av (n := maxL) hlen
  rw [lg_entry_eq]
  have S := S0
  exact body p e s m _ below meth c _ _ S0 hK (fun q h => Or.inr h) va_S.rf hP hD rfl hG (fun r u H locs hp hP hD hS pc ls hd => W.iret (v := jI r) S.1 S.2.1 hr (fun t ht hW => ⟨⟨r, u, rfl, hp, by rw [ht]; exact hP, hD⟩, hS.F ht⟩) hS.2.2 hd) _ hl
theorem zMz_of {S : Type} {ws : va_W} {post : Int → S → Prop} {wsF : S → va_W} {mc ms : Nat} (hy : plainName y.cls = true) (hw : wsy = Cond.code y cc maxL (some .boolean) :: ws') (hlen : (lg_sl av).length ≤ maxL) (ho : y.cls = own)
    (body : ∀ (p : Program) (e : Env) (s : State) (m : MethodId) (args : Array Value) (below : List Frame) (meth : Method) (c : Code) (Q : State → Prop) (A : Nat → Prop), CallFix p m c cc maxL s args wsy own → zK E s → (∀ q, s.heap.size ≤ q → A q) → va_S A s.heap s.heap [] → zP E ws s.heap → va_D A ws → va_A ws s.heap.size = A → G s.heap → (∀ (r : Int) (u : S) (H : Heap) (locs : List Loc), (r = 0 ∨ r = 1) → post r u → zP E (wsF u) H → va_D A (wsF u) → va_S A s.heap H locs → ∀ (pc : Nat) (ls : Array Slot), decode cc pc = .ok (.ireturn, 1) → W p l e (zr k mc ms) s m args below meth c H locs mc ms Q (F0 m pc ls [.int (jI r)])) → ∀ ls : Array Slot, lv_has ls maxL (lv_args 0 av) → W p l e (zr k mc ms) s m args below meth c s.heap [] 0 0 Q (F0 m 0 ls [])) : zMi l E y wsy (zr k mc ms) av ws G post wsF mc ms := by
  intro sz
  refine Met.ofW (cc := cc) (maxL := maxL) (ret := some .boolean) hy hw ?_
  intro p e s m args below meth c s₁ B hml hv
  obtain ⟨rfl, hsz, hP, hK, hD0, hG⟩ := hv
  have hr := B.returns
  have hlocks := B.notSynchronized
  subst hsz
  have hD := hD0.self (sz := s.heap.size)
  have S0 : CallFix p m c cc maxL s av.toArray wsy own := ⟨B.exec, B.bytes, hml, by rw [← ho]; exact findClass_of_methodNamed B.named, atoms_spec (ws := wsy) B.pre⟩
  have hl := lv_entry av (n := maxL) hlen
  rw [lg_entry_eq]
  have S := S0
  exact body p e s m _ below meth c _ _ S0 hK (fun q h => Or.inr h) va_S.rf hP hD rfl hG (fun r u H locs h01 hp hP hD hS pc ls hd => W.zret (v := jI r) S.1 S.2.1 hr (by rcases h01 with rfl | rfl <;> decide +kernel) (fun t ht hW => ⟨⟨r, u, rfl, hp, by rw [ht]; exact hP, hD⟩, hS.F ht⟩) hS.2.2 hd) _ hl
theorem zMl_of {S : Type} {ws : va_W} {post : Int → S → Prop} {wsF : S → va_W} {mc ms : Nat} (hy : plainName y.cls = true) (hw : wsy = Cond.code y cc maxL (some .long) :: ws') (hlen : (lg_sl av).length ≤ maxL) (ho : y.cls = own)
    (body : ∀ (p : Program) (e : Env) (s : State) (m : MethodId) (args : Array Value) (below : List Frame) (meth : Method) (c : Code) (Q : State → Prop) (A : Nat → Prop), CallFix p m c cc maxL s args wsy own → zK E s → (∀ q, s.heap.size ≤ q → A q) → va_S A s.heap s.heap [] → zP E ws s.heap → va_D A ws → va_A ws s.heap.size = A → G s.heap → (∀ (r : Int) (u : S) (H : Heap) (locs : List Loc), post r u → zP E (wsF u) H → va_D A (wsF u) → va_S A s.heap H locs → ∀ (pc : Nat) (ls : Array Slot), decode cc pc = .ok (.lreturn, 1) → W p l e (zr k mc ms) s m args below meth c H locs mc ms Q (F0 m pc ls [.long (jL r)])) → ∀ ls : Array Slot, lv_has ls maxL (lv_args 0 av) → W p l e (zr k mc ms) s m args below meth c s.heap [] 0 0 Q (F0 m 0 ls [])) : zMl l E y wsy (zr k mc ms) av ws G post wsF mc ms := by
  intro sz
  refine Met.ofW (cc := cc) (maxL := maxL) (ret := some .long) hy hw ?_
  intro p e s m args below meth c s₁ B hml hv
  obtain ⟨rfl, hsz, hP, hK, hD0, hG⟩ := hv
  have hr := B.returns
  have hlocks := B.notSynchronized
  subst hsz
  have hD := hD0.self (sz := s.heap.size)
  have S0 : CallFix p m c cc maxL s av.toArray wsy own := ⟨B.exec, B.bytes, hml, by rw [← ho]; exact findClass_of_methodNamed B.named, atoms_spec (ws := wsy) B.pre⟩
  have hl := lv_entry av (n := maxL) hlen
  rw [lg_entry_eq]
  have S := S0
  exact body p e s m _ below meth c _ _ S0 hK (fun q h => Or.inr h) va_S.rf hP hD rfl hG (fun r u H locs hp hP hD hS pc ls hd => W.lret (v := jL r) S.1 S.2.1 hr (fun t ht hW => ⟨⟨r, u, rfl, hp, by rw [ht]; exact hP, hD⟩, hS.F ht⟩) hS.2.2 hd) _ hl
theorem zMv_of {S : Type} {ws : va_W} {post : S → Prop} {wsF : S → va_W} {mc ms : Nat} (hy : plainName y.cls = true) (hw : wsy = Cond.code y cc maxL (none) :: ws') (hlen : (lg_sl av).length ≤ maxL) (ho : y.cls = own)
    (body : ∀ (p : Program) (e : Env) (s : State) (m : MethodId) (args : Array Value) (below : List Frame) (meth : Method) (c : Code) (Q : State → Prop) (A : Nat → Prop), CallFix p m c cc maxL s args wsy own → zK E s → meth.name = y.name → (∀ q, s.heap.size ≤ q → A q) → va_S A s.heap s.heap [] → zP E ws s.heap → va_D A ws → va_A ws s.heap.size = A → G s.heap → (∀ (u : S) (H : Heap) (locs : List Loc), post u → zP E (wsF u) H → va_D A (wsF u) → va_S A s.heap H locs → ∀ (pc : Nat) (ls : Array Slot), decode cc pc = .ok (.return_, 1) → W p l e (zr k mc ms) s m args below meth c H locs mc ms Q (F0 m pc ls [])) → ∀ ls : Array Slot, lv_has ls maxL (lv_args 0 av) → W p l e (zr k mc ms) s m args below meth c s.heap [] 0 0 Q (F0 m 0 ls [])) : zMv l E y wsy (zr k mc ms) av ws G post wsF mc ms := by
  intro sz
  refine Met.ofW (cc := cc) (maxL := maxL) (ret := none) hy hw ?_
  intro p e s m args below meth c s₁ B hml hv
  obtain ⟨rfl, hsz, hP, hK, hD0, hG⟩ := hv
  have hr := B.returns
  have hlocks := B.notSynchronized
  subst hsz
  have hD := hD0.self (sz := s.heap.size)
  have S0 : CallFix p m c cc maxL s av.toArray wsy own := ⟨B.exec, B.bytes, hml, by rw [← ho]; exact findClass_of_methodNamed B.named, atoms_spec (ws := wsy) B.pre⟩
  have hl := lv_entry av (n := maxL) hlen
  rw [lg_entry_eq]
  have S := S0
  exact body p e s m _ below meth c _ _ S0 hK (name_of_methodNamed B.named B.method).1 (fun q h => Or.inr h) va_S.rf hP hD rfl hG (fun u H locs hp hP hD hS pc ls hd => W.vret S.1 S.2.1 hr (fun t ht hW => ⟨⟨u, rfl, hp, by rw [ht]; exact hP, hD⟩, hS.F ht⟩) hS.2.2 hd) _ hl
end ZR
section ZA
variable {p : Program} {l : Launch} {e : Env} {R : Room} {s : State} {m : MethodId} {args : Array Value} {below : List Frame} {meth : Method} {c : Code} {H : Heap} {locs : List Loc} {cells slots : Nat} {Q : State → Prop}
variable {cc : ByteArray} {pc nL : Nat} {ls : Array Slot} {rest : List Value} {Ts : List Cond} {own : String} {E : zE} {ws : va_W} {A : Nat → Prop} {a : Nat}
theorem z_get (S : CallFix p m c cc nL s args Ts own) (hK : zK E s) (hP : zP E ws H) (q0 : Nat) {ci : Nat} {fs : List Value} (he : ws[q0]? = some (a, .inr (ci, fs))) {C : String} {T : u_T} {N : Nat} (hc : vwCl[ci]? = some (C, T, N)) (k : Nat) (hk : k < N) (hin : ∀ w ∈ u_ws C T N, w ∈ Ts) {index : Nat} (hlink : Cond.fieldLink own index (T k).1 (T k).2.1 (T k).2.2.1 ∈ Ts) {v : Value} (hv : fs[k]? = some v) (hdg : decode cc pc = .ok (.getfield index, 3)) (kk : W p l e R s m args below meth c H locs cells slots Q (F0 m (pc + 3) ls (v :: rest))) : W p l e R s m args below meth c H locs cells slots Q (F0 m (pc) ls (.ref a :: rest)) := va_get (D := E.1) S.1 S.2.1 S.2.2.2.2 hin S.2.2.2.1 hK hP q0 he hc k hk (S.2.2.2.2 _ hlink) (fun _ h => h) hv hdg kk
theorem z_puti (S : CallFix p m c cc nL s args Ts own) (hK : zK E s) (hP : zP E ws H) (hD : va_D A ws) (hS : va_S A s.heap H locs) (q0 : Nat) {ci : Nat} {fs : List Value} (he : ws[q0]? = some (a, .inr (ci, fs))) {C : String} {T : u_T} {N : Nat} (hc : vwCl[ci]? = some (C, T, N)) (k : Nat) (hk : k < N) (hin : ∀ w ∈ u_ws C T N, w ∈ Ts) {index : Nat} (hlink : Cond.fieldLink own index (T k).1 (T k).2.1 (T k).2.2.1 ∈ Ts) (ty0 : Nat → FieldType) (hty : ∀ k, k < N → parseFieldDescriptor (T k).2.2.1 = some (ty0 k)) (hnm : ∀ a, a < N → ∀ b, b < N → a ≠ b → (T a).2.1 ≠ (T b).2.1) {x : Int} (hfin : (T k).2.2.2 = false) (hd : parseFieldDescriptor (T k).2.2.1 = some .int) (hl : k < fs.length) (hdg : decode cc pc = .ok (.putfield index, 3)) (kk : ∀ (H1 : Heap) (locs1 : List Loc), zP E (ws.set q0 (a, .inr (ci, fs.set k (.int (jI x))))) H1 → va_D A (ws.set q0 (a, .inr (ci, fs.set k (.int (jI x))))) → va_S A s.heap H1 locs1 → W p l e R s m args below meth c H1 locs1 cells slots Q (F0 m (pc + 3) ls (rest))) : W p l e R s m args below meth c H locs cells slots Q (F0 m (pc) ls (.int (jI x) :: .ref a :: rest)) := va_put (D := E.1) S.1 S.2.1 S.2.2.2.2 hin ty0 hty hnm S.2.2.2.1 hK hP hD hS q0 he hc k hk (S.2.2.2.2 _ hlink) (fun _ h => h) hfin hd rfl rfl hl hdg kk
theorem z_putFi (S : CallFix p m c cc nL s args Ts own) (hK : zK E s) (hP : zP E ws H) (hD : va_D A ws) (hS : va_S A s.heap H locs) (q0 : Nat) {ci : Nat} {fs : List Value} (he : ws[q0]? = some (a, .inr (ci, fs))) {C : String} {T : u_T} {N : Nat} (hc : vwCl[ci]? = some (C, T, N)) (k : Nat) (hk : k < N) (hin : ∀ w ∈ u_ws C T N, w ∈ Ts) {index : Nat} (hlink : Cond.fieldLink own index (T k).1 (T k).2.1 (T k).2.2.1 ∈ Ts) (ty0 : Nat → FieldType) (hty : ∀ k, k < N → parseFieldDescriptor (T k).2.2.1 = some (ty0 k)) (hnm : ∀ a, a < N → ∀ b, b < N → a ≠ b → (T a).2.1 ≠ (T b).2.1) {x : Int} (hini : meth.name = "<init>") (hfin : (T k).2.2.2 = true) (hCo : (T k).1 = own) (hd : parseFieldDescriptor (T k).2.2.1 = some .int) (hl : k < fs.length) (hdg : decode cc pc = .ok (.putfield index, 3)) (kk : ∀ (H1 : Heap) (locs1 : List Loc), zP E (ws.set q0 (a, .inr (ci, fs.set k (.int (jI x))))) H1 → va_D A (ws.set q0 (a, .inr (ci, fs.set k (.int (jI x))))) → va_S A s.heap H1 locs1 → W p l e R s m args below meth c H1 locs1 cells slots Q (F0 m (pc + 3) ls (rest))) : W p l e R s m args below meth c H locs cells slots Q (F0 m (pc) ls (.int (jI x) :: .ref a :: rest)) := va_putF (D := E.1) S.1 S.2.1 S.2.2.2.2 hin ty0 hty hnm S.2.2.2.1 hK hP hD hS q0 he hc k hk (S.2.2.2.2 _ hlink) (fun _ h => h) hfin hini hCo hd rfl rfl hl hdg kk
theorem z_putFr (S : CallFix p m c cc nL s args Ts own) (hK : zK E s) (hP : zP E ws H) (hD : va_D A ws) (hS : va_S A s.heap H locs) (q0 : Nat) {ci : Nat} {fs : List Value} (he : ws[q0]? = some (a, .inr (ci, fs))) {C : String} {T : u_T} {N : Nat} (hc : vwCl[ci]? = some (C, T, N)) (k : Nat) (hk : k < N) (hin : ∀ w ∈ u_ws C T N, w ∈ Ts) {index : Nat} (hlink : Cond.fieldLink own index (T k).1 (T k).2.1 (T k).2.2.1 ∈ Ts) (ty0 : Nat → FieldType) (hty : ∀ k, k < N → parseFieldDescriptor (T k).2.2.1 = some (ty0 k)) (hnm : ∀ a, a < N → ∀ b, b < N → a ≠ b → (T a).2.1 ≠ (T b).2.1) {x : Nat} {ty : FieldType} (hini : meth.name = "<init>") (hfin : (T k).2.2.2 = true) (hCo : (T k).1 = own) (hd : parseFieldDescriptor (T k).2.2.1 = some ty) (hn : narrow ty (.ref x) = .ref x) (hfit : fits ty (.ref x) = true) (hl : k < fs.length) (hdg : decode cc pc = .ok (.putfield index, 3)) (kk : ∀ (H1 : Heap) (locs1 : List Loc), zP E (ws.set q0 (a, .inr (ci, fs.set k (.ref x)))) H1 → va_D A (ws.set q0 (a, .inr (ci, fs.set k (.ref x)))) → va_S A s.heap H1 locs1 → W p l e R s m args below meth c H1 locs1 cells slots Q (F0 m (pc + 3) ls (rest))) : W p l e R s m args below meth c H locs cells slots Q (F0 m (pc) ls (.ref x :: .ref a :: rest)) := va_putF (D := E.1) S.1 S.2.1 S.2.2.2.2 hin ty0 hty hnm S.2.2.2.1 hK hP hD hS q0 he hc k hk (S.2.2.2.2 _ hlink) (fun _ h => h) hfin hini hCo hd hn hfit hl hdg kk
theorem z_iald (S : CallFix p m c cc nL s args Ts own) (hK : zK E s) (hP : zP E ws H) (q0 : Nat) {n : Nat} {f : Int → Int} (he : ws[q0]? = some (a, .inl (E.2.1, n, .inl (aI f)))) {i : Int} (hi : 0 ≤ i ∧ i < n ∧ n ≤ 2147483647) (hdg : decode cc pc = .ok (.iaload, 1)) (kk : W p l e R s m args below meth c H locs cells slots Q (F0 m (pc + 1) ls (.int (jI (f i)) :: rest))) : W p l e R s m args below meth c H locs cells slots Q (F0 m (pc) ls (.int (jI i) :: .ref a :: rest)) := va_iald (D := E.1) S.1 S.2.1 hK hP q0 0 he rfl (jI_inRow hi) hdg (by rw [aI_get (by omega)]; exact kk)
theorem z_zald (S : CallFix p m c cc nL s args Ts own) (hK : zK E s) (hP : zP E ws H) (q0 : Nat) {n : Nat} {f : Int → Int} (he : ws[q0]? = some (a, .inl (E.2.2.1, n, .inl (aI f)))) {i : Int} (hi : 0 ≤ i ∧ i < n ∧ n ≤ 2147483647) (hdg : decode cc pc = .ok (.baload, 1)) (kk : W p l e R s m args below meth c H locs cells slots Q (F0 m (pc + 1) ls (.int (jI (f i)) :: rest))) : W p l e R s m args below meth c H locs cells slots Q (F0 m (pc) ls (.int (jI i) :: .ref a :: rest)) := va_zald (D := E.1) S.1 S.2.1 hK hP q0 1 he rfl (jI_inRow hi) hdg (by rw [aI_get (by omega)]; exact kk)
theorem z_iast (S : CallFix p m c cc nL s args Ts own) (hK : zK E s) (hP : zP E ws H) (hD : va_D A ws) (hS : va_S A s.heap H locs) (q0 : Nat) {n : Nat} {f : Int → Int} (he : ws[q0]? = some (a, .inl (E.2.1, n, .inl (aI f)))) {i : Int} (hi : 0 ≤ i ∧ i < n ∧ n ≤ 2147483647) {v : Int} (hdg : decode cc pc = .ok (.iastore, 1)) (kk : ∀ (H1 : Heap) (locs1 : List Loc), zP E (ws.set q0 (a, .inl (E.2.1, n, .inl (aI (zu f i v))))) H1 → va_D A (ws.set q0 (a, .inl (E.2.1, n, .inl (aI (zu f i v))))) → va_S A s.heap H1 locs1 → W p l e R s m args below meth c H1 locs1 cells slots Q (F0 m (pc + 1) ls (rest))) : W p l e R s m args below meth c H locs cells slots Q (F0 m (pc) ls (.int (jI v) :: .int (jI i) :: .ref a :: rest)) := va_iast (D := E.1) S.1 S.2.1 hK hP hD hS q0 0 he rfl (jI_inRow hi) hdg (by rw [aI_set (by omega)]; exact kk)
theorem z_zast (S : CallFix p m c cc nL s args Ts own) (hK : zK E s) (hP : zP E ws H) (hD : va_D A ws) (hS : va_S A s.heap H locs) (q0 : Nat) {n : Nat} {f : Int → Int} (he : ws[q0]? = some (a, .inl (E.2.2.1, n, .inl (aI f)))) {i : Int} (hi : 0 ≤ i ∧ i < n ∧ n ≤ 2147483647) {v : Int} (hv : v = 0 ∨ v = 1) (hdg : decode cc pc = .ok (.bastore, 1)) (kk : ∀ (H1 : Heap) (locs1 : List Loc), zP E (ws.set q0 (a, .inl (E.2.2.1, n, .inl (aI (zu f i v))))) H1 → va_D A (ws.set q0 (a, .inl (E.2.2.1, n, .inl (aI (zu f i v))))) → va_S A s.heap H1 locs1 → W p l e R s m args below meth c H1 locs1 cells slots Q (F0 m (pc + 1) ls (rest))) : W p l e R s m args below meth c H locs cells slots Q (F0 m (pc) ls (.int (jI v) :: .int (jI i) :: .ref a :: rest)) := va_zast (D := E.1) S.1 S.2.1 hK hP hD hS q0 1 he rfl (jI_inRow hi) hdg (by rw [show vp_nar .boolean (jI v) = jI v by rcases hv with rfl | rfl <;> decide +kernel, aI_set (by omega)]; exact kk)
theorem z_qald (S : CallFix p m c cc nL s args Ts own) (hK : zK E s) (hP : zP E ws H) (q0 : Nat) {n : Nat} {f : Nat → Option Nat} (he : ws[q0]? = some (a, .inl (E.2.2.2, n, .inr (.inr (.inr (.inr f)))))) {i : Int} (hi : 0 ≤ i ∧ i < n ∧ n ≤ 2147483647) (hdg : decode cc pc = .ok (.aaload, 1)) (kk : W p l e R s m args below meth c H locs cells slots Q (F0 m (pc + 1) ls (va_rf (f i.toNat) :: rest))) : W p l e R s m args below meth c H locs cells slots Q (F0 m (pc) ls (.int (jI i) :: .ref a :: rest)) := va_aldq (D := E.1) S.1 S.2.1 hK hP q0 2 he rfl (jI_inRow hi) hdg (by rw [show (jI i).toNatClampNeg = i.toNat by have := jI_clamp (i := i) (by omega); omega]; exact kk)
theorem z_alen (S : CallFix p m c cc nL s args Ts own) (hK : zK E s) (hP : zP E ws H) (q0 : Nat) {n : Nat} {f : Int → Int} (he : ws[q0]? = some (a, .inl (E.2.1, n, .inl (aI f)))) (hdg : decode cc pc = .ok (.arraylength, 1)) (kk : W p l e R s m args below meth c H locs cells slots Q (F0 m (pc + 1) ls (.int (jI n) :: rest))) : W p l e R s m args below meth c H locs cells slots Q (F0 m (pc) ls (.ref a :: rest)) := va_alen (D := E.1) S.1 S.2.1 hK hP q0 0 he rfl (jI_nI n) hdg kk
theorem z_zlen (S : CallFix p m c cc nL s args Ts own) (hK : zK E s) (hP : zP E ws H) (q0 : Nat) {n : Nat} {f : Int → Int} (he : ws[q0]? = some (a, .inl (E.2.2.1, n, .inl (aI f)))) (hdg : decode cc pc = .ok (.arraylength, 1)) (kk : W p l e R s m args below meth c H locs cells slots Q (F0 m (pc + 1) ls (.int (jI n) :: rest))) : W p l e R s m args below meth c H locs cells slots Q (F0 m (pc) ls (.ref a :: rest)) := va_alen (D := E.1) S.1 S.2.1 hK hP q0 1 he rfl (jI_nI n) hdg kk
theorem z_qlen (S : CallFix p m c cc nL s args Ts own) (hK : zK E s) (hP : zP E ws H) (q0 : Nat) {n : Nat} {f : Nat → Option Nat} (he : ws[q0]? = some (a, .inl (E.2.2.2, n, .inr (.inr (.inr (.inr f)))))) (hdg : decode cc pc = .ok (.arraylength, 1)) (kk : W p l e R s m args below meth c H locs cells slots Q (F0 m (pc + 1) ls (.int (jI n) :: rest))) : W p l e R s m args below meth c H locs cells slots Q (F0 m (pc) ls (.ref a :: rest)) := va_alen (D := E.1) S.1 S.2.1 hK hP q0 2 he rfl (jI_nI n) hdg kk
theorem z_ifnull (S : CallFix p m c cc nL s args Ts own) {r : Option Nat} {off : Int} {tgt : Nat} (hdg : decode cc pc = .ok (.ifnull off, 3)) (ht : (pc : Int) + off = (tgt : Int)) (kt : r = none → W p l e R s m args below meth c H locs cells slots Q (F0 m (tgt) ls (rest))) (kf : ∀ x, r = some x → W p l e R s m args below meth c H locs cells slots Q (F0 m (pc + 3) ls (rest))) : W p l e R s m args below meth c H locs cells slots Q (F0 m (pc) ls (va_rf r :: rest)) := by
  cases r with
  | none => exact lv_ifnullN S.1 S.2.1 hdg ht (kt rfl)
  | some x => exact lv_ifnull S.1 S.2.1 hdg (kf x rfl)
theorem z_ifnonnull (S : CallFix p m c cc nL s args Ts own) {r : Option Nat} {off : Int} {tgt : Nat} (hdg : decode cc pc = .ok (.ifnonnull off, 3)) (ht : (pc : Int) + off = (tgt : Int)) (kt : ∀ x, r = some x → W p l e R s m args below meth c H locs cells slots Q (F0 m (tgt) ls (rest))) (kf : r = none → W p l e R s m args below meth c H locs cells slots Q (F0 m (pc + 3) ls (rest))) : W p l e R s m args below meth c H locs cells slots Q (F0 m (pc) ls (va_rf r :: rest)) := by
  cases r with
  | none => exact lv_ifnonnullN S.1 S.2.1 hdg (kf rfl)
  | some x => exact lv_ifnonnull S.1 S.2.1 hdg ht (kt x rfl)
end ZA
