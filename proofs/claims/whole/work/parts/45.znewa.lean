def zPmA (E : zE) (av : List Value) (ws : va_W) (sz : Nat) (G : Heap → Prop) : Array Value → State → Prop := va_Pc av (fun U => (U.heap.size = sz ∧ zP E ws U.heap ∧ zK E U ∧ va_D (fun _ => True) ws ∧ G U.heap) ∧ va_AO "LivingNumbers$Named" U)
def zMvA {S : Type} (l : Launch) (E : zE) (y : MethodName) (wsy : List Cond) (rm : Room) (av : List Value) (ws : va_W) (G : Heap → Prop) (post : S → Prop) (ws' : S → va_W) (mc ms : Nat) : Prop := ∀ sz, Met l y wsy rm (zPmA E av ws sz G) (zQMv E ws sz post ws') mc ms (va_A ws sz)
theorem zPmA_blind {E : zE} {av : List Value} {ws : va_W} {sz : Nat} {G : Heap → Prop} : FrameBlind (zPmA E av ws sz G) := fun a U g mk q => ⟨q.1, ⟨q.2.1.1, q.2.1.2.1, va_K.moved (u := U) (U := U.calling g mk a) (Vm.Alike.refl U.vm) q.2.1.2.2.1, q.2.1.2.2.2⟩, va_AO.moved (u := U) (U := U.calling g mk a) (Vm.Alike.refl U.vm) q.2.2⟩
section ZNA
variable {l : Launch} {E : zE} {y : MethodName} {wsy ws' : List Cond} {k : Nat} {av : List Value} {G : Heap → Prop} {cc : ByteArray} {maxL : Nat} {rt : FieldType} {own : String}
theorem zMvA_of {S : Type} {ws : va_W} {post : S → Prop} {wsF : S → va_W} {mc ms : Nat} (hy : plainName y.cls = true) (hw : wsy = Cond.code y cc maxL (none) :: ws') (hlen : (lg_sl av).length ≤ maxL) (ho : y.cls = own)
    (body : ∀ (p : Program) (e : Env) (s : State) (m : MethodId) (args : Array Value) (below : List Frame) (meth : Method) (c : Code) (Q : State → Prop) (A : Nat → Prop), CallFix p m c cc maxL s args wsy own → zK E s → va_AO "LivingNumbers$Named" s → meth.name = y.name → (∀ q, s.heap.size ≤ q → A q) → va_S A s.heap s.heap [] → zP E ws s.heap → va_D A ws → va_A ws s.heap.size = A → G s.heap → (∀ (u : S) (H : Heap) (locs : List Loc), post u → zP E (wsF u) H → va_D A (wsF u) → va_S A s.heap H locs → ∀ (pc : Nat) (ls : Array Slot), decode cc pc = .ok (.return_, 1) → W p l e (zr k mc ms) s m args below meth c H locs mc ms Q (F0 m pc ls [])) → ∀ ls : Array Slot, lv_has ls maxL (lv_args 0 av) → W p l e (zr k mc ms) s m args below meth c s.heap [] 0 0 Q (F0 m 0 ls [])) : zMvA l E y wsy (zr k mc ms) av ws G post wsF mc ms := by
  intro sz
  refine Met.ofW (cc := cc) (maxL := maxL) (ret := none) hy hw ?_
  intro p e s m args below meth c s₁ B hml hv
  obtain ⟨rfl, ⟨hsz, hP, hK, hD0, hG⟩, hAO⟩ := hv
  have hr := B.returns
  have hlocks := B.notSynchronized
  subst hsz
  have hD := hD0.self (sz := s.heap.size)
  have S0 : CallFix p m c cc maxL s av.toArray wsy own := ⟨B.exec, B.bytes, hml, by rw [← ho]; exact findClass_of_methodNamed B.named, atoms_spec (ws := wsy) B.pre⟩
  have hl := lv_entry av (n := maxL) hlen
  rw [lg_entry_eq]
  have S := S0
  exact body p e s m _ below meth c _ _ S0 hK hAO (name_of_methodNamed B.named B.method).1 (fun q h => Or.inr h) va_S.rf hP hD rfl hG (fun u H locs hp hP hD hS pc ls hd => W.vret S.1 S.2.1 hr (fun t ht hW => ⟨⟨u, rfl, hp, by rw [ht]; exact hP, hD⟩, hS.F ht⟩) hS.2.2 hd) _ hl
end ZNA
section ZNB
variable {p : Program} {l : Launch} {e : Env} {R : Room} {s : State} {m : MethodId} {args : Array Value} {below : List Frame} {meth : Method} {c : Code} {H : Heap} {locs : List Loc} {cells slots : Nat} {Q : State → Prop}
variable {cc : ByteArray} {pc nL : Nat} {ls : Array Slot} {st rest : List Value} {Ts : List Cond} {own : String} {E : zE} {A : Nat → Prop} {av : Array Value} {mc ms : Nat}
theorem z_mIA (S : CallFix p m c cc nL s args Ts own) (hK : zK E s) (hAO : va_AO "LivingNumbers$Named" s) {y : MethodName} {wsy ws' : List Cond} {k : Nat} {As : List Value} {G : Heap → Prop} {Qc : Array Value → State → Outcome → State → Prop} {free : Addr → Prop} {bytes : ByteArray} {maxL n index : Nat} {b : Nat} {wc : va_W} (hM : Met l y wsy (zr k mc ms) (zPmA E (.ref b :: As) wc H.size G) Qc mc ms free) (hT : GoodIn Ts wsy) (hini : Cond.initialized y.cls ∈ Ts) (hlk : Cond.methodLink own index y ∈ Ts) (hinm : Cond.instanceMethod y ∈ Ts) (hy1 : y.name = "<init>") (hw : wsy = Cond.code y bytes maxL none :: ws') (hd : y.cls ≠ "java/lang/invoke/MethodHandle" ∧ y.cls ≠ "java/lang/invoke/VarHandle" ∧ (parseMethodDescriptor y.desc).map (fun d => d.parameters.length) = some n) (hR : k + 1 ≤ R.frames ∧ 8 + (maxL + 11) + 64 * k ≤ R.locals)  (hP : zP E wc H) (hD : va_D A wc) (hG : G H) (hl : ls.size = nL) (hn : As.length = n) (hroom : (rest.map fun v => v.category).sum ≤ 8) (hf : cells + mc ≤ R.cells ∧ slots + ms ≤ R.slots) (hst : st = As.reverse ++ .ref b :: rest) (hdg : decode cc pc = .ok (.invokespecial index, 3)) : va_Run p l e R s m args below meth c H locs cells slots mc ms (F0 m pc ls st) rest (Qc (Value.ref b :: As).toArray) free := va_runI S hM (cwI n S.2.2.2.2 hT hw rfl rfl (S.2.2.2.2 _ hini) (S.2.2.2.2 _ hlk) (S.2.2.2.2 _ hinm) hy1 hd ⟨hR.1, hR.2⟩) ⟨zPmA_blind, fun U hU hW => ⟨rfl, ⟨by rw [hU], by rw [hU]; exact hP, va_K.moved hW.alike hK, hD.weaken (fun _ _ _ _ => trivial), by rw [hU]; exact hG⟩, hAO.moved hW.alike⟩⟩ rfl hn hl hst (lv_room hroom) hdg hf
end ZNB
