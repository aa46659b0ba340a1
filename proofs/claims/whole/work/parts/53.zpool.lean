/-! contracts that store new people: the start has the castable facts; worlds with a tail -/
def zPmC (E : zE) (av : List Value) (ws : va_W) (sz : Nat) (G : Heap → Prop) : Array Value → State → Prop := va_Pc av (fun U => (U.heap.size = sz ∧ zP E ws U.heap ∧ zK E U ∧ va_D (fun _ => True) ws ∧ G U.heap) ∧ zCs U)
def zMvC {S : Type} (l : Launch) (E : zE) (y : MethodName) (wsy : List Cond) (rm : Room) (av : List Value) (ws : va_W) (G : Heap → Prop) (post : S → Prop) (ws' : S → va_W) (mc ms : Nat) : Prop := ∀ sz, Met l y wsy rm (zPmC E av ws sz G) (zQMv E ws sz post ws') mc ms (va_A ws sz)
def zMiC {S : Type} (l : Launch) (E : zE) (y : MethodName) (wsy : List Cond) (rm : Room) (av : List Value) (ws : va_W) (G : Heap → Prop) (post : Int → S → Prop) (ws' : S → va_W) (mc ms : Nat) : Prop := ∀ sz, Met l y wsy rm (zPmC E av ws sz G) (zQMi E ws sz post ws') mc ms (va_A ws sz)
theorem zPmC_blind {E : zE} {av : List Value} {ws : va_W} {sz : Nat} {G : Heap → Prop} : FrameBlind (zPmC E av ws sz G) := fun a U g mk q => ⟨q.1, ⟨q.2.1.1, q.2.1.2.1, va_K.moved (u := U) (U := U.calling g mk a) (Vm.Alike.refl U.vm) q.2.1.2.2.1, q.2.1.2.2.2⟩, zCs.same (u := U) (U := U.calling g mk a) rfl q.2.2⟩
section ZPF
variable {l : Launch} {E : zE} {y : MethodName} {wsy ws' : List Cond} {k : Nat} {av : List Value} {G : Heap → Prop} {cc : ByteArray} {maxL : Nat} {rt : FieldType} {own : String}
theorem zMvC_of {S : Type} {ws : va_W} {post : S → Prop} {wsF : S → va_W} {mc ms : Nat} (hy : plainName y.cls = true) (hw : wsy = Cond.code y cc maxL (none) :: ws') (hlen : (lg_sl av).length ≤ maxL) (ho : y.cls = own)
    (body : ∀ (p : Program) (e : Env) (s : State) (m : MethodId) (args : Array Value) (below : List Frame) (meth : Method) (c : Code) (Q : State → Prop) (A : Nat → Prop), CallFix p m c cc maxL s args wsy own → zK E s → zCs s → (∀ q, s.heap.size ≤ q → A q) → va_S A s.heap s.heap [] → zP E ws s.heap → va_D A ws → va_A ws s.heap.size = A → G s.heap → (∀ (u : S) (H : Heap) (locs : List Loc), post u → zP E (wsF u) H → va_D A (wsF u) → va_S A s.heap H locs → ∀ (pc : Nat) (ls : Array Slot), decode cc pc = .ok (.return_, 1) → W p l e (zr k mc ms) s m args below meth c H locs mc ms Q (F0 m pc ls [])) → ∀ ls : Array Slot, lv_has ls maxL (lv_args 0 av) → W p l e (zr k mc ms) s m args below meth c s.heap [] 0 0 Q (F0 m 0 ls [])) : zMvC l E y wsy (zr k mc ms) av ws G post wsF mc ms := by
  intro sz
  refine Met.ofW (cc := cc) (maxL := maxL) (ret := none) hy hw ?_
  intro p e s m args below meth c s₁ B hml hv
  obtain ⟨rfl, ⟨hsz, hP, hK, hD0, hG⟩, hCs⟩ := hv
  have hr := B.returns
  have hlocks := B.notSynchronized
  subst hsz
  have hD := hD0.self (sz := s.heap.size)
  have S0 : CallFix p m c cc maxL s av.toArray wsy own := ⟨B.exec, B.bytes, hml, by rw [← ho]; exact findClass_of_methodNamed B.named, atoms_spec (ws := wsy) B.pre⟩
  have hl := lv_entry av (n := maxL) hlen
  rw [lg_entry_eq]
  have S := S0
  exact body p e s m _ below meth c _ _ S0 hK hCs (fun q h => Or.inr h) va_S.rf hP hD rfl hG (fun u H locs hp hP hD hS pc ls hd => W.vret S.1 S.2.1 hr (fun t ht hW => ⟨⟨u, rfl, hp, by rw [ht]; exact hP, hD⟩, hS.F ht⟩) hS.2.2 hd) _ hl
theorem zMiC_of {S : Type} {ws : va_W} {post : Int → S → Prop} {wsF : S → va_W} {mc ms : Nat} (hy : plainName y.cls = true) (hw : wsy = Cond.code y cc maxL (some .int) :: ws') (hlen : (lg_sl av).length ≤ maxL) (ho : y.cls = own)
    (body : ∀ (p : Program) (e : Env) (s : State) (m : MethodId) (args : Array Value) (below : List Frame) (meth : Method) (c : Code) (Q : State → Prop) (A : Nat → Prop), CallFix p m c cc maxL s args wsy own → zK E s → zCs s → (∀ q, s.heap.size ≤ q → A q) → va_S A s.heap s.heap [] → zP E ws s.heap → va_D A ws → va_A ws s.heap.size = A → G s.heap → (∀ (r : Int) (u : S) (H : Heap) (locs : List Loc), post r u → zP E (wsF u) H → va_D A (wsF u) → va_S A s.heap H locs → ∀ (pc : Nat) (ls : Array Slot), decode cc pc = .ok (.ireturn, 1) → W p l e (zr k mc ms) s m args below meth c H locs mc ms Q (F0 m pc ls [.int (jI r)])) → ∀ ls : Array Slot, lv_has ls maxL (lv_args 0 av) → W p l e (zr k mc ms) s m args below meth c s.heap [] 0 0 Q (F0 m 0 ls [])) : zMiC l E y wsy (zr k mc ms) av ws G post wsF mc ms := by
  intro sz
  refine Met.ofW (cc := cc) (maxL := maxL) (ret := some .int) hy hw ?_
  intro p e s m args below meth c s₁ B hml hv
  obtain ⟨rfl, ⟨hsz, hP, hK, hD0, hG⟩, hCs⟩ := hv
  have hr := B.returns
  have hlocks := B.notSynchronized
  subst hsz
  have hD := hD0.self (sz := s.heap.size)
  have S0 : CallFix p m c cc maxL s av.toArray wsy own := ⟨B.exec, B.bytes, hml, by rw [← ho]; exact findClass_of_methodNamed B.named, atoms_spec (ws := wsy) B.pre⟩
  have hl := lv_entry av (n := maxL) hlen
  rw [lg_entry_eq]
  have S := S0
  exact body p e s m _ below meth c _ _ S0 hK hCs (fun q h => Or.inr h) va_S.rf hP hD rfl hG (fun r u H locs hp hP hD hS pc ls hd => W.iret (v := jI r) S.1 S.2.1 hr (fun t ht hW => ⟨⟨r, u, rfl, hp, by rw [ht]; exact hP, hD⟩, hS.F ht⟩) hS.2.2 hd) _ hl
end ZPF
section ZPG
variable {p : Program} {l : Launch} {e : Env} {R : Room} {s : State} {m : MethodId} {args : Array Value} {below : List Frame} {meth : Method} {c : Code} {H : Heap} {locs : List Loc} {cells slots : Nat} {Q : State → Prop}
variable {cc : ByteArray} {pc nL : Nat} {ls : Array Slot} {st rest : List Value} {Ts : List Cond} {own : String} {E : zE} {A : Nat → Prop} {av : Array Value} {mc ms : Nat}
theorem z_mVC (S : CallFix p m c cc nL s args Ts own) (hK : zK E s) (hCs : zCs s) {y : MethodName} {wsy ws' : List Cond} {k : Nat} {As : List Value} {G : Heap → Prop} {Qc : Array Value → State → Outcome → State → Prop} {free : Addr → Prop} {bytes : ByteArray} {maxL n index : Nat} {ret : Option FieldType} {C : String} {b : Nat} {wc : va_W} (hM : Met l y wsy (zr k mc ms) (zPmC E (.ref b :: As) wc H.size G) Qc mc ms free) (hT : GoodIn Ts (wsV own index C y wsy)) (hw : wsy = Cond.code y bytes maxL ret :: ws') (hd : y.cls = C ∧ y.cls ≠ "java/lang/invoke/MethodHandle" ∧ y.cls ≠ "java/lang/invoke/VarHandle" ∧ (parseMethodDescriptor y.desc).map (fun d => d.parameters.length) = some n) (hR : k + 1 ≤ R.frames ∧ 8 + (maxL + 11) + 64 * k ≤ R.locals) (hrc : ∃ cellB : Cell, H[b]? = some cellB ∧ cellB.vm.isStatics = false ∧ s.vm.findClass C = some cellB.cls) (hP : zP E wc H) (hD : va_D A wc) (hG : G H) (hl : ls.size = nL) (hn : As.length = n) (hroom : (rest.map fun v => v.category).sum ≤ 8) (hf : cells + mc ≤ R.cells ∧ slots + ms ≤ R.slots) (hst : st = As.reverse ++ .ref b :: rest) (hdg : decode cc pc = .ok (.invokevirtual index, 3)) : va_Run p l e R s m args below meth c H locs cells slots mc ms (F0 m pc ls st) rest (Qc (Value.ref b :: As).toArray) free := va_runV S hM (cwV n S.2.2.2.2 hT hw rfl rfl hd ⟨hR.1, hR.2⟩) ⟨zPmC_blind, hrc, fun U hU hW => ⟨rfl, ⟨by rw [hU], by rw [hU]; exact hP, va_K.moved hW.alike hK, hD.weaken (fun _ _ _ _ => trivial), by rw [hU]; exact hG⟩, hCs.warm hW⟩⟩ rfl hn hl hst (lv_room hroom) hdg hf
/-- the cells of a world out of two parts -/
theorem zPl {ws ws' : va_W} (h : zP E (ws ++ ws') H) : zP E ws H := fun k q hq => h k q (by rw [List.getElem?_append_left (List.getElem?_eq_some_iff.mp hq).1]; exact hq)
theorem zPr {ws ws' : va_W} (h : zP E (ws ++ ws') H) : zP E ws' H := fun k q hq => h (ws.length + k) q (by rw [List.getElem?_append_right (Nat.le_add_right _ _), Nat.add_sub_cancel_left]; exact hq)
theorem zDl {ws ws' : va_W} (h : va_D A (ws ++ ws')) : va_D A ws := ⟨fun i j p q hi hj e => h.1 i j p q (by rw [List.getElem?_append_left (List.getElem?_eq_some_iff.mp hi).1]; exact hi) (by rw [List.getElem?_append_left (List.getElem?_eq_some_iff.mp hj).1]; exact hj) e, fun k q hq => h.2 k q (by rw [List.getElem?_append_left (List.getElem?_eq_some_iff.mp hq).1]; exact hq)⟩
theorem zDr {ws ws' : va_W} (h : va_D A (ws ++ ws')) : va_D A ws' := ⟨fun i j p q hi hj e => by
  have := h.1 (ws.length + i) (ws.length + j) p q (by rw [List.getElem?_append_right (Nat.le_add_right _ _), Nat.add_sub_cancel_left]; exact hi) (by rw [List.getElem?_append_right (Nat.le_add_right _ _), Nat.add_sub_cancel_left]; exact hj) e
  omega, fun k q hq => h.2 (ws.length + k) q (by rw [List.getElem?_append_right (Nat.le_add_right _ _), Nat.add_sub_cancel_left]; exact hq)⟩
theorem zDx {ws ws' : va_W} (h : va_D A (ws ++ ws')) {i j : Nat} {p q : Nat × va_E} (hi : ws[i]? = some p) (hj : ws'[j]? = some q) : p.1 ≠ q.1 := fun e => by
  have := h.1 i (ws.length + j) p q (by rw [List.getElem?_append_left (List.getElem?_eq_some_iff.mp hi).1]; exact hi) (by rw [List.getElem?_append_right (Nat.le_add_right _ _), Nat.add_sub_cancel_left]; exact hj) e
  have := (List.getElem?_eq_some_iff.mp hi).1
  omega
/-- a part of the world was changed by a call, the parts beside it were not -/
theorem z_seg {L wc Rr w1 : va_W} {H1 : Heap} (hP : zP E (L ++ (wc ++ Rr)) H) (hD : va_D A (L ++ (wc ++ Rr))) (hk : ∀ q : Nat, q < H.size → ¬ va_A wc H.size q → H1[q]? = H[q]?) (hF : ∀ q, va_A wc H.size q → A q) (hP1 : zP E w1 H1) (hD1 : va_D (va_A wc H.size) w1) : zP E (L ++ (w1 ++ Rr)) H1 ∧ va_D A (L ++ (w1 ++ Rr)) := by
  have aL : ∀ (k : Nat) (q : Nat × va_E), L[k]? = some q → q.1 < H.size ∧ ¬ va_A wc H.size q.1 := fun k q hq => by
    have hl := (zPl hP k q hq).lt
    refine ⟨hl, ?_⟩
    rintro (⟨j, x, hj⟩ | hj)
    · exact zDx (zDl (ws := L ++ wc) (ws' := Rr) (by rw [List.append_assoc]; exact hD)) hq hj rfl
    · omega
  have aR : ∀ (k : Nat) (q : Nat × va_E), Rr[k]? = some q → q.1 < H.size ∧ ¬ va_A wc H.size q.1 := fun k q hq => by
    have hl := (zPr (zPr hP) k q hq).lt
    refine ⟨hl, ?_⟩
    rintro (⟨j, x, hj⟩ | hj)
    · exact zDx (zDr hD) hj hq rfl
    · omega
  refine ⟨va_P.app (fun k q hq => (zPl hP k q hq).kept (hk q.1 (aL k q hq).1 (aL k q hq).2)) (va_P.app hP1 (fun k q hq => (zPr (zPr hP) k q hq).kept (hk q.1 (aR k q hq).1 (aR k q hq).2))), ?_⟩
  refine va_D.app (zDl hD) (va_D.app (hD1.weaken (fun k q _ h => hF q.1 h)) (zDr (zDr hD)) (fun i j x y hx hy hxy => (aR j y hy).2 (by rw [← hxy]; exact hD1.2 i x hx))) (fun i j x y hx hy hxy => ?_)
  by_cases h : j < w1.length
  · rw [List.getElem?_append_left h] at hy
    exact (aL i x hx).2 (by rw [hxy]; exact hD1.2 j y hy)
  · rw [List.getElem?_append_right (Nat.not_lt.mp h)] at hy
    exact zDx hD hx (show (wc ++ Rr)[wc.length + (j - w1.length)]? = some y by rw [List.getElem?_append_right (Nat.le_add_right _ _), Nat.add_sub_cancel_left]; exact hy) hxy
theorem zFree {L wc Rr : va_W} (hD : va_D A (L ++ (wc ++ Rr))) (hS : va_S A s.heap H locs) (hA : ∀ q, s.heap.size ≤ q → A q) : ∀ q, va_A wc H.size q → A q := fun q h => h.elim (fun ⟨k, x, h⟩ => (zDl (zDr hD)).2 k (q, x) h) (fun h => hA q (Nat.le_trans hS.1 h))
theorem z_si {S : Type} {post : Int → S → Prop} {ws1 : S → va_W} {L wc Rr : va_W} (hr : va_Run p l e R s m args below meth c H locs cells slots mc ms (F0 m pc ls st) rest (zQMi E wc H.size post ws1 av) (va_A wc H.size)) (hP : zP E (L ++ (wc ++ Rr)) H) (hD : va_D A (L ++ (wc ++ Rr))) (hS : va_S A s.heap H locs) (hA : ∀ q, s.heap.size ≤ q → A q)
    (kk : ∀ (r : Int) (u : S) (H1 : Heap) (locs1 : List Loc), post r u → zP E (L ++ (ws1 u ++ Rr)) H1 → va_D A (L ++ (ws1 u ++ Rr)) → va_S A s.heap H1 locs1 → W p l e R s m args below meth c H1 locs1 (cells + mc) (slots + ms) Q (F0 m (pc + 3) ls (.int (jI r) :: rest))) : W p l e R s m args below meth c H locs cells slots Q (F0 m (pc) ls (st)) := by
  have hF := zFree hD hS hA
  intro T hT X
  obtain ⟨v, st₀, t, T', L, h0, X', hL, e1, e2, ⟨⟨r, u, hv, hp, hP1, hD1⟩, hz, hk⟩, st⟩ := hr T hT X
  cases hv
  rw [h0] at hz hk
  rw [← e1] at hz hk hP1
  have hS1 : va_S A s.heap T'.heap (locs ++ L) := ⟨Nat.le_trans hS.1 hz, fun q h1 h2 => by rw [hk q (Nat.lt_of_lt_of_le h1 hS.1) (fun z => h2 (hF q z))]; exact hS.2.1 q h1 h2, fun q hq => (List.mem_append.mp hq).elim (fun h => hS.2.2 q h) (fun h => hF _ (hL q h))⟩
  obtain ⟨g1, g2⟩ := z_seg hP hD hk hF hP1 hD1
  obtain ⟨t2, a1, b1⟩ := kk r u T'.heap (locs ++ L) hp g1 g2 hS1 T' rfl X'
  exact ⟨t2, st t2 a1, b1⟩
theorem z_sl {S : Type} {post : Int → S → Prop} {ws1 : S → va_W} {L wc Rr : va_W} (hr : va_Run p l e R s m args below meth c H locs cells slots mc ms (F0 m pc ls st) rest (zQMl E wc H.size post ws1 av) (va_A wc H.size)) (hP : zP E (L ++ (wc ++ Rr)) H) (hD : va_D A (L ++ (wc ++ Rr))) (hS : va_S A s.heap H locs) (hA : ∀ q, s.heap.size ≤ q → A q)
    (kk : ∀ (r : Int) (u : S) (H1 : Heap) (locs1 : List Loc), post r u → zP E (L ++ (ws1 u ++ Rr)) H1 → va_D A (L ++ (ws1 u ++ Rr)) → va_S A s.heap H1 locs1 → W p l e R s m args below meth c H1 locs1 (cells + mc) (slots + ms) Q (F0 m (pc + 3) ls (.long (jL r) :: rest))) : W p l e R s m args below meth c H locs cells slots Q (F0 m (pc) ls (st)) := by
  have hF := zFree hD hS hA
  intro T hT X
  obtain ⟨v, st₀, t, T', L, h0, X', hL, e1, e2, ⟨⟨r, u, hv, hp, hP1, hD1⟩, hz, hk⟩, st⟩ := hr T hT X
  cases hv
  rw [h0] at hz hk
  rw [← e1] at hz hk hP1
  have hS1 : va_S A s.heap T'.heap (locs ++ L) := ⟨Nat.le_trans hS.1 hz, fun q h1 h2 => by rw [hk q (Nat.lt_of_lt_of_le h1 hS.1) (fun z => h2 (hF q z))]; exact hS.2.1 q h1 h2, fun q hq => (List.mem_append.mp hq).elim (fun h => hS.2.2 q h) (fun h => hF _ (hL q h))⟩
  obtain ⟨g1, g2⟩ := z_seg hP hD hk hF hP1 hD1
  obtain ⟨t2, a1, b1⟩ := kk r u T'.heap (locs ++ L) hp g1 g2 hS1 T' rfl X'
  exact ⟨t2, st t2 a1, b1⟩
theorem z_sv {S : Type} {post : S → Prop} {ws1 : S → va_W} {L wc Rr : va_W} (hr : va_Run p l e R s m args below meth c H locs cells slots mc ms (F0 m pc ls st) rest (zQMv E wc H.size post ws1 av) (va_A wc H.size)) (hP : zP E (L ++ (wc ++ Rr)) H) (hD : va_D A (L ++ (wc ++ Rr))) (hS : va_S A s.heap H locs) (hA : ∀ q, s.heap.size ≤ q → A q)
    (kk : ∀ (u : S) (H1 : Heap) (locs1 : List Loc), post u → zP E (L ++ (ws1 u ++ Rr)) H1 → va_D A (L ++ (ws1 u ++ Rr)) → va_S A s.heap H1 locs1 → W p l e R s m args below meth c H1 locs1 (cells + mc) (slots + ms) Q (F0 m (pc + 3) ls (rest))) : W p l e R s m args below meth c H locs cells slots Q (F0 m (pc) ls (st)) := by
  have hF := zFree hD hS hA
  intro T hT X
  obtain ⟨v, st₀, t, T', L, h0, X', hL, e1, e2, ⟨⟨u, hv, hp, hP1, hD1⟩, hz, hk⟩, st⟩ := hr T hT X
  cases hv
  rw [h0] at hz hk
  rw [← e1] at hz hk hP1
  have hS1 : va_S A s.heap T'.heap (locs ++ L) := ⟨Nat.le_trans hS.1 hz, fun q h1 h2 => by rw [hk q (Nat.lt_of_lt_of_le h1 hS.1) (fun z => h2 (hF q z))]; exact hS.2.1 q h1 h2, fun q hq => (List.mem_append.mp hq).elim (fun h => hS.2.2 q h) (fun h => hF _ (hL q h))⟩
  obtain ⟨g1, g2⟩ := z_seg hP hD hk hF hP1 hD1
  obtain ⟨t2, a1, b1⟩ := kk u T'.heap (locs ++ L) hp g1 g2 hS1 T' rfl X'
  exact ⟨t2, st t2 a1, b1⟩
theorem z_sa {S : Type} {post : Nat → S → Prop} {ws1 : S → va_W} {L wc Rr : va_W} (hr : va_Run p l e R s m args below meth c H locs cells slots mc ms (F0 m pc ls st) rest (zQMa E wc H.size post ws1 av) (va_A wc H.size)) (hP : zP E (L ++ (wc ++ Rr)) H) (hD : va_D A (L ++ (wc ++ Rr))) (hS : va_S A s.heap H locs) (hA : ∀ q, s.heap.size ≤ q → A q)
    (kk : ∀ (r : Nat) (u : S) (H1 : Heap) (locs1 : List Loc), post r u → zP E (L ++ (ws1 u ++ Rr)) H1 → va_D A (L ++ (ws1 u ++ Rr)) → va_S A s.heap H1 locs1 → W p l e R s m args below meth c H1 locs1 (cells + mc) (slots + ms) Q (F0 m (pc + 3) ls (.ref r :: rest))) : W p l e R s m args below meth c H locs cells slots Q (F0 m (pc) ls (st)) := by
  have hF := zFree hD hS hA
  intro T hT X
  obtain ⟨v, st₀, t, T', L, h0, X', hL, e1, e2, ⟨⟨r, u, hv, hp, hP1, hD1⟩, hz, hk⟩, st⟩ := hr T hT X
  cases hv
  rw [h0] at hz hk
  rw [← e1] at hz hk hP1
  have hS1 : va_S A s.heap T'.heap (locs ++ L) := ⟨Nat.le_trans hS.1 hz, fun q h1 h2 => by rw [hk q (Nat.lt_of_lt_of_le h1 hS.1) (fun z => h2 (hF q z))]; exact hS.2.1 q h1 h2, fun q hq => (List.mem_append.mp hq).elim (fun h => hS.2.2 q h) (fun h => hF _ (hL q h))⟩
  obtain ⟨g1, g2⟩ := z_seg hP hD hk hF hP1 hD1
  obtain ⟨t2, a1, b1⟩ := kk r u T'.heap (locs ++ L) hp g1 g2 hS1 T' rfl X'
  exact ⟨t2, st t2 a1, b1⟩
end ZPG
