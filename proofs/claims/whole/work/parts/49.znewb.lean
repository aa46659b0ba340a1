/-! methods that answer with an object of theirs -/
def zQMa {S : Type} (E : zE) (ws : va_W) (sz : Nat) (post : Nat → S → Prop) (ws' : S → va_W) : Array Value → State → Outcome → State → Prop := fun _ st oc t => (∃ (r : Nat) (u : S), oc = .returned (some (.ref r)) ∧ post r u ∧ zP E (ws' u) t.heap ∧ va_D (va_A ws sz) (ws' u)) ∧ va_F (va_A ws sz) st t
def zMa {S : Type} (l : Launch) (E : zE) (y : MethodName) (wsy : List Cond) (rm : Room) (av : List Value) (ws : va_W) (G : Heap → Prop) (post : Nat → S → Prop) (ws' : S → va_W) (mc ms : Nat) : Prop := ∀ sz, Met l y wsy rm (zPm E av ws sz G) (zQMa E ws sz post ws') mc ms (va_A ws sz)
section ZNF
variable {l : Launch} {E : zE} {y : MethodName} {wsy ws' : List Cond} {k : Nat} {av : List Value} {G : Heap → Prop} {cc : ByteArray} {maxL : Nat} {rt : FieldType} {own : String}
theorem zMa_of {cn : String} {S : Type} {ws : va_W} {post : Nat → S → Prop} {wsF : S → va_W} {mc ms : Nat} (hy : plainName y.cls = true) (hw : wsy = Cond.code y cc maxL (some (.object cn)) :: ws') (hlen : (lg_sl av).length ≤ maxL) (ho : y.cls = own)
    (body : ∀ (p : Program) (e : Env) (s : State) (m : MethodId) (args : Array Value) (below : List Frame) (meth : Method) (c : Code) (Q : State → Prop) (A : Nat → Prop), CallFix p m c cc maxL s args wsy own → zK E s → (∀ q, s.heap.size ≤ q → A q) → va_S A s.heap s.heap [] → zP E ws s.heap → va_D A ws → va_A ws s.heap.size = A → G s.heap → (∀ (r : Nat) (u : S) (H : Heap) (locs : List Loc), post r u → zP E (wsF u) H → va_D A (wsF u) → va_S A s.heap H locs → ∀ (pc : Nat) (ls : Array Slot), decode cc pc = .ok (.areturn, 1) → W p l e (zr k mc ms) s m args below meth c H locs mc ms Q (F0 m pc ls [.ref r])) → ∀ ls : Array Slot, lv_has ls maxL (lv_args 0 av) → W p l e (zr k mc ms) s m args below meth c s.heap [] 0 0 Q (F0 m 0 ls [])) : zMa l E y wsy (zr k mc ms) av ws G post wsF mc ms := by
  intro sz
  refine Met.ofW (cc := cc) (maxL := maxL) (ret := some (.object cn)) hy hw ?_
  intro p e s m args below meth c s₁ B hml hv
  obtain ⟨rfl, hsz, hP, hK, hD0, hG⟩ := hv
  have hr := B.returns
  have hlocks := B.notSynchronized
  subst hsz
  have hD := hD0.self (sz := s.heap.size)
  have S0 : CallFix p m c cc maxL s av.toArray wsy own := ⟨B.exec, B.bytes, hml, by rw [← ho]; exact findClass_of_methodNamed B.named, atoms_spec (ws := wsy) B.pre⟩
  have hl := lv_entry av (n := maxL) hlen
  rw [lg_entry_eq]
  have S := S0
  exact body p e s m _ below meth c _ _ S0 hK (fun q h => Or.inr h) va_S.rf hP hD rfl hG (fun r u H locs hp hP hD hS pc ls hd => W.aret (v := .ref r) S.1 S.2.1 hr (Or.inl ⟨cn, rfl⟩) (Or.inr ⟨r, rfl⟩) (fun t ht hW => ⟨⟨r, u, rfl, hp, by rw [ht]; exact hP, hD⟩, hS.F ht⟩) hS.2.2 hd) _ hl
end ZNF
section ZNG
variable {p : Program} {l : Launch} {e : Env} {R : Room} {s : State} {m : MethodId} {args : Array Value} {below : List Frame} {meth : Method} {c : Code} {H : Heap} {locs : List Loc} {cells slots : Nat} {Q : State → Prop}
variable {cc : ByteArray} {pc nL : Nat} {ls : Array Slot} {st rest : List Value} {Ts : List Cond} {own : String} {E : zE} {A : Nat → Prop} {av : Array Value} {mc ms : Nat}
theorem z_mac {S : Type} {post : Nat → S → Prop} {ws1 : S → va_W} {wc : va_W} (hr : va_Run p l e R s m args below meth c H locs cells slots mc ms (F0 m pc ls st) rest (zQMa E wc H.size post ws1 av) (va_A wc H.size)) {ws : va_W} (hD : va_D A ws) (hS : va_S A s.heap H locs) (hA : ∀ q, s.heap.size ≤ q → A q) (isC : List Nat) (hC : isC.map (fun i => ws[i]?) = wc.map some)
    (kk : ∀ (r : Nat) (u : S) (H1 : Heap) (locs1 : List Loc), post r u → zP E (ws1 u) H1 → va_D (va_A wc H.size) (ws1 u) → va_S A s.heap H1 locs1 → H.size ≤ H1.size → (∀ q : Nat, q < H.size → ¬ va_A wc H.size q → H1[q]? = H[q]?) → (∀ q, va_A wc H.size q → A q) → W p l e R s m args below meth c H1 locs1 (cells + mc) (slots + ms) Q (F0 m (pc + 3) ls (.ref r :: rest))) : W p l e R s m args below meth c H locs cells slots Q (F0 m (pc) ls (st)) := by
  have hF := va_free hD hS hA isC hC
  intro T hT X
  obtain ⟨v, st₀, t, T', L, h0, X', hL, e1, e2, ⟨⟨r, u, hv, hp, hP1, hD1⟩, hz, hk⟩, st⟩ := hr T hT X
  cases hv
  rw [h0] at hz hk
  rw [← e1] at hz hk hP1
  have hS1 : va_S A s.heap T'.heap (locs ++ L) := ⟨Nat.le_trans hS.1 hz, fun q h1 h2 => by rw [hk q (Nat.lt_of_lt_of_le h1 hS.1) (fun z => h2 (hF q z))]; exact hS.2.1 q h1 h2, fun q hq => (List.mem_append.mp hq).elim (fun h => hS.2.2 q h) (fun h => hF _ (hL q h))⟩
  obtain ⟨t2, a1, b1⟩ := kk r u T'.heap (locs ++ L) hp hP1 hD1 hS1 hz hk hF T' rfl X'
  exact ⟨t2, st t2 a1, b1⟩
theorem z_ma {S : Type} {post : Nat → S → Prop} {ws1 : S → va_W} {wc : va_W} (hr : va_Run p l e R s m args below meth c H locs cells slots mc ms (F0 m pc ls st) rest (zQMa E wc H.size post ws1 av) (va_A wc H.size)) {ws wr : va_W} (hP : zP E ws H) (hD : va_D A ws) (hS : va_S A s.heap H locs) (hA : ∀ q, s.heap.size ≤ q → A q) (isC isR isF : List Nat) (hC : isC.map (fun i => ws[i]?) = wc.map some) (hR : isR.map (fun i => ws[i]?) = wr.map some) (hn : va_nd isR = true) (hdis : ∀ i ∈ isR, i ∉ isC) (ws2 : S → va_W) (hnF : va_nd isF = true) (hF2 : ∀ u : S, isF.map (fun i => (wr ++ ws1 u)[i]?) = (ws2 u).map some)
    (kk : ∀ (r : Nat) (u : S) (H1 : Heap) (locs1 : List Loc), post r u → zP E (ws2 u) H1 → va_D A (ws2 u) → va_S A s.heap H1 locs1 → W p l e R s m args below meth c H1 locs1 (cells + mc) (slots + ms) Q (F0 m (pc + 3) ls (.ref r :: rest))) : W p l e R s m args below meth c H locs cells slots Q (F0 m (pc) ls (st)) := by
  refine z_mac hr hD hS hA isC hC (fun r u H1 locs1 hp hP1 hD1 hS1 hz hk hF => ?_)
  obtain ⟨h1, h2⟩ := z_join (S := S) hP hD isC isR isF hC hR hn hdis hk hF hP1 hD1 hnF (hF2 u)
  exact kk r u H1 locs1 hp h1 h2 hS1
theorem z_maw {S : Type} {post : Nat → S → Prop} {ws1 : S → va_W} {ws : va_W} (hr : va_Run p l e R s m args below meth c H locs cells slots mc ms (F0 m pc ls st) rest (zQMa E ws H.size post ws1 av) (va_A ws H.size)) (hD : va_D A ws) (hS : va_S A s.heap H locs) (hA : ∀ q, s.heap.size ≤ q → A q)
    (kk : ∀ (r : Nat) (u : S) (H1 : Heap) (locs1 : List Loc), post r u → zP E (ws1 u) H1 → va_D A (ws1 u) → va_S A s.heap H1 locs1 → W p l e R s m args below meth c H1 locs1 (cells + mc) (slots + ms) Q (F0 m (pc + 3) ls (.ref r :: rest))) : W p l e R s m args below meth c H locs cells slots Q (F0 m (pc) ls (st)) := by
  have hF : ∀ q, va_A ws H.size q → A q := fun q h => h.elim (fun ⟨k, e, h⟩ => hD.2 k (q, e) h) (fun h => hA q (Nat.le_trans hS.1 h))
  intro T hT X
  obtain ⟨v, st₀, t, T', L, h0, X', hL, e1, e2, ⟨⟨r, u, hv, hp, hP1, hD1⟩, hz, hk⟩, st⟩ := hr T hT X
  cases hv
  rw [h0] at hz hk
  rw [← e1] at hz hk hP1
  have hS1 : va_S A s.heap T'.heap (locs ++ L) := ⟨Nat.le_trans hS.1 hz, fun q h1 h2 => by rw [hk q (Nat.lt_of_lt_of_le h1 hS.1) (fun z => h2 (hF q z))]; exact hS.2.1 q h1 h2, fun q hq => (List.mem_append.mp hq).elim (fun h => hS.2.2 q h) (fun h => hF _ (hL q h))⟩
  obtain ⟨t2, a1, b1⟩ := kk r u T'.heap (locs ++ L) hp hP1 (hD1.weaken (fun k q _ h => hF q.1 h)) hS1 T' rfl X'
  exact ⟨t2, st t2 a1, b1⟩
end ZNG
