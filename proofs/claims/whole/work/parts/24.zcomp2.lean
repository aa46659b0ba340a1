section ZCopy
variable {p : Program} {l : Launch} {e : Env} {R : Room} {s : State} {m : MethodId} {args : Array Value} {below : List Frame} {meth : Method} {c : Code} {H : Heap} {locs : List Loc} {cells slots : Nat} {Q : State → Prop}
variable {cc : ByteArray} {pc nL : Nat} {ls : Array Slot} {rest : List Value} {Ts : List Cond} {own : String} {E : zE} {ws : va_W} {A : Nat → Prop} {a : Nat}
theorem z_acopy (S : CallFix p m c cc nL s args Ts own) (hK : zK E s) (hP : zP E ws H) (hD : va_D A ws) (hS : va_S A s.heap H locs) (q0 : Nat) {n : Nat} {f : Int → Int} (he : ws[q0]? = some (a, .inl (E.2.1, n, .inl (aI f)))) {idx : Nat} {sp dp k : Int} (hr : (0 ≤ sp ∧ 0 ≤ dp ∧ 0 ≤ k) ∧ sp + k ≤ n ∧ dp + k ≤ n ∧ n ≤ 2147483647) (h1 : Cond.methodLink own idx arraycopyName ∈ Ts) (h2 : Cond.native arraycopyName ∈ Ts) (h3 : Cond.static arraycopyName ∈ Ts) (h4 : Cond.initialized "java/lang/System" ∈ Ts) (hl : ls.size = nL) (hf : 1 ≤ R.frames) (hlo : (rest.map fun v => v.category).sum + (nativeFrameWords "java/lang/System" "arraycopy" 5 + 11) ≤ R.locals) (hdg : decode cc pc = .ok (.invokestatic idx, 3))
    (kk : ∀ (H1 : Heap) (locs1 : List Loc), zP E (ws.set q0 (a, .inl (E.2.1, n, .inl (aI (zcpy f f sp dp k))))) H1 → va_D A (ws.set q0 (a, .inl (E.2.1, n, .inl (aI (zcpy f f sp dp k))))) → va_S A s.heap H1 locs1 → W p l e R s m args below meth c H1 locs1 cells slots Q (F0 m (pc + 3) ls rest)) : W p l e R s m args below meth c H locs cells slots Q (F0 m pc ls (.int (jI k) :: .int (jI dp) :: .ref a :: .int (jI sp) :: .ref a :: rest)) := by
  have c1 := jI_clamp (i := sp) (by omega)
  have c2 := jI_clamp (i := dp) (by omega)
  have c3 := jI_clamp (i := k) (by omega)
  have nn : ∀ z : Int, 0 ≤ z ∧ z ≤ 2147483647 → ¬ jI z < 0 := fun z hz q => by
    have := (jI_lt (a := z) (b := 0) (by omega) (by omega)).mp q
    omega
  have e : va_cpy (aI f) (aI f) (jI sp).toNatClampNeg (jI dp).toNatClampNeg (jI k).toNatClampNeg = aI (zcpy f f sp dp k) := by
    funext j
    unfold va_cpy
    show _ = jI (zcpy f f sp dp k (j : Int))
    unfold zcpy
    by_cases h : dp ≤ (j : Int) ∧ (j : Int) < dp + k
    · rw [if_pos (by omega), if_pos h]
      show jI (f _) = jI (f _)
      congr 2
      omega
    · rw [if_neg (by omega), if_neg h]
      rfl
  refine va_copyi (D := E.1) S.1 S.2.1 (S.2.2.1.trans hl.symm) S.2.2.2.1 (S.2.2.2.2 _ h1) (S.2.2.2.2 _ h2) (S.2.2.2.2 _ h3) (S.2.2.2.2 _ h4) hK hP hD hS q0 q0 0 0 he he rfl rfl rfl (nn sp (by omega)) (nn dp (by omega)) (nn k (by omega)) (by omega) (by omega) (fun i _ => rfl) hf hlo hdg ?_
  rw [e]
  exact kk
end ZCopy
def zLs (la si : Int → Int) : Prop := ∀ k, 0 ≤ k → k ≤ 3 → (-1 ≤ la k ∧ la k ≤ 2) ∧ (0 ≤ si k ∧ si k ≤ 100)
theorem zLs_renew {la si : Int → Int} {k lane n : Int} (h : zLs la si) (hl : -1 ≤ lane ∧ lane ≤ 2) (hn : 0 ≤ n ∧ n ≤ 100) : zLs (zu la k lane) (zu si k n) := by
  intro y h1 h2
  by_cases e : y = k
  · rw [zu_e e, zu_e e]; omega
  · rw [zu_n e, zu_n e]; exact h y h1 h2
theorem zcut_0 (lane : Int) : zcut lane 0 = 0 := by
  unfold zcut
  by_cases h : lane = 0
  · rw [if_pos h]; rfl
  · rw [if_neg h]
    by_cases h2 : lane = 1
    · rw [if_pos h2]; rfl
    · rw [if_neg h2]
