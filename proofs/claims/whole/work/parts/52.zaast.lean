section ZAA
variable {p : Program} {l : Launch} {e : Env} {R : Room} {s : State} {m : MethodId} {args : Array Value} {below : List Frame} {meth : Method} {c : Code} {H : Heap} {locs : List Loc} {cells slots : Nat} {Q : State → Prop}
variable {cc : ByteArray} {pc nL : Nat} {ls : Array Slot} {st rest : List Value} {Ts : List Cond} {own : String} {E : zE} {A : Nat → Prop} {ws : va_W} {a : Nat}
/-- what storing one of the people asks of the tables -/
def zCs (s : State) : Prop := va_Nw (.castable "LivingNumbers$Foreign" "LivingNumbers$Named") s ∧ va_Nw (.castable "LivingNumbers$Lent" "LivingNumbers$Named") s
theorem zCs.warm {s U : State} (hW : s.WarmedH U.vm) (h : zCs s) : zCs U := ⟨h.1.warmC hW, h.2.warmC hW⟩
theorem zCs.same {u U : State} (h : u.vm = U.vm) (hZ : zCs u) : zCs U := ⟨hZ.1.same rfl h, hZ.2.same rfl h⟩
theorem zCs.any (hC : zCs s) (hK : zK E s) (hP : zP E ws H) {v q0 ci : Nat} {fs : List Value} (he : ws[q0]? = some (v, .inr (ci, fs))) (hci : ci = 3 ∨ ci = 2 ∨ ci = 1) : va_Any "LivingNumbers$Named" s H v := by
  rcases hci with rfl | rfl | rfl
  · exact va_rAny (r := (RX3, TX3, 4)) hK hP he rfl (fun comp c0 h1 h2 => vb_asgS comp c0 h1 h2)
  · exact va_rAny (r := (RX2, TX2, 4)) hK hP he rfl (fun comp c0 h1 h2 => vb_asgC hC.2 comp c0 h1 h2)
  · exact va_rAny (r := (RX1, TX1, 4)) hK hP he rfl (fun comp c0 h1 h2 => vb_asgC hC.1 comp c0 h1 h2)
end ZAA
