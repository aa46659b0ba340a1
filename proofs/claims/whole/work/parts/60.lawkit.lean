/-! the law: people kept in the world's tail; what both sides hold between two calls -/
def zHas (n : Int) (an : Int → Nat) (kd vl nb fr tl : Int → Int) (pl : va_W) : Prop := ∀ x, 0 ≤ x → x < n → ∃ k : Nat, pl[k]? = some (an x, .inr (zkc (kd x), [.int (jI (vl x)), .int (jI (nb x)), .int (jI (fr x)), .int (jI (tl x))]))
theorem zHas_nm {E : zE} {H : Heap} {n : Int} {an : Int → Nat} {kd vl nb fr tl : Int → Int} {pl : va_W} (h : zHas n an kd vl nb fr tl pl) (hP : zP E pl H) : zNm E n an kd vl nb fr tl H := fun x h1 h2 => by
  obtain ⟨k, hk⟩ := h x h1 h2
  intro j q hq
  have hj : j = 0 := by
    have := (List.getElem?_eq_some_iff.mp hq).1
    simpa using this
  subst hj
  cases hq
  exact hP k _ hk
theorem zHas_ap {A : Nat → Prop} {n : Int} {an : Int → Nat} {kd vl nb fr tl : Int → Int} {ws pl : va_W} (h : zHas n an kd vl nb fr tl pl) (hD : va_D A (ws ++ pl)) : zAp ws n an := fun x h1 h2 k e hk => by
  obtain ⟨j, hj⟩ := h x h1 h2
  exact zDx hD hk hj rfl
theorem zHas_app {n : Int} {an : Int → Nat} {kd vl nb fr tl : Int → Int} {pl : va_W} (h : zHas n an kd vl nb fr tl pl) (pl1 : va_W) : zHas n an kd vl nb fr tl (pl1 ++ pl) := fun x h1 h2 => by
  obtain ⟨k, hk⟩ := h x h1 h2
  exact ⟨pl1.length + k, by rw [List.getElem?_append_right (Nat.le_add_right _ _), Nat.add_sub_cancel_left]; exact hk⟩
theorem zHas_new {t : Int → Int} {n : Int} {an : Int → Nat} {kd vl nb fr tl : Int → Int} {pl1 : va_W} (h : zObs n an t pl1) (hr : zRead t n kd vl nb fr tl) (pl : va_W) : zHas n an kd vl nb fr tl (pl1 ++ pl) := fun x h1 h2 => by
  obtain ⟨k, hk⟩ := h x h1 h2
  obtain ⟨e1, e2, e3, e4, e5⟩ := hr x h1 h2
  refine ⟨k, ?_⟩
  rw [List.getElem?_append_left (List.getElem?_eq_some_iff.mp hk).1, e1, e2, e3, e4, e5]
  exact hk
theorem zPeo_read {t : Int → Int} {n N : Int} {kd vl nb fr tl : Int → Int} (hr : zRead t N kd vl nb fr tl) (hg : zAllGo t n) (hn : n = 9 * N - 1) : zPeo N kd vl nb fr tl := fun x h1 h2 => by
  obtain ⟨e1, e2, e3, e4, e5⟩ := hr x h1 h2
  have g : ∀ k, 0 ≤ k → k ≤ 7 → zG t (9 * x) k := fun k k1 k2 => (zGo_at (p := 9 * x + k) rfl (by omega) (by omega)).mp (hg (9 * x + k) (by omega) (by omega))
  have g1 := (g 1 (by omega) (by omega)).2.1 rfl
  have g2 := (g 2 (by omega) (by omega)).2.2.1 rfl
  have g3 := (g 3 (by omega) (by omega)).2.2.2.1 rfl
  have g4 := (g 4 (by omega) (by omega)).2.2.2.2.1 rfl
  have g5 := (g 5 (by omega) (by omega)).2.2.2.2.2.1 rfl
  have g6 := (g 6 (by omega) (by omega)).2.2.2.2.2.2.1 rfl
  have g7 := (g 7 (by omega) (by omega)).2.2.2.2.2.2.2.1 rfl
  have hk : 0 ≤ zKd t x ∧ zKd t x ≤ 2 := by
    unfold zKd
    split
    · omega
    · split <;> omega
  unfold zVl at e2
  unfold zNb at e3
  unfold zFr at e4
  unfold zTl at e5
  rw [e1, e2, e3, e4, e5]
  exact ⟨hk, by omega, by omega, by omega, by omega⟩
theorem zRoll_both {ss sl ce : Int → Int} {k lane i cn r1 f1 ln2 r2 f2 n n1 n2 : Int} {on on1 : Nat → Option Nat} {an an1 : Int → Nat} {pl1 : va_W} {kd vl nb fr tl kd2 vl2 nb2 fr2 tl2 : Int → Int} (h1 : zRollC ss sl ce k lane i cn r1 f1 ln2 n on n1 on1 an1 pl1) (h2 : zA_roll ss sl ce k lane i cn r2 f2 n kd vl nb fr tl n2 kd2 vl2 nb2 fr2 tl2) (hp : 0 ≤ n ∧ n ≤ 10) (hon : zOns n on an) (hpe : zPeo n kd vl nb fr tl) : (r1 = r2 ∧ f1 = f2 ∧ n1 = n2) ∧ (0 ≤ n1 ∧ n1 ≤ 10) ∧ ∃ an2 : Int → Nat, zOns n1 on1 an2 ∧ zPeo n1 kd2 vl2 nb2 fr2 tl2 ∧ ∀ pl, zHas n an kd vl nb fr tl pl → zHas n1 an2 kd2 vl2 nb2 fr2 tl2 (pl1 ++ pl) := by
  obtain ⟨b, g, hb, h3⟩ := h1
  obtain ⟨b', g', hb', h3'⟩ := h2
  obtain ⟨rfl, rfl⟩ := zBar_one hb hb'
  rcases h3 with ⟨x1, x2, x3, x4, x5, x6⟩ | ⟨x1, x2, p, x3, x4⟩ <;> rcases h3' with ⟨y1, y2, y3, y4, y5, y6, y7, y8, y9⟩ | ⟨y1, y2, p', y3, y4⟩
  · subst x4; subst x5; subst x6; subst y4; subst y5; subst y6; subst y7; subst y8; subst y9
    exact ⟨⟨by omega, by omega, rfl⟩, hp, an, hon, hpe, fun pl h => h⟩
  · exfalso; clear y3 y4; omega
  · exfalso; clear x3 x4; omega
  · have hpp := zParse_one x3 y3
    subst hpp
    rcases x4 with ⟨z1, z2, z3, z4, z5⟩ | ⟨z1, z2, z3, z4, z5, z6⟩ <;> rcases y4 with ⟨w1, w2, w3, w4, w5, w6, w7, w8⟩ | ⟨w1, w2, w3, w4, w5⟩
    · subst z3; subst z4; subst z5; subst w3; subst w4; subst w5; subst w6; subst w7; subst w8
      exact ⟨⟨by omega, by omega, rfl⟩, hp, an, hon, hpe, fun pl h => h⟩
    · exfalso; omega
    · exfalso; omega
    · have e : n1 = n2 := by omega
      subst e
      have hg : zAllGo (fun j => ce (100 * k + i + j)) cn := by
        rcases x3 with ⟨q1, q2, q3⟩ | ⟨q, q1, q2, q3, q4⟩ | ⟨q1, q2, q3⟩
        · exact q3
        · exfalso
          unfold zSec at q4
          omega
        · exact q2
      exact ⟨⟨by omega, by omega, rfl⟩, by omega, an1, z5, zPeo_read w5 hg z3, fun pl _ => zHas_new z6 w5 pl⟩
theorem zRg_fill {t : Int → Int} (h : zRg t) (a n : Int) : zRg (zfill t a n 0) := fun j => by
  unfold zfill
  split
  · omega
  · exact h j
theorem zRg_cpy {t : Int → Int} (h : zRg t) (a b n : Int) : zRg (zcpy t t a b n) := fun j => by
  unfold zcpy
  split
  · exact h _
  · exact h j
theorem zRg_cut {t : Int → Int} (h : zRg t) (a lane : Int) {v : Int} (hv : -2147483648 ≤ v ∧ v ≤ 2147483647) : zRg (zu t a (zcut lane v)) := fun j => by
  unfold zu zcut
  have h1 : -128 ≤ v.bmod 256 := by have := @Int.le_bmod v 256 (by omega); omega
  have h2 : v.bmod 256 < 128 := by have := @Int.bmod_lt v 256 (by omega); omega
  have h3 : -32768 ≤ v.bmod 65536 := by have := @Int.le_bmod v 65536 (by omega); omega
  have h4 : v.bmod 65536 < 32768 := by have := @Int.bmod_lt v 65536 (by omega); omega
  split
  · split
    · omega
    · split <;> omega
  · exact h j
theorem zShe_set {ss sl : Int → Int} (h : zShe ss sl) {k lane n : Int} (hl : 0 ≤ lane ∧ lane ≤ 2) (hn : 0 ≤ n ∧ n ≤ 100) : zShe (zu ss k n) (zu sl k lane) := fun j h1 h2 => by
  have := h j h1 h2
  unfold zu
  split <;> omega
theorem zShe_no {ss sl : Int → Int} (h : zShe ss sl) {k : Int} : zShe (zu ss k (-1)) sl := fun j h1 h2 => by
  have := h j h1 h2
  unfold zu
  split <;> omega
theorem zK_sheet {ss sl sh : Int → Int} {k lane n r f : Int} {ss1 sl1 sh1 : Int → Int} (h : zA_sheet ss sl sh k lane n r f ss1 sl1 sh1) (hs : zShe ss sl) (hg : zRg sh) : zShe ss1 sl1 ∧ zRg sh1 := by
  rcases h with ⟨a, b, c, d⟩ | ⟨a, b, c, d⟩
  · rw [b, c, d]; exact ⟨hs, hg⟩
  · rw [b, c, d]; exact ⟨zShe_set hs a.2.1 a.2.2.1, zRg_fill hg _ _⟩
theorem zK_lose {ss sl : Int → Int} {k r : Int} {ss1 : Int → Int} (h : zA_lose ss k r ss1) (hs : zShe ss sl) : zShe ss1 sl := by
  rcases h with ⟨a, b⟩ | ⟨a, b⟩
  · rw [b]; exact hs
  · rw [b]; exact zShe_no hs
theorem zK_put {ss sl sh : Int → Int} {k i v r f : Int} {sh1 : Int → Int} (h : zA_put ss sl sh k i v r f sh1) (hg : zRg sh) (hv : -2147483648 ≤ v ∧ v ≤ 2147483647) : zRg sh1 := by
  rcases h with ⟨a, b⟩ | ⟨a, b⟩
  · rw [b]; exact hg
  · rw [b]; exact zRg_cut hg _ _ hv
theorem zK_copy {ss sl sh : Int → Int} {k i o j n r f : Int} {sh1 : Int → Int} (h : zA_copy ss sl sh k i o j n r f sh1) (hg : zRg sh) : zRg sh1 := by
  rcases h with ⟨a, b⟩ | ⟨a, b⟩
  · rw [b]; exact hg
  · rw [b]; exact zRg_cpy hg _ _ _
/-- what the numbers of both sides keep -/
def zLF (ce la si : Int → Int) (ln : Int) (co : Int → Int) (n : Int) (on : Nat → Option Nat) (kd vl nb fr tl ss sl : Int → Int) (an : Int → Nat) (pl : va_W) : Prop := zRel la si ss sl ∧ zRg ce ∧ (0 ≤ ln ∧ ln ≤ 100) ∧ zRg co ∧ (0 ≤ n ∧ n ≤ 10) ∧ zOns n on an ∧ zPeo n kd vl nb fr tl ∧ zHas n an kd vl nb fr tl pl ∧ zShe ss sl
def zLS (E : zE) (ac ad : Nat → Nat) (A : Nat → Prop) (H : Heap) : Prop := ∃ (flt : Int) (ce la si : Int → Int) (ln : Int) (co : Int → Int) (n : Int) (on : Nat → Option Nat) (tr : Int) (fw cw ch nm : Int → Int) (kd vl nb fr tl : Int → Int) (rA rP : Int) (rk rv rn rf rt can fm fs ss sl hd : Int → Int) (an : Int → Nat) (pl : va_W), zLF ce la si ln co n on kd vl nb fr tl ss sl an pl ∧ zP E (mW E ad flt n kd vl nb fr tl rA rP rk rv rn rf rt can fm fs ss sl ce hd tr ++ (cW E ac flt ce la si ln co n on tr fw cw ch nm ++ pl)) H ∧ va_D A (mW E ad flt n kd vl nb fr tl rA rP rk rv rn rf rt can fm fs ss sl ce hd tr ++ (cW E ac flt ce la si ln co n on tr fw cw ch nm ++ pl))
/-- a number of the script -/
def zsc (xs : Nat → Int32) (i : Int) : Int := (xs i.toNat).toInt
theorem zsc_rng (xs : Nat → Int32) (i : Int) : -2147483648 ≤ zsc xs i ∧ zsc xs i ≤ 2147483647 := jI_rng _
theorem zsc_is (xs : Nat → Int32) (i : Int) : xs i.toNat = jI (zsc xs i) := jI_of _
theorem zcmp_self (x : Int64) : lg_cmp x x = 0 := by
  unfold lg_cmp
  rw [if_neg (fun h : x > x => absurd (Int64.lt_iff_toInt_lt.mp h) (Int.lt_irrefl _)), if_pos rfl]
section ZLW
variable {p : Program} {l : Launch} {e : Env} {s : State} {m : MethodId} {args : Array Value} {below : List Frame} {meth : Method} {c : Code} {H : Heap} {locs : List Loc} {cells slots : Nat} {Q : State → Prop}
variable {pc : Nat} {ls : Array Slot} {rest : List Value} {b L : Nat} {xs : Nat → Int32} {i : Int} {lv : List (Nat × Value)}
theorem z_sld {cc : ByteArray} {nL : Nat} {Ts : List Cond} {own : String} (S : CallFix p m c cc nL s args Ts own) (hX : va_X b L xs s s.heap) (hbl : b < s.heap.size) (hS : va_S (fun q : Nat => s.heap.size ≤ q) s.heap H locs) (hi : 0 ≤ i ∧ i < L ∧ L ≤ 4608) (hdg : decode cc pc = .ok (.iaload, 1)) (kk : W p l e room_1 s m args below meth c H locs cells slots Q (F0 m (pc + 1) ls (.int (jI (zsc xs i)) :: rest))) : W p l e room_1 s m args below meth c H locs cells slots Q (F0 m pc ls (.int (jI i) :: .ref b :: rest)) := by
  refine va_sld (A := fun q : Nat => s.heap.size ≤ q) S.1 S.2.1 hX hbl (Nat.not_le.mpr hbl) hS (jI_inRow ⟨hi.1, hi.2.1, by omega⟩) hdg ?_
  rw [show (jI i).toNatClampNeg = i.toNat by have := jI_clamp (i := i) (by omega); omega, zsc_is xs i]
  exact kk
/-- an argument of a call: the number at i + j of the script -/
theorem z_arg {Ts : List Cond} {own : String} {j : Int} (S : CallFix p m c code 4 s args Ts own) (hX : va_X b L xs s s.heap) (hbl : b < s.heap.size) (hS : va_S (fun q : Nat => s.heap.size ≤ q) s.heap H locs) (hi : 0 ≤ i ∧ i + 9 ≤ L ∧ L ≤ 4608) {hm ha : Nat} (hl : lv_has ls 4 [(3, .int (jI i)), (2, .ref hm), (1, .ref ha), (0, .ref b)]) (hj : 0 ≤ j ∧ j ≤ 8) (d0 : decode code pc = .ok (.aload_n 0, 1)) (d1 : decode code (pc + 1) = .ok (.iload_n 3, 1)) (d2 : decode code (pc + 2) = .ok (.iconst j, 1)) (d3 : decode code (pc + 3) = .ok (.iadd, 1)) (d4 : decode code (pc + 4) = .ok (.iaload, 1)) (kk : W p l e room_1 s m args below meth c H locs cells slots Q (F0 m (pc + 5) ls (.int (jI (zsc xs (i + j))) :: rest))) : W p l e room_1 s m args below meth c H locs cells slots Q (F0 m pc ls rest) := by
  refine lv_aload_n S.1 S.2.1 d0 rfl (lv_at hl 3 rfl) ?_
  refine lv_iload_n S.1 S.2.1 d1 rfl (lv_at hl 0 rfl) ?_
  refine z_iconst S d2 ?_
  refine z_iadd S d3 ?_
  exact z_sld S hX hbl hS (by omega) d4 kk
theorem z_argb {Ts : List Cond} {own : String} {j : Int} (S : CallFix p m c code 4 s args Ts own) (hX : va_X b L xs s s.heap) (hbl : b < s.heap.size) (hS : va_S (fun q : Nat => s.heap.size ≤ q) s.heap H locs) (hi : 0 ≤ i ∧ i + 9 ≤ L ∧ L ≤ 4608) {hm ha : Nat} (hl : lv_has ls 4 [(3, .int (jI i)), (2, .ref hm), (1, .ref ha), (0, .ref b)]) (hj : 0 ≤ j ∧ j ≤ 8) (hv : (Int8.ofInt j).toInt32 = jI j) (d0 : decode code pc = .ok (.aload_n 0, 1)) (d1 : decode code (pc + 1) = .ok (.iload_n 3, 1)) (d2 : decode code (pc + 2) = .ok (.bipush j, 2)) (d3 : decode code (pc + 4) = .ok (.iadd, 1)) (d4 : decode code (pc + 5) = .ok (.iaload, 1)) (kk : W p l e room_1 s m args below meth c H locs cells slots Q (F0 m (pc + 6) ls (.int (jI (zsc xs (i + j))) :: rest))) : W p l e room_1 s m args below meth c H locs cells slots Q (F0 m pc ls rest) := by
  refine lv_aload_n S.1 S.2.1 d0 rfl (lv_at hl 3 rfl) ?_
  refine lv_iload_n S.1 S.2.1 d1 rfl (lv_at hl 0 rfl) ?_
  refine z_bipush S hv d2 ?_
  refine z_iadd S d3 ?_
  exact z_sld S hX hbl hS (by omega) d4 kk
theorem zcmpI {cc : ByteArray} {nL : Nat} {Ts : List Cond} {own : String} (S : CallFix p m c cc nL s args Ts own) {R : Room} {x : Int32} {off : Int} {tgt : Nat} (hdg : decode cc pc = .ok (.if_icmp .eq off, 3)) (ht : (pc : Int) + off = (tgt : Int)) (kt : W p l e R s m args below meth c H locs cells slots Q (F0 m tgt ls rest)) : W p l e R s m args below meth c H locs cells slots Q (F0 m pc ls (.int x :: .int x :: rest)) := lv_icmp_eq S.1 S.2.1 hdg ht (fun _ => kt) (fun h => absurd rfl h)
theorem zcmpL {cc : ByteArray} {nL : Nat} {Ts : List Cond} {own : String} (S : CallFix p m c cc nL s args Ts own) {R : Room} {x : Int64} {off : Int} {tgt : Nat} (hdl : decode cc pc = .ok (.lcmp, 1)) (hdg : decode cc (pc + 1) = .ok (.ifCond .eq off, 3)) (ht : ((pc + 1 : Nat) : Int) + off = (tgt : Int)) (kt : W p l e R s m args below meth c H locs cells slots Q (F0 m tgt ls rest)) : W p l e R s m args below meth c H locs cells slots Q (F0 m pc ls (.long x :: .long x :: rest)) := by
  refine W.lcmp S.1 S.2.1 hdl ?_
  rw [zcmp_self]
  exact lv_if_eq S.1 S.2.1 hdg ht (fun _ => kt) (fun h => absurd rfl h)
end ZLW
