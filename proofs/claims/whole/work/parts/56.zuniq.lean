/-! each answer is one: what both sides say is the same -/
theorem zbe (P : Prop) : P = (zb P = 1) := propext ⟨fun h => zb_t h, fun h => (zb_or P).elim (fun q => q.1) (fun q => by omega)⟩
theorem zBear_one {nb : Int → Int} {lv : Int → Prop} {n num a b : Int} (h : zBear nb lv n num a) (h2 : zBear nb lv n num b) : a = b := by
  rcases h with ⟨h1, h3⟩ | ⟨h1, h3, h4⟩ <;> rcases h2 with ⟨g1, g3⟩ | ⟨g1, g3, g4⟩
  · omega
  · exact absurd g3 (h3 b g1.1 g1.2)
  · exact absurd h3 (g3 a h1.1 h1.2)
  · rcases Int.lt_trichotomy a b with z | z | z
    · exact absurd h3 (g4 a h1.1 z)
    · exact z
    · exact absurd g3 (h4 b g1.1 z)
theorem zSayable_num {P : Int → Prop} {k a b : Int} (ha : (1 ≤ a ∧ a ≤ 99) ∧ P a ∧ zcnt P (a - 1).toNat = k) (hb : (1 ≤ b ∧ b ≤ 99) ∧ P b ∧ zcnt P (b - 1).toNat = k) : ¬ a < b := fun h => by
  have h1 := zcnt_nt (j := a) ha.1.1 ha.2.1
  have h2 := zcnt_mono P (a := (a + 1 - 1).toNat) (b := (b - 1).toNat) (by omega)
  omega
theorem zSayable_one {P : Int → Prop} {k a b : Int} (h : zSayable P k a) (h2 : zSayable P k b) : a = b := by
  rcases h with ⟨x, h1, h3, h4, h5⟩ | ⟨h1, h3⟩ <;> rcases h2 with ⟨y, g1, g3, g4, g5⟩ | ⟨g1, g3⟩
  · have q1 := zSayable_num ⟨h1, h3, h4⟩ ⟨g1, g3, g4⟩
    have q2 := zSayable_num ⟨g1, g3, g4⟩ ⟨h1, h3, h4⟩
    omega
  · exact absurd h4 (g1 x h1.1 h1.2 h3)
  · exact absurd g4 (h1 y g1.1 g1.2 g3)
  · omega
theorem zFst_one {P : Int → Prop} {d a b : Int} (h : zFst P d a) (h2 : zFst P d b) : a = b := by
  rcases h with ⟨h1, h3⟩ | ⟨h1, h3, h4⟩ <;> rcases h2 with ⟨g1, g3⟩ | ⟨g1, g3, g4⟩
  · omega
  · exact absurd g3 (h3 b g1.1 g1.2)
  · exact absurd h3 (g3 a h1.1 h1.2)
  · rcases Int.lt_trichotomy a b with z | z | z
    · exact absurd h3 (g4 a h1.1 z)
    · exact z
    · exact absurd g3 (h4 b g1.1 z)
theorem zLst_one {P : Int → Prop} {d a b : Int} (h : zLst P d a) (h2 : zLst P d b) : a = b := by
  rcases h with ⟨h1, h3⟩ | ⟨h1, h3, h4⟩ <;> rcases h2 with ⟨g1, g3⟩ | ⟨g1, g3, g4⟩
  · omega
  · exact absurd g3 (h3 b g1.1 g1.2)
  · exact absurd h3 (g3 a h1.1 h1.2)
  · rcases Int.lt_trichotomy a b with z | z | z
    · exact absurd g3 (h4 b z g1.2)
    · exact z
    · exact absurd h3 (g4 a z h1.2)
theorem zWrit_one {P : Int → Prop} {w a b : Int} (h : zWrit P w a) (h2 : zWrit P w b) : a = b := by
  rcases h with ⟨h1, h3⟩ | ⟨h1, h3⟩ | ⟨h1, h3⟩ <;> rcases h2 with ⟨g1, g3⟩ | ⟨g1, g3⟩ | ⟨g1, g3⟩ <;> first | (exfalso; omega) | (rw [h3, g3]) | exact zFst_one h3 g3 | exact zLst_one h3 g3
theorem zLeast_one {P : Int → Prop} {q a b : Int} (h : zLeast P q a) (h2 : zLeast P q b) : a = b := by
  rcases h with ⟨h1, h3, h4⟩ | ⟨h1, h3⟩ <;> rcases h2 with ⟨g1, g3, g4⟩ | ⟨g1, g3⟩
  · rcases Int.lt_trichotomy a b with z | z | z
    · exact absurd h3 (g4 a h1.1 z)
    · exact z
    · exact absurd g3 (h4 b g1.1 z)
  · exact absurd h3 (g3 a h1.1 h1.2)
  · exact absurd g3 (h3 b g1.1 g1.2)
  · omega
theorem zBar_one {ss sl : Int → Int} {k lane i n b f b2 f2 : Int} {ok : Prop} (h : zBar ss sl k lane i n ok b f) (h2 : zBar ss sl k lane i n ok b2 f2) : b = b2 ∧ f = f2 := by
  rw [zbe ok] at h h2
  generalize zb ok = z at h h2
  unfold zBar at h h2
  omega
theorem zRow_one {ppl : Int} {ss sl sh : Int → Int} {v k lane i n b f b2 f2 : Int} {ok : Prop} (h : zRow ppl ss sl sh v k lane i n ok b f) (h2 : zRow ppl ss sl sh v k lane i n ok b2 f2) : b = b2 ∧ f = f2 := by
  rcases h with ⟨a1, c1, d1⟩ | ⟨a1, ⟨c1, d1⟩ | ⟨c1, d1⟩⟩ <;> rcases h2 with ⟨a2, c2, d2⟩ | ⟨a2, ⟨c2, d2⟩ | ⟨c2, d2⟩⟩
  · omega
  · exfalso; omega
  · exfalso; omega
  · exfalso; omega
  · exact zBar_one d1 d2
  · have := zBar_one d1 c2
    exfalso; omega
  · exfalso; omega
  · have := zBar_one c1 d2
    exfalso; omega
  · rw [zbe (zPpl ppl (fun j => sh (100 * k + i + j)) n)] at d1 d2
    generalize zb (zPpl ppl (fun j => sh (100 * k + i + j)) n) = z at d1 d2
    omega
section ZU
variable {ppl : Int} {kd vl nb fr tl ss sl sh : Int → Int} {r r2 f f2 : Int}
theorem zU_ofOne {x what : Int} (h : zA_ofOne ppl kd vl nb fr tl x what r) (h2 : zA_ofOne ppl kd vl nb fr tl x what r2) : r = r2 := by
  unfold zA_ofOne at h h2
  omega
theorem zU_lives {x v d : Int} (h : zA_lives ppl kd vl fr tl x v d r) (h2 : zA_lives ppl kd vl fr tl x v d r2) : r = r2 := by
  unfold zA_lives at h h2
  rw [zbe (zlive kd vl fr tl x v d)] at h h2
  generalize zb (zlive kd vl fr tl x v d) = z at h h2
  omega
theorem zU_word {num v d : Int} (h : zA_word ppl kd vl nb fr tl num v d r) (h2 : zA_word ppl kd vl nb fr tl num v d r2) : r = r2 := by
  rcases h with ⟨a1, b1⟩ | ⟨a1, ⟨b1, c1⟩ | ⟨b1, c1⟩⟩ <;> rcases h2 with ⟨a2, b2⟩ | ⟨a2, ⟨b2, c2⟩ | ⟨b2, c2⟩⟩ <;> first | omega | exact zBear_one c1 c2
theorem zU_sayable {v d k : Int} (h : zA_sayable ppl kd vl nb fr tl v d k r) (h2 : zA_sayable ppl kd vl nb fr tl v d k r2) : r = r2 := by
  rcases h with ⟨a1, b1⟩ | ⟨a1, ⟨b1, c1⟩ | ⟨b1, c1⟩⟩ <;> rcases h2 with ⟨a2, b2⟩ | ⟨a2, ⟨b2, c2⟩ | ⟨b2, c2⟩⟩ <;> first | omega | exact zSayable_one c1 c2
theorem zU_say {q v d k : Int} (h : zA_say ppl kd vl nb fr tl q v d k r) (h2 : zA_say ppl kd vl nb fr tl q v d k r2) : r = r2 := by
  rcases h with ⟨a1, b1⟩ | ⟨a1, ⟨b1, c1⟩ | ⟨b1, c1⟩⟩ <;> rcases h2 with ⟨a2, b2⟩ | ⟨a2, ⟨b2, c2⟩ | ⟨b2, c2⟩⟩ <;> first | omega | exact zSaid_one c1 c2
theorem zU_both {q w d : Int} (h : zA_both ppl kd vl nb fr tl q w d r) (h2 : zA_both ppl kd vl nb fr tl q w d r2) : r = r2 := by
  rcases h with ⟨a1, b1⟩ | ⟨a1, b1⟩ <;> rcases h2 with ⟨a2, b2⟩ | ⟨a2, b2⟩ <;> first | omega | exact zLeast_one b1 b2
theorem zU_lost {x v d w : Int} (h : zA_lost ppl kd vl nb fr tl x v d w r) (h2 : zA_lost ppl kd vl nb fr tl x v d w r2) : r = r2 := by
  unfold zA_lost at h h2
  omega
theorem zU_told {v d w wh : Int} (h : zA_told ppl kd vl nb fr tl v d w wh r) (h2 : zA_told ppl kd vl nb fr tl v d w wh r2) : r = r2 := by
  rcases h with ⟨a1, b1⟩ | ⟨a1, ⟨b1, c1⟩ | ⟨b1, c1⟩⟩ <;> rcases h2 with ⟨a2, b2⟩ | ⟨a2, ⟨b2, c2⟩ | ⟨b2, c2⟩⟩ <;> first | (exfalso; omega) | exact b1.trans b2.symm | exact c1.trans c2.symm
theorem zU_means {v d k lane i n : Int} (h : zA_means ppl kd vl nb fr tl ss sl sh v d k lane i n r f) (h2 : zA_means ppl kd vl nb fr tl ss sl sh v d k lane i n r2 f2) : r = r2 ∧ f = f2 := by
  obtain ⟨b, g, h1, h3⟩ := h
  obtain ⟨b', g', h1', h3'⟩ := h2
  obtain ⟨rfl, rfl⟩ := zRow_one h1 h1'
  rcases h3 with ⟨a1, b1, c1⟩ | ⟨a1, b1, c1⟩ <;> rcases h3' with ⟨a2, b2, c2⟩ | ⟨a2, b2, c2⟩ <;> first | (exfalso; omega) | exact ⟨zMean_one c1 c2, by omega⟩ | exact ⟨by omega, by omega⟩
theorem zU_turned {v d o k lane i n : Int} (h : zA_turned ppl kd vl nb fr tl ss sl sh v d o k lane i n r f) (h2 : zA_turned ppl kd vl nb fr tl ss sl sh v d o k lane i n r2 f2) : r = r2 ∧ f = f2 := by
  obtain ⟨b, g, h1, h3⟩ := h
  obtain ⟨b', g', h1', h3'⟩ := h2
  obtain ⟨rfl, rfl⟩ := zRow_one h1 h1'
  rcases h3 with ⟨a1, b1, c1⟩ | ⟨a1, b1, q1, c1, e1⟩ <;> rcases h3' with ⟨a2, b2, c2⟩ | ⟨a2, b2, q2, c2, e2⟩
  · exact ⟨by omega, by omega⟩
  · exfalso; omega
  · exfalso; omega
  · have hq := zMean_one c1 c2
    subst hq
    refine ⟨?_, by omega⟩
    rcases e1 with ⟨e1, x1⟩ | ⟨e1, x1⟩ <;> rcases e2 with ⟨e2, x2⟩ | ⟨e2, x2⟩ <;> first | (exfalso; omega) | exact zFewest_one x1 x2 | omega
theorem zU_written {v k lane i n what : Int} (h : zA_written ppl kd vl nb fr tl ss sl sh v k lane i n what r f) (h2 : zA_written ppl kd vl nb fr tl ss sl sh v k lane i n what r2 f2) : r = r2 ∧ f = f2 := by
  obtain ⟨b, g, h1, h3⟩ := h
  obtain ⟨b', g', h1', h3'⟩ := h2
  obtain ⟨rfl, rfl⟩ := zRow_one h1 h1'
  rcases h3 with ⟨a1, b1, c1⟩ | ⟨a1, b1, c1⟩ <;> rcases h3' with ⟨a2, b2, c2⟩ | ⟨a2, b2, c2⟩ <;> first | (exfalso; omega) | exact ⟨zWrit_one c1 c2, by omega⟩ | exact ⟨by omega, by omega⟩
theorem zU_child {v d w k lane i n what : Int} (h : zA_child ppl kd vl nb fr tl ss sl sh v d w k lane i n what r f) (h2 : zA_child ppl kd vl nb fr tl ss sl sh v d w k lane i n what r2 f2) : r = r2 ∧ f = f2 := by
  rcases h with ⟨a1, b1, c1⟩ | ⟨a1, b, g, h1, h3⟩ <;> rcases h2 with ⟨a2, b2, c2⟩ | ⟨a2, b', g', h1', h3'⟩
  · exact ⟨by omega, by omega⟩
  · exfalso; clear h3' h1'; omega
  · exfalso; clear h3 h1; omega
  · obtain ⟨rfl, rfl⟩ := zBar_one h1 h1'
    rcases h3 with ⟨x1, y1, z1⟩ | ⟨x1, y1, ⟨z1, w1⟩ | ⟨z1, be1, mo1, u1, w1⟩⟩ <;> rcases h3' with ⟨x2, y2, z2⟩ | ⟨x2, y2, ⟨z2, w2⟩ | ⟨z2, be2, mo2, u2, w2⟩⟩
    · exact ⟨by omega, by omega⟩
    · exfalso; omega
    · exfalso; omega
    · exfalso; omega
    · exact ⟨by omega, by omega⟩
    · exact absurd z2.2 (fun q => z1.elim (fun q1 => by omega) (fun q1 => q1 q))
    · exfalso; omega
    · exact absurd z1.2 (fun q => z2.elim (fun q1 => by omega) (fun q1 => q1 q))
    · obtain ⟨e1, e2⟩ := zArg_one u1 u2
      exact ⟨by omega, by omega⟩
theorem zU_back {q v d w k : Int} (h : zA_back ppl kd vl nb fr tl q v d w k r) (h2 : zA_back ppl kd vl nb fr tl q v d w k r2) : r = r2 := by
  rcases h with ⟨a1, b1⟩ | ⟨a1, ⟨b1, c1⟩ | ⟨b1, ⟨c1, d1⟩ | ⟨R1, c1, d1⟩⟩⟩ <;> rcases h2 with ⟨a2, b2⟩ | ⟨a2, ⟨b2, c2⟩ | ⟨b2, ⟨c2, d2⟩ | ⟨R2, c2, d2⟩⟩⟩
  · omega
  · exfalso; omega
  · exfalso; clear c2; omega
  · exfalso; clear c2; omega
  · exfalso; omega
  · omega
  · exfalso; clear c2; omega
  · exfalso; clear c2; omega
  · exfalso; clear c1; omega
  · exfalso; clear c1; omega
  · exact d1.trans d2.symm
  · exact absurd c2.2.1 (c1 R2 c2.1.1 c2.1.2)
  · exfalso; clear c1; omega
  · exfalso; clear c1; omega
  · exact absurd c1.2.1 (c2 R1 c1.1.1 c1.1.2)
  · have e := zMinRow_one c1 c2
    subst e
    clear c1 c2
    omega
theorem zU_sheet {k lane n : Int} {ss1 sl1 sh1 ss2 sl2 sh2 : Int → Int} (h : zA_sheet ss sl sh k lane n r f ss1 sl1 sh1) (h2 : zA_sheet ss sl sh k lane n r2 f2 ss2 sl2 sh2) : (r = r2 ∧ f = f2) ∧ ss1 = ss2 ∧ sl1 = sl2 ∧ sh1 = sh2 := by
  rcases h with ⟨a1, b1, c1, d1⟩ | ⟨a1, b1, c1, d1⟩ <;> rcases h2 with ⟨a2, b2, c2, d2⟩ | ⟨a2, b2, c2, d2⟩ <;> first | (exfalso; omega) | exact ⟨⟨by omega, by omega⟩, b1.trans b2.symm, c1.trans c2.symm, d1.trans d2.symm⟩
theorem zU_lose {k : Int} {ss1 ss2 : Int → Int} (h : zA_lose ss k r ss1) (h2 : zA_lose ss k r2 ss2) : r = r2 ∧ ss1 = ss2 := by
  rcases h with ⟨a1, b1⟩ | ⟨a1, b1⟩ <;> rcases h2 with ⟨a2, b2⟩ | ⟨a2, b2⟩ <;> first | (exfalso; omega) | exact ⟨by omega, b1.trans b2.symm⟩
theorem zU_put {k i v : Int} {sh1 sh2 : Int → Int} (h : zA_put ss sl sh k i v r f sh1) (h2 : zA_put ss sl sh k i v r2 f2 sh2) : (r = r2 ∧ f = f2) ∧ sh1 = sh2 := by
  rcases h with ⟨a1, b1⟩ | ⟨a1, b1⟩ <;> rcases h2 with ⟨a2, b2⟩ | ⟨a2, b2⟩ <;> first | (exfalso; omega) | exact ⟨⟨by omega, by omega⟩, b1.trans b2.symm⟩
theorem zU_cell {k i lane : Int} (h : zA_cell ss sl sh k i lane r f) (h2 : zA_cell ss sl sh k i lane r2 f2) : r = r2 ∧ f = f2 := by
  unfold zA_cell at h h2
  omega
theorem zU_copy {k i o j n : Int} {sh1 sh2 : Int → Int} (h : zA_copy ss sl sh k i o j n r f sh1) (h2 : zA_copy ss sl sh k i o j n r2 f2 sh2) : (r = r2 ∧ f = f2) ∧ sh1 = sh2 := by
  rcases h with ⟨a1, b1⟩ | ⟨a1, b1⟩ <;> rcases h2 with ⟨a2, b2⟩ | ⟨a2, b2⟩ <;> first | (exfalso; omega) | exact ⟨⟨by omega, by omega⟩, b1.trans b2.symm⟩
theorem zU_tell {tr x t1 t2 : Int} (h : zA_tell ppl kd nb tr x r t1) (h2 : zA_tell ppl kd nb tr x r2 t2) : r = r2 ∧ t1 = t2 := by
  unfold zA_tell at h h2
  omega
theorem zU_mourn {tr x t1 t2 : Int} (h : zA_mourn ppl kd tr x r t1) (h2 : zA_mourn ppl kd tr x r2 t2) : r = r2 ∧ t1 = t2 := by
  unfold zA_mourn at h h2
  omega
theorem zU_as {x kind : Int} (h : zA_as ppl kd x kind r f) (h2 : zA_as ppl kd x kind r2 f2) : r = r2 ∧ f = f2 := by
  unfold zA_as at h h2
  omega
end ZU
