/-! the class beside the reference, whose past is forgotten -/
def HISE (M u : Nat) (hr : Nat → Nat) (PS : Nat → Nat → Nat → Int32) (tp : Option (Nat → Int32)) : Prop := ∃ past, HIS M u past hr PS ∧ ∀ w0, tp = some w0 → 1 ≤ u ∧ ∀ i, i < 510 → past (510 * (u - 1) + i) = w0 i
theorem HISE.wk {M u : Nat} {hr : Nat → Nat} {PS : Nat → Nat → Nat → Int32} {tp : Option (Nat → Int32)} (h : HISE M u hr PS tp) : HISE M u hr PS none := by
  obtain ⟨past, h1, h2⟩ := h
  exact ⟨past, h1, fun w0 e => by cases e⟩
theorem HISE.mono {M M' u : Nat} {hr : Nat → Nat} {PS : Nat → Nat → Nat → Int32} {tp : Option (Nat → Int32)} (q : M ≤ M') (h : HISE M u hr PS tp) : HISE M' u hr PS tp := by
  obtain ⟨past, h1, h2⟩ := h
  exact ⟨past, HIS_mono q h1, h2⟩
theorem rem0 (w : Nat → Int32) : ∃ p0, f_X4_remember w O0 0 = some (p0, nI 1) := by
  have h := P_remember (u := 0) (by omega) w O0
  rw [if_neg (by omega)] at h
  exact ⟨_, h⟩
theorem P_recordE {M u : Nat} {tp : Option (Nat → Int32)} {w : Nat → Int32} {st : Nat → Int32} {wo pg wip rows : Int32} {le pa cu ro fi : Nat → Int32} {pr : Int32} {ti po ke : Nat → Int32} {kc ps sp tm hd top sk rp ms je ov : Int32} {hr : Nat → Nat} {PS : Nat → Nat → Nat → Int32} (r : REL M w st wo pg wip rows le pa cu ro fi pr ti po ke kc ps sp tm hd top sk rp ms je ov) (h : HISE M u hr PS tp) :
    ∃ u' hr' PS', f_X3_record st wo pg wip rows le pa cu ro fi pr ti po ke kc ps sp tm hd top sk rp ms je ov (nI u) hr PS = some (nI u', hr', PS') ∧ HISE M u' hr' PS' (some w) ∧ ∀ x, 8 ≤ x → PS' x = PS x := by
  obtain ⟨past, h1, h2⟩ := h
  obtain ⟨u', hr', PS', past', d1, d2, d3, d4⟩ := P_recordBoth r h1
  refine ⟨u', hr', PS', d1, ⟨past', d3, fun w0 e => ?_⟩, d4⟩
  cases e
  have hm := P_remember h1.1 w past
  rw [d2] at hm
  have hu' := d3.1
  by_cases c : u = 8
  · rw [if_pos c] at hm
    have hm := Option.some.inj hm
    have e1 : past' = blkW 3570 (shP past 3570) 510 w := congrArg Prod.fst hm
    have e2 : nI u' = nI 8 := congrArg Prod.snd hm
    have e3 : u' = 8 := (nI_eq (by omega) (by omega)).mp e2
    subst e3
    exact ⟨by omega, fun i hi => by rw [e1]; exact blkAt 3570 (shP past 3570) w hi⟩
  · rw [if_neg c] at hm
    have h8 := h1.1
    have hm := Option.some.inj hm
    have e1 : past' = blkW (510 * u) past 510 w := congrArg Prod.fst hm
    have e2 : nI u' = nI (u + 1) := congrArg Prod.snd hm
    have e3 : u' = u + 1 := (nI_eq (by omega) (by omega)).mp e2
    subst e3
    exact ⟨by omega, fun i hi => by rw [e1, Nat.add_sub_cancel]; exact blkAt (510 * u) past w hi⟩
theorem P_hearG {M u : Nat} {tp : Option (Nat → Int32)} {w : Nat → Int32} {st : Nat → Int32} {wo pg wip rows : Int32} {le pa cu ro fi : Nat → Int32} {pr : Int32} {ti po ke : Nat → Int32} {kc ps sp tm hd top sk rp ms je ov : Int32} {hr : Nat → Nat} {PS : Nat → Nat → Nat → Int32} (hM : M ≤ 90000) (r : REL M w st wo pg wip rows le pa cu ro fi pr ti po ke kc ps sp tm hd top sk rp ms je ov) (hh : HISE M u hr PS tp) (p : Int32) (hl : f_X3_isLetter p = some 1) :
    ∃ v cu' pr' ti' po' ke' kc' ps' sp' hd' sk' rp' ms' ov' u' hr' PS' w' past' m', f_X3_hear p st wo pg wip rows le pa cu ro fi pr ti po ke kc ps sp tm hd top sk rp ms je ov (nI u) hr PS = some (v, cu', pr', ti', po', ke', kc', ps', sp', hd', sk', rp', ms', ov', nI u', hr', PS') ∧ f_X4_hear p w O0 0 = some (v, w', past', m') ∧ REL M w' st wo pg wip rows le pa cu' ro fi pr' ti' po' ke' kc' ps' sp' tm hd' top sk' rp' ms' je ov' ∧ HISE M u' hr' PS' (some w) ∧ (∀ x, 8 ≤ x → PS' x = PS x) ∧ (∃ z, MI M w z ∧ HF w z p v ps ps' sk sk' rp rp' ms ms') ∧ (ke' 0 = p ∧ ∃ k, kc' = nI (k + 1) ∧ k < 4) := by
  unfold f_X3_hear f_X4_hear
  rw [P_isLet]
  obtain ⟨u', hr', PS', d1, d3, d4⟩ := P_recordE r hh
  obtain ⟨past', d2⟩ := rem0 w
  obtain ⟨ac, cu', pr', ti', po', ke', kc', ps', sp', hd', sk', rp', ms', ov', v, w', l1, l2, l3, lf, lk, l4⟩ := P_listen hM p r
  rw [hl, Option.bind_some, Option.bind_some, if_neg (show ¬ (1 : Int32) = 0 by decide), if_neg (show ¬ (1 : Int32) = 0 by decide), d1, d2, Option.bind_some, Option.bind_some, l1, l2, Option.bind_some, Option.bind_some]
  rcases l3 with ⟨x, y⟩ | ⟨x, y⟩
  · rw [if_pos x]
    subst y
    exact ⟨_, _, _, _, _, _, _, _, _, _, _, _, _, _, _, _, _, _, _, _, rfl, rfl, l4, d3, d4, lf, lk⟩
  · rw [if_neg x]
    subst y
    exact ⟨_, _, _, _, _, _, _, _, _, _, _, _, _, _, _, _, _, _, _, _, rfl, rfl, l4, d3, d4, lf, lk⟩
theorem MI_mono {M M' : Nat} {w : Nat → Int32} {z : Nat → Nat} (h : M ≤ M') (r : MI M w z) : MI M' w z := by
  obtain ⟨a, ⟨b1, b2, b3⟩, c⟩ := r
  exact ⟨a, ⟨b1, Nat.le_trans b2 h, b3⟩, c⟩
theorem P_tickG {M u : Nat} {tp : Option (Nat → Int32)} {w : Nat → Int32} {st : Nat → Int32} {wo pg wip rows : Int32} {le pa cu ro fi : Nat → Int32} {pr : Int32} {ti po ke : Nat → Int32} {kc ps sp tm hd top sk rp ms je ov : Int32} {hr : Nat → Nat} {PS : Nat → Nat → Nat → Int32} (hM : M + 100 ≤ 90000) (r : REL M w st wo pg wip rows le pa cu ro fi pr ti po ke kc ps sp tm hd top sk rp ms je ov) (hh : HISE M u hr PS tp) (roM : Nat → Int32) (rowsM : Int32) (hL : LR wo rows ro roM rowsM) {k : Nat} (hk1 : 1 ≤ k) (hk : k ≤ 100) :
    ∃ v tm' top' je' u' hr' PS' w' past' m', f_X3_tick (nI k) st wo pg wip rows le pa cu ro fi pr ti po ke kc ps sp tm hd top sk rp ms je ov (nI u) hr PS = some (v, tm', top', je', nI u', hr', PS') ∧ f_X4_tick (nI k) w O0 0 roM rowsM = some (v, w', past', m') ∧ REL (M + 100) w' st wo pg wip rows le pa cu ro fi pr ti po ke kc ps sp tm' hd top' sk rp ms je' ov ∧ HISE (M + 100) u' hr' PS' none ∧ (∀ x, 8 ≤ x → PS' x = PS x) ∧ (∃ J J', J ≤ J' ∧ J' ≤ M + 100 ∧ je = nI J ∧ je' = nI J') ∧ ∃ z, MI (M + 100) w' z ∧ shWn w' z := by
  obtain ⟨u', hr', PS', d1, d3, d4⟩ := P_recordE r hh
  obtain ⟨past', d2⟩ := rem0 w
  obtain ⟨tm', top', je', w', t1, t2, t3, t4, ⟨J, J', j1, j2, j3, j4⟩, ts⟩ := P_tickBoth (a := k) hk (by omega) r roM rowsM hL
  have h18 : w 18 = je := by
    obtain ⟨z, _, e1, e2, e3, e4, e5, e6, e7, e8, e9, e10, e11, e12, e13, e14, e15, e16, e17, e18, e19, e20, e21, e22⟩ := r
    exact e21.symm
  have a : ¬ nI k < 1 := nI_nlt (b := 1) (by omega) (by omega)
  have b : nI k ≤ 100 := nI_le (b := 100) (by omega) (by omega)
  unfold f_X3_tick f_X4_tick f_X4_isIn
  rw [if_neg a, if_neg a, if_pos b, if_neg (Int32.not_lt.mpr b), Option.bind_some, if_neg (show ¬ (1 : Int32) = 0 by decide), d1, d2, Option.bind_some, Option.bind_some, t1, t2, Option.bind_some, h18]
  obtain ⟨z, z1, z2⟩ := ts hk1
  exact ⟨_, _, _, _, _, _, _, _, _, _, rfl, rfl, REL_mono (by omega) t4, (HISE.mono (by omega) d3).wk, d4, ⟨J, J', j1, by omega, j3, j4⟩, z, MI_mono (by omega) z1, z2⟩
theorem P_releaseG {M u : Nat} {tp : Option (Nat → Int32)} {w : Nat → Int32} {st : Nat → Int32} {wo pg wip rows : Int32} {le pa cu ro fi : Nat → Int32} {pr : Int32} {ti po ke : Nat → Int32} {kc ps sp tm hd top sk rp ms je ov : Int32} {hr : Nat → Nat} {PS : Nat → Nat → Nat → Int32} (r : REL M w st wo pg wip rows le pa cu ro fi pr ti po ke kc ps sp tm hd top sk rp ms je ov) (hh : HISE M u hr PS tp) :
    ∃ v cu' u' hr' PS' w' past' m', f_X3_release st wo pg wip rows le pa cu ro fi pr ti po ke kc ps sp tm hd top sk rp ms je ov (nI u) hr PS = some (v, cu', nI u', hr', PS') ∧ f_X4_release w O0 0 = some (v, w', past', m') ∧ REL M w' st wo pg wip rows le pa cu' ro fi pr ti po ke kc ps sp tm hd top sk rp ms je ov ∧ HISE M u' hr' PS' none ∧ ∀ x, 8 ≤ x → PS' x = PS x := by
  unfold f_X3_release f_X4_release
  rcases P_cueBoth r with ⟨c1, c2⟩ | ⟨q, hq, c1, c2, c3, c4, c5⟩
  · rw [c1, c2, Option.bind_some, Option.bind_some, if_pos rfl, if_pos rfl]
    exact ⟨_, _, u, hr, PS, w, O0, 0, rfl, rfl, r, hh.wk, fun _ _ => rfl⟩
  · obtain ⟨u', hr', PS', d1, d3, d4⟩ := P_recordE r hh
    obtain ⟨past', d2⟩ := rem0 w
    have hne : ¬ nI q = (-9 : Int32) := by rw [m9]; exact oI_n q (by omega)
    rw [c1, c2, Option.bind_some, Option.bind_some, if_neg hne, if_neg hne, d1, d2, Option.bind_some, Option.bind_some, c3, c4, Option.bind_some, Option.bind_some]
    exact ⟨_, _, _, _, _, _, _, _, rfl, rfl, c5, d3.wk, d4⟩
theorem P_placeG {M u : Nat} {tp : Option (Nat → Int32)} {w : Nat → Int32} {st : Nat → Int32} {wo pg wip rows : Int32} {le pa cu ro fi : Nat → Int32} {pr : Int32} {ti po ke : Nat → Int32} {kc ps sp tm hd top sk rp ms je ov : Int32} {hr : Nat → Nat} {PS : Nat → Nat → Nat → Int32} (r : REL M w st wo pg wip rows le pa cu ro fi pr ti po ke kc ps sp tm hd top sk rp ms je ov) (hh : HISE M u hr PS tp) (p : Int32) :
    ∃ v cu' pr' kc' ps' hd' u' hr' PS' w' past' m', f_X3_place p st wo pg wip rows le pa cu ro fi pr ti po ke kc ps sp tm hd top sk rp ms je ov (nI u) hr PS = some (v, cu', pr', kc', ps', hd', nI u', hr', PS') ∧ f_X4_place p w O0 0 = some (v, w', past', m') ∧ REL M w' st wo pg wip rows le pa cu' ro fi pr' ti po ke kc' ps' sp tm hd' top sk rp ms je ov ∧ HISE M u' hr' PS' none ∧ ∀ x, 8 ≤ x → PS' x = PS x := by
  unfold f_X3_place f_X4_place
  rcases P_has r p with ⟨a1, a2⟩ | ⟨k, n, hk, hn, c1, c2, a1, a2⟩
  · rw [a1, a2, Option.bind_some, Option.bind_some, if_pos rfl, if_pos rfl]
    exact ⟨_, _, _, _, _, _, u, hr, PS, w, O0, 0, rfl, rfl, r, hh.wk, fun _ _ => rfl⟩
  · obtain ⟨u', hr', PS', d1, d3, d4⟩ := P_recordE r hh
    obtain ⟨past', d2⟩ := rem0 w
    obtain ⟨cu', w', j1, j2, j3⟩ := P_jump (s := k) r (by omega) (by rw [c1]; exact nI_lt hk (by omega)) past' (nI 1)
    subst c2
    rw [a1, a2, Option.bind_some, Option.bind_some, if_neg (show ¬ (1 : Int32) = 0 by decide), if_neg (show ¬ (1 : Int32) = 0 by decide), d1, d2, Option.bind_some, Option.bind_some, j1, Option.bind_some, Option.bind_some, Option.bind_some, Option.bind_some, Option.bind_some, show upd (upd (upd w 11 (nI k)) 20 0) 25 0 10 = w 10 by rw [upd_ne _ _ (by decide), upd_ne _ _ (by decide), upd_ne _ _ (by decide)], j2]
    exact ⟨_, _, _, _, _, _, _, _, _, _, _, _, rfl, rfl, j3, d3.wk, d4⟩
theorem P_setG {M u : Nat} {tp : Option (Nat → Int32)} {w : Nat → Int32} {st : Nat → Int32} {wo pg wip rows : Int32} {le pa cu ro fi : Nat → Int32} {pr : Int32} {ti po ke : Nat → Int32} {kc ps sp tm hd top sk rp ms je ov : Int32} {hr : Nat → Nat} {PS : Nat → Nat → Nat → Int32} (r : REL M w st wo pg wip rows le pa cu ro fi pr ti po ke kc ps sp tm hd top sk rp ms je ov) (hh : HISE M u hr PS tp) (roM : Nat → Int32) (rowsM : Int32) (hL : LR wo rows ro roM rowsM) (p q : Int32) :
    ∃ v st' rows' ro' fi' top' u' hr' PS' w' past' m' roM' rowsM', f_X3_set p q st wo pg wip rows le pa cu ro fi pr ti po ke kc ps sp tm hd top sk rp ms je ov (nI u) hr PS = some (v, st', rows', ro', fi', top', nI u', hr', PS') ∧ f_X4_set p q w O0 0 roM rowsM = some (v, w', past', m', roM', rowsM') ∧ REL M w' st' wo pg wip rows' le pa cu ro' fi' pr ti po ke kc ps sp tm hd top' sk rp ms je ov ∧ LR wo rows' ro' roM' rowsM' ∧ HISE M u' hr' PS' none ∧ ∀ x, 8 ≤ x → PS' x = PS x := by
  have keep : ∃ v st' rows' ro' fi' top' u' hr' PS' w' past' m' roM' rowsM', some ((-1 : Int32), st, rows, ro, fi, top, nI u, hr, PS) = some (v, st', rows', ro', fi', top', nI u', hr', PS') ∧ some ((-1 : Int32), w, O0, (0 : Int32), roM, rowsM) = some (v, w', past', m', roM', rowsM') ∧ REL M w' st' wo pg wip rows' le pa cu ro' fi' pr ti po ke kc ps sp tm hd top' sk rp ms je ov ∧ LR wo rows' ro' roM' rowsM' ∧ HISE M u' hr' PS' none ∧ ∀ x, 8 ≤ x → PS' x = PS x := ⟨_, _, _, _, _, _, u, hr, PS, w, O0, 0, roM, rowsM, rfl, rfl, r, hL, hh.wk, fun _ _ => rfl⟩
  unfold f_X3_set f_X4_set f_X3_isSetting
  by_cases a : p < 0
  · rw [if_pos a, P_isOf_no (Or.inl a), Option.bind_some, Option.bind_some, if_pos rfl, if_pos rfl]
    exact keep
  rw [if_neg a]
  by_cases b : 9 ≤ p
  · rw [if_pos b, P_isOf_no (Or.inr b), Option.bind_some, Option.bind_some, if_pos rfl, if_pos rfl]
    exact keep
  rw [if_neg b, Option.bind_some, if_neg (show ¬ (1 : Int32) = 0 by decide)]
  obtain ⟨k, hk, rfl⟩ := nI_of a
  have hk9 : k < 9 := by
    rcases Nat.lt_or_ge k 9 with y | y
    · exact y
    · exact absurd (nI_le (a := 9) y hk) b
  rw [P_at hk9 (by omega), Option.bind_some, P_isOf hk9, Option.bind_some, P_at hk9 (by omega), Option.bind_some]
  by_cases c : q < F_LEAST k
  · rw [if_pos c, if_pos (show (if F_LEAST k ≤ q ∧ q ≤ F_MOST k then (1 : Int32) else 0) = 0 by rw [if_neg (fun y => absurd c (Int32.not_lt.mpr y.1))])]
    exact keep
  rw [if_neg c]
  by_cases d : q ≤ F_MOST k
  · obtain ⟨x, hx, rfl⟩ := nI_of (x := q) (fun y => c (by
      have h0 : (0 : Int32) ≤ F_LEAST k := by
        rcases (show k = 0 ∨ k = 1 ∨ k = 2 ∨ k = 3 ∨ k = 4 ∨ k = 5 ∨ k = 6 ∨ k = 7 ∨ k = 8 by omega) with rfl | rfl | rfl | rfl | rfl | rfl | rfl | rfl | rfl <;> decide
      rw [Int32.lt_iff_toInt_lt] at y ⊢
      rw [Int32.le_iff_toInt_le] at h0
      omega))
    obtain ⟨u', hr', PS', d1, d3, d4⟩ := P_recordE r hh
    obtain ⟨past', d2⟩ := rem0 w
    obtain ⟨rows', ro', fi', top', roM', rowsM', x1, x2, x3, x4, x5, x6⟩ := P_change r hk9 hx (Int32.not_lt.mp c) d roM rowsM
    rw [if_pos d, if_neg (show ¬ (if F_LEAST k ≤ nI x ∧ nI x ≤ F_MOST k then (1 : Int32) else 0) = 0 by rw [if_pos ⟨Int32.not_lt.mp c, d⟩]; decide), d1, d2, Option.bind_some, Option.bind_some, P_at hk9 (by omega), Option.bind_some, x1, Option.bind_some, if_neg (ixN (show k < 510 by omega) (by omega)), if_neg (ixN (show k < 510 by omega) (by omega)), nI_clamp hk, Option.bind_some, x2, Option.bind_some, x3, Option.bind_some, Option.bind_some]
    exact ⟨_, _, _, _, _, _, _, _, _, _, _, _, _, _, rfl, by rw [x4], x5, x6, d3.wk, d4⟩
  · rw [if_neg d, if_pos (show (if F_LEAST k ≤ q ∧ q ≤ F_MOST k then (1 : Int32) else 0) = 0 by rw [if_neg (fun y => d y.2)])]
    exact keep
theorem P_loadG {L : Nat} {M u : Nat} {tp : Option (Nat → Int32)} {w : Nat → Int32} {st : Nat → Int32} {wo pg wip rows : Int32} {le pa cu ro fi : Nat → Int32} {pr : Int32} {ti po ke : Nat → Int32} {kc ps sp tm hd top sk rp ms je ov : Int32} {hr : Nat → Nat} {PS : Nat → Nat → Nat → Int32} (r : REL M w st wo pg wip rows le pa cu ro fi pr ti po ke kc ps sp tm hd top sk rp ms je ov) (hh : HISE M u hr PS tp) (roM : Nat → Int32) (rowsM : Int32) (hL : LR wo rows ro roM rowsM) (hL140 : L ≤ 140) (tx tx' : Nat → Int32) (htx : ∀ i, i < L → tx i = tx' i) (fk fp : Int32) (dw dp dwp drows : Int32) (dl dpa dc dro dfi : Nat → Int32) (wk wp rw0 rp0 : Int32) (rl rc rpg : Nat → Int32) :
    ∃ v fk' fp' D1 D2 D3 D4 D5 D6 wo' pg' wip' rows' le' pa' cu' ro' fi' pr' kc' ps' sp' tm' hd' top' sk' rp' ms' je' ov' u' hr' PS' w' past' m' fkM' fpM' roM' rowsM' R1 R2 R3 R4 R5 R6 R7, f_X3_load tx (nI L) fk fp dw dp dwp drows dl dpa dc dro dfi st wo pg wip rows le pa cu ro fi pr ti po ke kc ps sp tm hd top sk rp ms je ov (nI u) hr PS = some (v, fk', fp', D1, D2, D3, D4, D5, D6, wo', pg', wip', rows', le', pa', cu', ro', fi', pr', kc', ps', sp', tm', hd', top', sk', rp', ms', je', ov', nI u', hr', PS') ∧ f_X4_load w O0 0 tx' (nI L) (-9) (-9) roM rowsM wk wp rw0 rp0 rl rc rpg = some (v, w', past', m', fkM', fpM', roM', rowsM', R1, R2, R3, R4, R5, R6, R7) ∧ REL M w' st wo' pg' wip' rows' le' pa' cu' ro' fi' pr' ti po ke kc' ps' sp' tm' hd' top' sk' rp' ms' je' ov' ∧ LR wo' rows' ro' roM' rowsM' ∧ HISE M u' hr' PS' none ∧ ∀ x, 8 ≤ x → PS' x = PS x := by
  unfold f_X3_load f_X4_load
  rcases P_readText hL140 fk fp tx tx' htx dw dp dwp dl dpa dc wk wp rw0 rp0 rl rc rpg with ⟨k, pl, D1, D2, e1, e2, e3, e4⟩ | ⟨m, P, c, dl', dpa', dc', wp', rl', rc', rp', e1, e2, e3, e4, e5, ec, ep, e6⟩
  · rw [e1, e2, Option.bind_some, Option.bind_some, if_pos rfl, if_neg e3]
    exact ⟨_, _, _, _, _, _, _, _, _, _, _, _, _, _, _, _, _, _, _, _, _, _, _, _, _, _, _, _, _, _, u, hr, PS, w, O0, 0, _, _, roM, rowsM, _, _, _, _, _, _, _, rfl, rfl, r, hL, hh.wk, fun _ _ => rfl⟩
  · obtain ⟨u', hr', PS', d1, d3, d4⟩ := P_recordE r hh
    obtain ⟨past', d2⟩ := rem0 w
    obtain ⟨rows', le', pa', cu', ro', fi', b1, b2⟩ := P_begin (M' := M) r e3 c drows dl' dpa' dc' dro dfi rl' rc' rp' e5 ec ep e6
    obtain ⟨ro2, rows2, l1, l2⟩ := P_layR b2 roM rowsM
    have hl := P_loadM e3.2 w rl' rc' rp' past' (nI 1) (-9) (-9) roM rowsM (-9) wp' (nI P)
    rw [l1, Option.bind_some] at hl
    rw [e1, e2, Option.bind_some, Option.bind_some, if_neg (show ¬ (1 : Int32) = 0 by decide), if_pos rfl, d1, d2, Option.bind_some, Option.bind_some, b1, Option.bind_some, hl]
    exact ⟨_, _, _, _, _, _, _, _, _, _, _, _, _, _, _, _, _, _, _, _, _, _, _, _, _, _, _, _, _, _, _, _, _, _, _, _, _, _, _, _, _, _, _, _, _, _, _, rfl, rfl, b2, l2, d3.wk, d4⟩
theorem P_backG {M f u : Nat} {tp : Option (Nat → Int32)} {w images ik : Nat → Int32} {st : Nat → Int32} {wo pg wip rows : Int32} {le pa cu ro fi : Nat → Int32} {pr : Int32} {ti po ke : Nat → Int32} {kc ps sp tm hd top sk rp ms je ov : Int32} {hr : Nat → Nat} {PS : Nat → Nat → Nat → Int32} (r : REL M w st wo pg wip rows le pa cu ro fi pr ti po ke kc ps sp tm hd top sk rp ms je ov) (h : IMG M f images ik PS) (hh : HISE M u hr PS tp) (roM : Nat → Int32) (rowsM : Int32) (hL : LR wo rows ro roM rowsM) (p : Int32) :
    ∃ v u' hr' PS' past' m' S w' roM' rowsM', f_X3_back p st wo pg wip rows le pa cu ro fi pr ti po ke kc ps sp tm hd top sk rp ms je ov (nI u) ik hr PS = some (v, S 0, S 1 0, S 2 0, S 3 0, S 4 0, S 5, S 6, S 7, S 8, S 9, S 10 0, S 11, S 12, S 13, S 14 0, S 15 0, S 16 0, S 17 0, S 18 0, S 19 0, S 20 0, S 21 0, S 22 0, S 23 0, S 24 0, nI u', hr', PS') ∧ f_X4_back p w O0 0 images (nI f) roM rowsM = some (v, w', past', m', roM', rowsM') ∧ RS M w' S ∧ LR (S 1 0) (S 4 0) (S 8) roM' rowsM' ∧ HISE M u' hr' PS' none ∧ ∀ x, 8 ≤ x → PS' x = PS x := by
  obtain ⟨g1, g2, g3, g4, g5⟩ := id h
  unfold f_X3_back f_X4_back
  rcases isImg p with ⟨a, b⟩ | ⟨k, hk, rfl, a⟩
  · rw [a, Option.bind_some, if_pos rfl]
    rcases b with b | ⟨b, c⟩
    · rw [if_pos b]
      exact ⟨-1, u, hr, PS, O0, 0, mkS st wo pg wip rows le pa cu ro fi pr ti po ke kc ps sp tm hd top sk rp ms je ov, w, roM, rowsM, rfl, rfl, r, hL, hh.wk, fun _ _ => rfl⟩
    · rw [if_neg b, if_neg c]
      exact ⟨-1, u, hr, PS, O0, 0, mkS st wo pg wip rows le pa cu ro fi pr ti po ke kc ps sp tm hd top sk rp ms je ov, w, roM, rowsM, rfl, rfl, r, hL, hh.wk, fun _ _ => rfl⟩
  · rw [a, Option.bind_some, if_neg (show ¬ (1 : Int32) = 0 by decide), if_neg (nI_pos (by omega)), if_pos (show nI k < 2 from nI_lt (b := 2) hk (by omega)), if_neg (ixN (by omega) (by omega)), nI_clamp (by omega)]
    have hbit : (ik k = 0 ∧ ((nI f >>> (nI k &&& 31)) &&& 1) = 0) ∨ (¬ ik k = 0 ∧ ¬ ((nI f >>> (nI k &&& 31)) &&& 1) = 0 ∧ RS M (fun i => images (510 * k + i)) (PS (8 + k))) := by
      rcases (show k = 0 ∨ k = 1 by omega) with rfl | rfl
      · by_cases y : f % 2 = 1
        · refine Or.inr ⟨by rw [g2, y]; decide, ?_, ?_⟩
          · rcases (show f = 1 ∨ f = 3 by omega) with rfl | rfl <;> decide
          · have := g4 y
            exact REL_ext (fun i hi => congrArg images (by omega)) this
        · refine Or.inl ⟨by rw [g2, show f % 2 = 0 by omega]; rfl, ?_⟩
          rcases (show f = 0 ∨ f = 2 by omega) with rfl | rfl <;> decide
      · by_cases y : f / 2 = 1
        · refine Or.inr ⟨by rw [g3, y]; decide, ?_, g5 y⟩
          rcases (show f = 2 ∨ f = 3 by omega) with rfl | rfl <;> decide
        · refine Or.inl ⟨by rw [g3, show f / 2 = 0 by omega]; rfl, ?_⟩
          rcases (show f = 0 ∨ f = 1 by omega) with rfl | rfl <;> decide
    rcases hbit with ⟨x, y⟩ | ⟨x, y, y2⟩
    · rw [if_pos x, if_pos y]
      exact ⟨-2, u, hr, PS, O0, 0, mkS st wo pg wip rows le pa cu ro fi pr ti po ke kc ps sp tm hd top sk rp ms je ov, w, roM, rowsM, rfl, rfl, r, hL, hh.wk, fun _ _ => rfl⟩
    · rw [if_neg x, if_neg y]
      obtain ⟨u', hr', PS', d1, d3, d4⟩ := P_recordE r hh
      obtain ⟨past', d2⟩ := rem0 w
      rw [← d4 (8 + k) (by omega)] at y2
      obtain ⟨st', le', pa', cu', ro', fi', ti', po', ke', b1, b2, _⟩ := P_become y2 st wo pg wip rows le pa cu ro fi pr ti po ke kc ps sp tm hd top sk rp ms je ov
      have b3 := REL_ext (w' := blkW 0 w 510 (fun i => images (510 * k + i))) (fun i hi => by
        have := blkAt 0 w (fun i => images (510 * k + i)) hi
        rw [Nat.zero_add] at this
        exact this) b2
      obtain ⟨ro2, rows2, l1, l2⟩ := P_layR b3 roM rowsM
      obtain ⟨n, p', _, _, _, _, q1, q2, _⟩ := REL_n b3
      have hb := P_back_l hk w images past' roM (nI 1) rowsM 510 0 gas (by omega) (by unfold gas; omega)
      rw [blk_0, l1] at hb
      rw [d1, d2, Option.bind_some, Option.bind_some, if_neg (ixN' hk (by omega)), b1]
      refine ⟨PS' (8 + k) 15 0, u', hr', PS', past', nI 1, mkS st' (PS' (8 + k) 1 0) (PS' (8 + k) 2 0) (PS' (8 + k) 3 0) (PS' (8 + k) 4 0) le' pa' cu' ro' fi' (PS' (8 + k) 10 0) ti' po' ke' (PS' (8 + k) 14 0) (PS' (8 + k) 15 0) (PS' (8 + k) 16 0) (PS' (8 + k) 17 0) (PS' (8 + k) 18 0) (PS' (8 + k) 19 0) (PS' (8 + k) 20 0) (PS' (8 + k) 21 0) (PS' (8 + k) 22 0) (PS' (8 + k) 23 0) (PS' (8 + k) 24 0), _, ro2, rows2, rfl, ?_, b3, l2, d3.wk, d4⟩
      rw [show (0 : Int32) = nI 0 from rfl, hb, q1, q2]
      rfl
theorem P_keepG {M f u : Nat} {tp : Option (Nat → Int32)} {w images ik : Nat → Int32} {st : Nat → Int32} {wo pg wip rows : Int32} {le pa cu ro fi : Nat → Int32} {pr : Int32} {ti po ke : Nat → Int32} {kc ps sp tm hd top sk rp ms je ov : Int32} {hr : Nat → Nat} {PS : Nat → Nat → Nat → Int32} (r : REL M w st wo pg wip rows le pa cu ro fi pr ti po ke kc ps sp tm hd top sk rp ms je ov) (h : IMG M f images ik PS) (hh : HISE M u hr PS tp) (p : Int32) :
    ∃ v f' ik' PS' images', f_X3_keep p st wo pg wip rows le pa cu ro fi pr ti po ke kc ps sp tm hd top sk rp ms je ov ik PS = some (v, ik', PS') ∧ f_X4_keep p w images (nI f) = some (v, images', nI f') ∧ IMG M f' images' ik' PS' ∧ HISE M u hr PS' tp := by
  obtain ⟨past, h1, h2⟩ := hh
  obtain ⟨v, f', ik', PS', images', a, b, c, d⟩ := P_keepImg r h h1 p
  exact ⟨v, f', ik', PS', images', a, b, c, past, d, h2⟩
theorem P_undoG {M u : Nat} {w w0 : Nat → Int32} {st : Nat → Int32} {wo pg wip rows : Int32} {le pa cu ro fi : Nat → Int32} {pr : Int32} {ti po ke : Nat → Int32} {kc ps sp tm hd top sk rp ms je ov : Int32} {hr : Nat → Nat} {PS : Nat → Nat → Nat → Int32} (r : REL M w st wo pg wip rows le pa cu ro fi pr ti po ke kc ps sp tm hd top sk rp ms je ov) (hh : HISE M u hr PS (some w0)) :
    ∃ v u' S, f_X3_undo st wo pg wip rows le pa cu ro fi pr ti po ke kc ps sp tm hd top sk rp ms je ov (nI u) hr PS = some (v, S 0, S 1 0, S 2 0, S 3 0, S 4 0, S 5, S 6, S 7, S 8, S 9, S 10 0, S 11, S 12, S 13, S 14 0, S 15 0, S 16 0, S 17 0, S 18 0, S 19 0, S 20 0, S 21 0, S 22 0, S 23 0, S 24 0, nI u') ∧ RS M w0 S ∧ HISE M u' hr PS none ∧ ¬ v < 0 := by
  obtain ⟨past, h, h0⟩ := hh
  obtain ⟨c, h5⟩ := h0 w0 rfl
  obtain ⟨h1, h2, h3, h4⟩ := id h
  have hr0 := h4 (u - 1) (by omega)
  obtain ⟨st', le', pa', cu', ro', fi', ti', po', ke', b1, b2, _⟩ := P_become hr0 st wo pg wip rows le pa cu ro fi pr ti po ke kc ps sp tm hd top sk rp ms je ov
  have b3 := REL_ext (w' := w0) (fun i hi => (h5 i hi).symm) b2
  unfold f_X3_undo
  rw [if_pos (show (1 : Int32) ≤ nI u from nI_le (a := 1) (by omega) (by omega)), show (1 : Int32) = nI 1 from rfl, pk_sub (by omega), if_neg (ixN (by omega) (by omega)), nI_clamp (by omega)]
  refine ⟨nI (u - 1), u - 1, mkS st' (PS (hr (u - 1)) 1 0) (PS (hr (u - 1)) 2 0) (PS (hr (u - 1)) 3 0) (PS (hr (u - 1)) 4 0) le' pa' cu' ro' fi' (PS (hr (u - 1)) 10 0) ti' po' ke' (PS (hr (u - 1)) 14 0) (PS (hr (u - 1)) 15 0) (PS (hr (u - 1)) 16 0) (PS (hr (u - 1)) 17 0) (PS (hr (u - 1)) 18 0) (PS (hr (u - 1)) 19 0) (PS (hr (u - 1)) 20 0) (PS (hr (u - 1)) 21 0) (PS (hr (u - 1)) 22 0) (PS (hr (u - 1)) 23 0) (PS (hr (u - 1)) 24 0), ?_, b3, ⟨past, ⟨by omega, h2, h3, fun j hj => h4 j (by omega)⟩, fun _ e => by cases e⟩, nI_pos (by omega)⟩
  rw [b1]; rfl
