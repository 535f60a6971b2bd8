/-! the calls, both sides -/
def FT (fk fp fkM fpM : Int32) : Prop := (fk = 0 ∧ fkM = -9 ∧ fpM = -9) ∨ (¬ fk = 0 ∧ fkM = fk ∧ fpM = fp)
theorem P_faultR {fk fp fkM fpM : Int32} (h : FT fk fp fkM fpM) (p : Int32) : ∃ v, f_X3_fault p fk fp = some v ∧ f_X4_fault p fkM fpM = some v := by
  unfold f_X3_fault f_X4_fault
  by_cases a : p < 0
  · rw [if_pos a, if_neg (fun q => by rw [q] at a; revert a; decide), if_neg (fun q => by rw [q] at a; revert a; decide)]
    exact ⟨_, rfl, rfl⟩
  rw [if_neg a]
  by_cases b : p ≤ 1
  · rw [if_pos b]
    obtain ⟨k, hk, rfl⟩ := nI_of2 (M := 1) (n := 1) rfl a b
    rcases (show k = 0 ∨ k = 1 by omega) with rfl | rfl
    · rw [if_pos (show nI 0 = 0 from rfl)]
      rcases h with ⟨x, y, z⟩ | ⟨x, y, z⟩
      · rw [if_pos x]; exact ⟨_, rfl, by rw [if_pos (show nI 0 = 0 from rfl), y]⟩
      · rw [if_neg x]; exact ⟨_, rfl, by rw [if_pos (show nI 0 = 0 from rfl), y]⟩
    · rw [if_neg (show ¬ nI 1 = 0 by decide), if_neg (show ¬ nI 1 = 0 by decide), if_pos (show nI 1 = 1 from rfl)]
      rcases h with ⟨x, y, z⟩ | ⟨x, y, z⟩
      · rw [if_pos x]; exact ⟨_, rfl, by rw [z]⟩
      · rw [if_neg x]; exact ⟨_, rfl, by rw [z]⟩
  · rw [if_neg b, if_neg (fun q => b (by rw [q]; decide)), if_neg (fun q => b (by rw [q]; decide))]
    exact ⟨_, rfl, rfl⟩
theorem P_writeR {L : Nat} (hL : L ≤ 140) (tx tx' : Nat → Int32) (h : ∀ i, i < L → tx i = tx' i) (p : Int32) : ∃ v tx2 tx2' L', f_X3_write p tx (nI L) = some (v, tx2, nI L') ∧ f_X4_write p tx' (nI L) = some (v, tx2', nI L') ∧ L' ≤ 140 ∧ ∀ i, i < L' → tx2 i = tx2' i := by
  unfold f_X3_write f_X4_write f_X4_isIn
  by_cases a : p < 32
  · rw [if_pos a, if_pos a, Option.bind_some, if_pos rfl]
    exact ⟨_, tx, tx', L, rfl, rfl, hL, h⟩
  rw [if_neg a, if_neg a]
  by_cases b : p ≤ 126
  · rw [if_pos b, if_neg (Int32.not_lt.mpr b), Option.bind_some, if_neg (show ¬ (1 : Int32) = 0 by decide)]
    by_cases c : L = 140
    · rw [if_neg (show ¬ nI L < 140 by rw [c]; decide), if_pos (show nI L = 140 by rw [c]; rfl)]
      exact ⟨_, tx, tx', L, rfl, rfl, hL, h⟩
    · rw [if_pos (show nI L < 140 from nI_lt (b := 140) (by omega) (by omega)), if_neg (show ¬ nI L = 140 from fun q => c ((nI_eq (b := 140) (by omega) (by omega)).mp q)), P_put (by omega) (by omega), Option.bind_some, if_neg (ixN (by omega) (by omega)), nI_clamp (by omega), nI_1]
      refine ⟨_, _, _, L + 1, rfl, rfl, by omega, fun i hi => ?_⟩
      by_cases d : i = L
      · rw [d, upd_eq, upd_eq]
      · rw [upd_ne _ _ d, upd_ne _ _ d]; exact h i (by omega)
  · rw [if_neg b, if_pos (Int32.not_le.mp b), Option.bind_some, if_pos rfl]
    exact ⟨_, tx, tx', L, rfl, rfl, hL, h⟩
theorem P_hearR {M u : Nat} {w past : Nat → Int32} {st : Nat → Int32} {wo pg wip rows : Int32} {le pa cu ro fi : Nat → Int32} {pr : Int32} {ti po ke : Nat → Int32} {kc ps sp tm hd top sk rp ms je ov : Int32} {hr : Nat → Nat} {PS : Nat → Nat → Nat → Int32} (hM : M ≤ 90000) (r : REL M w st wo pg wip rows le pa cu ro fi pr ti po ke kc ps sp tm hd top sk rp ms je ov) (hh : HIS M u past hr PS) (p : Int32) :
    ∃ v cu' pr' ti' po' ke' kc' ps' sp' hd' sk' rp' ms' ov' u' hr' PS' w' past', f_X3_hear p st wo pg wip rows le pa cu ro fi pr ti po ke kc ps sp tm hd top sk rp ms je ov (nI u) hr PS = some (v, cu', pr', ti', po', ke', kc', ps', sp', hd', sk', rp', ms', ov', nI u', hr', PS') ∧ f_X4_hear p w past (nI u) = some (v, w', past', nI u') ∧ REL M w' st wo pg wip rows le pa cu' ro fi pr' ti' po' ke' kc' ps' sp' tm hd' top sk' rp' ms' je ov' ∧ HIS M u' past' hr' PS' ∧ ∀ x, 8 ≤ x → PS' x = PS x := by
  unfold f_X3_hear f_X4_hear
  rw [P_isLet]
  rcases isLet_2 p with hl | hl
  · rw [hl, Option.bind_some, Option.bind_some, if_pos rfl, if_pos rfl]
    exact ⟨_, _, _, _, _, _, _, _, _, _, _, _, _, _, u, hr, PS, w, past, rfl, rfl, r, hh, fun _ _ => rfl⟩
  · obtain ⟨u', hr', PS', past', d1, d2, d3, d4⟩ := P_recordBoth r hh
    obtain ⟨ac, cu', pr', ti', po', ke', kc', ps', sp', hd', sk', rp', ms', ov', v, w', l1, l2, l3, lf, lk, l4⟩ := P_listen hM p r
    rw [hl, Option.bind_some, Option.bind_some, if_neg (show ¬ (1 : Int32) = 0 by decide), if_neg (show ¬ (1 : Int32) = 0 by decide), d1, d2, Option.bind_some, Option.bind_some, l1, l2, Option.bind_some, Option.bind_some]
    rcases l3 with ⟨x, y⟩ | ⟨x, y⟩
    · rw [if_pos x]
      exact ⟨_, _, _, _, _, _, _, _, _, _, _, _, _, _, _, _, _, _, _, rfl, by rw [y], l4, d3, d4⟩
    · rw [if_neg x]
      exact ⟨_, _, _, _, _, _, _, _, _, _, _, _, _, _, _, _, _, _, _, rfl, by rw [y], l4, d3, d4⟩
theorem P_tickR {M u : Nat} {w past : Nat → Int32} {st : Nat → Int32} {wo pg wip rows : Int32} {le pa cu ro fi : Nat → Int32} {pr : Int32} {ti po ke : Nat → Int32} {kc ps sp tm hd top sk rp ms je ov : Int32} {hr : Nat → Nat} {PS : Nat → Nat → Nat → Int32} (hM : M + 100 ≤ 90000) (r : REL M w st wo pg wip rows le pa cu ro fi pr ti po ke kc ps sp tm hd top sk rp ms je ov) (hh : HIS M u past hr PS) (roM : Nat → Int32) (rowsM : Int32) (hL : LR wo rows ro roM rowsM) (p : Int32) :
    ∃ v tm' top' je' u' hr' PS' w' past', f_X3_tick p st wo pg wip rows le pa cu ro fi pr ti po ke kc ps sp tm hd top sk rp ms je ov (nI u) hr PS = some (v, tm', top', je', nI u', hr', PS') ∧ f_X4_tick p w past (nI u) roM rowsM = some (v, w', past', nI u') ∧ REL (M + 100) w' st wo pg wip rows le pa cu ro fi pr ti po ke kc ps sp tm' hd top' sk rp ms je' ov ∧ HIS (M + 100) u' past' hr' PS' ∧ ∀ x, 8 ≤ x → PS' x = PS x := by
  have keep : ∃ v tm' top' je' u' hr' PS' w' past', some ((-1 : Int32), tm, top, je, nI u, hr, PS) = some (v, tm', top', je', nI u', hr', PS') ∧ some ((-1 : Int32), w, past, nI u) = some (v, w', past', nI u') ∧ REL (M + 100) w' st wo pg wip rows le pa cu ro fi pr ti po ke kc ps sp tm' hd top' sk rp ms je' ov ∧ HIS (M + 100) u' past' hr' PS' ∧ ∀ x, 8 ≤ x → PS' x = PS x := ⟨_, _, _, _, u, hr, PS, w, past, rfl, rfl, REL_mono (by omega) r, HIS_mono (by omega) hh, fun _ _ => rfl⟩
  unfold f_X3_tick f_X4_tick f_X4_isIn
  by_cases a : p < 1
  · rw [if_pos a, if_pos a, Option.bind_some, if_pos rfl]
    exact keep
  rw [if_neg a, if_neg a]
  by_cases b : p ≤ 100
  · obtain ⟨k, hk, rfl⟩ := nI_of2 (x := p) (M := 100) (n := 100) rfl (fun q => a (by rw [Int32.lt_iff_toInt_lt] at q ⊢; rw [show (1 : Int32).toInt = 1 from rfl]; rw [show (0 : Int32).toInt = 0 from rfl] at q; omega)) b
    obtain ⟨u', hr', PS', past', d1, d2, d3, d4⟩ := P_recordBoth r hh
    obtain ⟨tm', top', je', w', t1, t2, t3, t4, tj, ts⟩ := P_tickBoth (a := k) hk (by omega) r roM rowsM hL
    have h18 : w 18 = je := by
      obtain ⟨z, _, e1, e2, e3, e4, e5, e6, e7, e8, e9, e10, e11, e12, e13, e14, e15, e16, e17, e18, e19, e20, e21, e22⟩ := r
      exact e21.symm
    rw [if_pos b, if_neg (Int32.not_lt.mpr b), Option.bind_some, if_neg (show ¬ (1 : Int32) = 0 by decide), d1, d2, Option.bind_some, Option.bind_some, t1, t2, Option.bind_some, h18]
    exact ⟨_, _, _, _, _, _, _, _, _, rfl, rfl, REL_mono (by omega) t4, HIS_mono (by omega) d3, d4⟩
  · rw [if_neg b, if_pos (Int32.not_le.mp b), Option.bind_some, if_pos rfl]
    exact keep
theorem P_releaseR {M u : Nat} {w past : Nat → Int32} {st : Nat → Int32} {wo pg wip rows : Int32} {le pa cu ro fi : Nat → Int32} {pr : Int32} {ti po ke : Nat → Int32} {kc ps sp tm hd top sk rp ms je ov : Int32} {hr : Nat → Nat} {PS : Nat → Nat → Nat → Int32} (r : REL M w st wo pg wip rows le pa cu ro fi pr ti po ke kc ps sp tm hd top sk rp ms je ov) (hh : HIS M u past hr PS) :
    ∃ v cu' u' hr' PS' w' past', f_X3_release st wo pg wip rows le pa cu ro fi pr ti po ke kc ps sp tm hd top sk rp ms je ov (nI u) hr PS = some (v, cu', nI u', hr', PS') ∧ f_X4_release w past (nI u) = some (v, w', past', nI u') ∧ REL M w' st wo pg wip rows le pa cu' ro fi pr ti po ke kc ps sp tm hd top sk rp ms je ov ∧ HIS M u' past' hr' PS' ∧ ∀ x, 8 ≤ x → PS' x = PS x := by
  unfold f_X3_release f_X4_release
  rcases P_cueBoth r with ⟨c1, c2⟩ | ⟨q, hq, c1, c2, c3, c4, c5⟩
  · rw [c1, c2, Option.bind_some, Option.bind_some, if_pos rfl, if_pos rfl]
    exact ⟨_, _, u, hr, PS, w, past, rfl, rfl, r, hh, fun _ _ => rfl⟩
  · obtain ⟨u', hr', PS', past', d1, d2, d3, d4⟩ := P_recordBoth r hh
    have hne : ¬ nI q = (-9 : Int32) := by rw [m9]; exact oI_n q (by omega)
    rw [c1, c2, Option.bind_some, Option.bind_some, if_neg hne, if_neg hne, d1, d2, Option.bind_some, Option.bind_some, c3, c4, Option.bind_some, Option.bind_some]
    exact ⟨_, _, _, _, _, _, _, rfl, rfl, c5, d3, d4⟩
theorem P_placeR {M u : Nat} {w past : Nat → Int32} {st : Nat → Int32} {wo pg wip rows : Int32} {le pa cu ro fi : Nat → Int32} {pr : Int32} {ti po ke : Nat → Int32} {kc ps sp tm hd top sk rp ms je ov : Int32} {hr : Nat → Nat} {PS : Nat → Nat → Nat → Int32} (r : REL M w st wo pg wip rows le pa cu ro fi pr ti po ke kc ps sp tm hd top sk rp ms je ov) (hh : HIS M u past hr PS) (p : Int32) :
    ∃ v cu' pr' kc' ps' hd' u' hr' PS' w' past', f_X3_place p st wo pg wip rows le pa cu ro fi pr ti po ke kc ps sp tm hd top sk rp ms je ov (nI u) hr PS = some (v, cu', pr', kc', ps', hd', nI u', hr', PS') ∧ f_X4_place p w past (nI u) = some (v, w', past', nI u') ∧ REL M w' st wo pg wip rows le pa cu' ro fi pr' ti po ke kc' ps' sp tm hd' top sk rp ms je ov ∧ HIS M u' past' hr' PS' ∧ ∀ x, 8 ≤ x → PS' x = PS x := by
  unfold f_X3_place f_X4_place
  rcases P_has r p with ⟨a1, a2⟩ | ⟨k, n, hk, hn, c1, c2, a1, a2⟩
  · rw [a1, a2, Option.bind_some, Option.bind_some, if_pos rfl, if_pos rfl]
    exact ⟨_, _, _, _, _, _, u, hr, PS, w, past, rfl, rfl, r, hh, fun _ _ => rfl⟩
  · obtain ⟨u', hr', PS', past', d1, d2, d3, d4⟩ := P_recordBoth r hh
    obtain ⟨cu', w', j1, j2, j3⟩ := P_jump (s := k) r (by omega) (by rw [c1]; exact nI_lt hk (by omega)) past' (nI u')
    subst c2
    rw [a1, a2, Option.bind_some, Option.bind_some, if_neg (show ¬ (1 : Int32) = 0 by decide), if_neg (show ¬ (1 : Int32) = 0 by decide), d1, d2, Option.bind_some, Option.bind_some, j1, Option.bind_some, Option.bind_some, Option.bind_some, Option.bind_some, Option.bind_some, show upd (upd (upd w 11 (nI k)) 20 0) 25 0 10 = w 10 by rw [upd_ne _ _ (by decide), upd_ne _ _ (by decide), upd_ne _ _ (by decide)], j2]
    exact ⟨_, _, _, _, _, _, _, _, _, _, _, rfl, rfl, j3, d3, d4⟩
theorem P_setR {M u : Nat} {w past : Nat → Int32} {st : Nat → Int32} {wo pg wip rows : Int32} {le pa cu ro fi : Nat → Int32} {pr : Int32} {ti po ke : Nat → Int32} {kc ps sp tm hd top sk rp ms je ov : Int32} {hr : Nat → Nat} {PS : Nat → Nat → Nat → Int32} (r : REL M w st wo pg wip rows le pa cu ro fi pr ti po ke kc ps sp tm hd top sk rp ms je ov) (hh : HIS M u past hr PS) (roM : Nat → Int32) (rowsM : Int32) (hL : LR wo rows ro roM rowsM) (p q : Int32) :
    ∃ v st' rows' ro' fi' top' u' hr' PS' w' past' roM' rowsM', f_X3_set p q st wo pg wip rows le pa cu ro fi pr ti po ke kc ps sp tm hd top sk rp ms je ov (nI u) hr PS = some (v, st', rows', ro', fi', top', nI u', hr', PS') ∧ f_X4_set p q w past (nI u) roM rowsM = some (v, w', past', nI u', roM', rowsM') ∧ REL M w' st' wo pg wip rows' le pa cu ro' fi' pr ti po ke kc ps sp tm hd top' sk rp ms je ov ∧ LR wo rows' ro' roM' rowsM' ∧ HIS M u' past' hr' PS' ∧ ∀ x, 8 ≤ x → PS' x = PS x := by
  have keep : ∃ v st' rows' ro' fi' top' u' hr' PS' w' past' roM' rowsM', some ((-1 : Int32), st, rows, ro, fi, top, nI u, hr, PS) = some (v, st', rows', ro', fi', top', nI u', hr', PS') ∧ some ((-1 : Int32), w, past, nI u, roM, rowsM) = some (v, w', past', nI u', roM', rowsM') ∧ REL M w' st' wo pg wip rows' le pa cu ro' fi' pr ti po ke kc ps sp tm hd top' sk rp ms je ov ∧ LR wo rows' ro' roM' rowsM' ∧ HIS M u' past' hr' PS' ∧ ∀ x, 8 ≤ x → PS' x = PS x := ⟨_, _, _, _, _, _, u, hr, PS, w, past, roM, rowsM, rfl, rfl, r, hL, hh, fun _ _ => rfl⟩
  unfold f_X3_set f_X4_set f_X3_isSetting
  by_cases a : p < 0
  · rw [if_pos a, P_isOf_no (Or.inl a), Option.bind_some, Option.bind_some, if_pos rfl, if_pos rfl]
    exact keep
  rw [if_neg a]
  by_cases b : 9 ≤ p
  · rw [if_pos b, P_isOf_no (Or.inr b), Option.bind_some, Option.bind_some, if_pos rfl, if_pos rfl]
    exact keep
  rw [if_neg b, Option.bind_some, if_neg (show ¬ (1 : Int32) = 0 by decide)]
  obtain ⟨k, hk, rfl⟩ := nI_of a
  have hk9 : k < 9 := by
    rcases Nat.lt_or_ge k 9 with y | y
    · exact y
    · exact absurd (nI_le (a := 9) y hk) b
  rw [P_at hk9 (by omega), Option.bind_some, P_isOf hk9, Option.bind_some, P_at hk9 (by omega), Option.bind_some]
  by_cases c : q < F_LEAST k
  · rw [if_pos c, if_pos (show (if F_LEAST k ≤ q ∧ q ≤ F_MOST k then (1 : Int32) else 0) = 0 by rw [if_neg (fun y => absurd c (Int32.not_lt.mpr y.1))])]
    exact keep
  rw [if_neg c]
  by_cases d : q ≤ F_MOST k
  · obtain ⟨x, hx, rfl⟩ := nI_of (x := q) (fun y => c (by
      have h0 : (0 : Int32) ≤ F_LEAST k := by
        rcases (show k = 0 ∨ k = 1 ∨ k = 2 ∨ k = 3 ∨ k = 4 ∨ k = 5 ∨ k = 6 ∨ k = 7 ∨ k = 8 by omega) with rfl | rfl | rfl | rfl | rfl | rfl | rfl | rfl | rfl <;> decide
      rw [Int32.lt_iff_toInt_lt] at y ⊢
      rw [Int32.le_iff_toInt_le] at h0
      omega))
    obtain ⟨u', hr', PS', past', d1, d2, d3, d4⟩ := P_recordBoth r hh
    obtain ⟨rows', ro', fi', top', roM', rowsM', x1, x2, x3, x4, x5, x6⟩ := P_change r hk9 hx (Int32.not_lt.mp c) d roM rowsM
    rw [if_pos d, if_neg (show ¬ (if F_LEAST k ≤ nI x ∧ nI x ≤ F_MOST k then (1 : Int32) else 0) = 0 by rw [if_pos ⟨Int32.not_lt.mp c, d⟩]; decide), d1, d2, Option.bind_some, Option.bind_some, P_at hk9 (by omega), Option.bind_some, x1, Option.bind_some, if_neg (ixN (show k < 510 by omega) (by omega)), if_neg (ixN (show k < 510 by omega) (by omega)), nI_clamp hk, Option.bind_some, x2, Option.bind_some, x3, Option.bind_some, Option.bind_some]
    exact ⟨_, _, _, _, _, _, _, _, _, _, _, _, _, rfl, by rw [x4], x5, x6, d3, d4⟩
  · rw [if_neg d, if_pos (show (if F_LEAST k ≤ q ∧ q ≤ F_MOST k then (1 : Int32) else 0) = 0 by rw [if_neg (fun y => d y.2)])]
    exact keep
theorem P_loadR {M u L : Nat} {w past : Nat → Int32} {st : Nat → Int32} {wo pg wip rows : Int32} {le pa cu ro fi : Nat → Int32} {pr : Int32} {ti po ke : Nat → Int32} {kc ps sp tm hd top sk rp ms je ov : Int32} {hr : Nat → Nat} {PS : Nat → Nat → Nat → Int32} (r : REL M w st wo pg wip rows le pa cu ro fi pr ti po ke kc ps sp tm hd top sk rp ms je ov) (hh : HIS M u past hr PS) (roM : Nat → Int32) (rowsM : Int32) (hL : LR wo rows ro roM rowsM) (hL140 : L ≤ 140) (tx tx' : Nat → Int32) (htx : ∀ i, i < L → tx i = tx' i) {fk fp fkM fpM : Int32} (hF : FT fk fp fkM fpM) (dw dp dwp drows : Int32) (dl dpa dc dro dfi : Nat → Int32) (wk wp rw0 rp0 : Int32) (rl rc rpg : Nat → Int32) :
    ∃ v fk' fp' D1 D2 D3 D4 D5 D6 wo' pg' wip' rows' le' pa' cu' ro' fi' pr' kc' ps' sp' tm' hd' top' sk' rp' ms' je' ov' u' hr' PS' w' past' fkM' fpM' roM' rowsM' R1 R2 R3 R4 R5 R6 R7, f_X3_load tx (nI L) fk fp dw dp dwp drows dl dpa dc dro dfi st wo pg wip rows le pa cu ro fi pr ti po ke kc ps sp tm hd top sk rp ms je ov (nI u) hr PS = some (v, fk', fp', D1, D2, D3, D4, D5, D6, wo', pg', wip', rows', le', pa', cu', ro', fi', pr', kc', ps', sp', tm', hd', top', sk', rp', ms', je', ov', nI u', hr', PS') ∧ f_X4_load w past (nI u) tx' (nI L) fkM fpM roM rowsM wk wp rw0 rp0 rl rc rpg = some (v, w', past', nI u', fkM', fpM', roM', rowsM', R1, R2, R3, R4, R5, R6, R7) ∧ REL M w' st wo' pg' wip' rows' le' pa' cu' ro' fi' pr' ti po ke kc' ps' sp' tm' hd' top' sk' rp' ms' je' ov' ∧ LR wo' rows' ro' roM' rowsM' ∧ HIS M u' past' hr' PS' ∧ FT fk' fp' fkM' fpM' ∧ ∀ x, 8 ≤ x → PS' x = PS x := by
  unfold f_X3_load f_X4_load
  rcases P_readText hL140 fk fp tx tx' htx dw dp dwp dl dpa dc wk wp rw0 rp0 rl rc rpg with ⟨k, pl, D1, D2, e1, e2, e3, e4⟩ | ⟨m, P, c, dl', dpa', dc', wp', rl', rc', rp', e1, e2, e3, e4, e5, ec, ep, e6⟩
  · rw [e1, e2, Option.bind_some, Option.bind_some, if_pos rfl, if_neg e3]
    exact ⟨_, _, _, _, _, _, _, _, _, _, _, _, _, _, _, _, _, _, _, _, _, _, _, _, _, _, _, _, _, _, u, hr, PS, w, past, _, _, roM, rowsM, _, _, _, _, _, _, _, rfl, rfl, r, hL, hh, Or.inr ⟨e4, rfl, rfl⟩, fun _ _ => rfl⟩
  · obtain ⟨u', hr', PS', past', d1, d2, d3, d4⟩ := P_recordBoth r hh
    obtain ⟨rows', le', pa', cu', ro', fi', b1, b2⟩ := P_begin (M' := M) r e3 c drows dl' dpa' dc' dro dfi rl' rc' rp' e5 ec ep e6
    obtain ⟨ro2, rows2, l1, l2⟩ := P_layR b2 roM rowsM
    have hl := P_loadM e3.2 w rl' rc' rp' past' (nI u') fkM fpM roM rowsM (-9) wp' (nI P)
    rw [l1, Option.bind_some] at hl
    rw [e1, e2, Option.bind_some, Option.bind_some, if_neg (show ¬ (1 : Int32) = 0 by decide), if_pos rfl, d1, d2, Option.bind_some, Option.bind_some, b1, Option.bind_some, hl]
    exact ⟨_, _, _, _, _, _, _, _, _, _, _, _, _, _, _, _, _, _, _, _, _, _, _, _, _, _, _, _, _, _, _, _, _, _, _, _, _, _, _, _, _, _, _, _, _, _, rfl, rfl, b2, l2, d3, hF, d4⟩
