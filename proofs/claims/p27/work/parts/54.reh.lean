theorem REL_n {M : Nat} {w : Nat → Int32} {st : Nat → Int32} {wo pg wip rows : Int32} {le pa cu ro fi : Nat → Int32} {pr : Int32} {ti po ke : Nat → Int32} {kc ps sp tm hd top sk rp ms je ov : Int32} (r : REL M w st wo pg wip rows le pa cu ro fi pr ti po ke kc ps sp tm hd top sk rp ms je ov) : ∃ n p, (1 ≤ n ∧ n ≤ 120) ∧ p ≤ n ∧ wo = nI n ∧ w 9 = nI n ∧ ps = nI p ∧ w 11 = nI p ∧ ∀ i, i < n → le i = w (150 + i) := by
  obtain ⟨z, ⟨hS, hN, hw, h20, h25, T, P, hT, hTP, hX⟩, e1, e2, e3, e4, e5, e6, e7, e8, e9, e10, e11, e12, e13, e14⟩ := r
  exact ⟨z 9, z 11, hN.1, hN.2.2.1, by rw [e2]; exact hw 9 (by omega), hw 9 (by omega), by rw [e13]; exact hw 11 (by omega), hw 11 (by omega), e5⟩
/-! reading to the end -/
theorem P_readLoop {a n : Nat} (ha : a ≤ 10) (hn : n ≤ 120) (roM : Nat → Int32) (rowsM : Int32) (st : Nat → Int32) (pg wip rows : Int32) (le pa ro fi : Nat → Int32) (hL : LR (nI n) rows ro roM rowsM) : ∀ m k g g' M (w : Nat → Int32) (cu : Nat → Int32) (pr : Int32) (ti po ke : Nat → Int32) (kc ps sp tm hd top sk rp ms je ov : Int32), k + m = n → m < g → M + 10 * m ≤ 90000 → REL M w st (nI n) pg wip rows le pa cu ro fi pr ti po ke kc ps sp tm hd top sk rp ms je ov →
    ∃ cu' pr' ti' po' ke' kc' ps' sp' tm' hd' top' sk' rp' ms' je' ov' w', f_X1_readToEnd_7 st (nI n) rows le ro (nI a) g (nI k) cu pr ti po ke kc ps sp tm hd top sk rp ms je ov = some (cu', pr', ti', po', ke', kc', ps', sp', tm', hd', top', sk', rp', ms', je', ov') ∧ (∀ x2 held, f_X4_rehearse_33 roM rowsM (nI a) x2 held (g' + m) (nI k) w = f_X4_rehearse_33 roM rowsM (nI a) x2 held g' (nI n) w') ∧ REL (M + 10 * m) w' st (nI n) pg wip rows le pa cu' ro fi pr' ti' po' ke' kc' ps' sp' tm' hd' top' sk' rp' ms' je' ov' := by
  intro m
  induction m with
  | zero =>
    intro k g g' M w cu pr ti po ke kc ps sp tm hd top sk rp ms je ov hk hg hM hR
    obtain ⟨g, rfl⟩ : ∃ z, g = z + 1 := ⟨g - 1, by omega⟩
    obtain rfl : k = n := by omega
    rw [f_X1_readToEnd_7, if_pos (nI_le (Nat.le_refl _) (by omega))]
    exact ⟨_, _, _, _, _, _, _, _, _, _, _, _, _, _, _, _, w, rfl, fun _ _ => rfl, hR⟩
  | succ m ih =>
    intro k g g' M w cu pr ti po ke kc ps sp tm hd top sk rp ms je ov hk hg hM hR
    obtain ⟨g, rfl⟩ : ∃ z, g = z + 1 := ⟨g - 1, by omega⟩
    have h9 : w 9 = nI n := by
      obtain ⟨n', p', _, _, c1, c2, _⟩ := REL_n hR
      rw [c2, ← c1]
    obtain ⟨tm1, top1, je1, w1, t1, t2, t3, t4, tj, ts⟩ := P_tickBoth (a := a) (by omega) (by omega) hR roM rowsM hL
    have hle : w1 (150 + k) = le k := by
      obtain ⟨n', p', b1, b2, c1, c2, c3, c4, c5⟩ := REL_n t4
      have : n' = n := ((nI_eq (by omega) (by omega)).mp c1).symm
      exact (c5 k (by omega)).symm
    obtain ⟨ac, cu2, pr2, ti2, po2, ke2, kc2, ps2, sp2, hd2, sk2, rp2, ms2, ov2, r2, w2, l1, l2, l3, lf, lk, l4⟩ := P_listen (by omega) (le k) t4
    have l5 := REL_mono (M' := M + 10) (by omega) l4
    have hgas : gas = (gas - a - 1) + 1 + a := by unfold gas; omega
    have step : ∀ x2 held, f_X4_rehearse_33 roM rowsM (nI a) x2 held (g' + (m + 1)) (nI k) w = (f_X4_nextCue w2).bind fun q80 => if q80 = nI k then (f_X4_releaseNext w2).bind fun q88 => f_X4_rehearse_33 roM rowsM (nI a) x2 held (g' + m) (nI (k + 1)) q88.2 else f_X4_rehearse_33 roM rowsM (nI a) x2 held (g' + m) (nI (k + 1)) w2 := by
      intro x2 held
      rw [show g' + (m + 1) = (g' + m) + 1 by omega, f_X4_rehearse_33, h9, if_neg (nI_ge (by omega) (by omega)), hgas, t3, f_X4_rehearse_47, if_pos (nI_le (Nat.le_refl _) (by omega)), show (150 : Int32) = nI 150 from rfl, nI_add, if_neg (ixN (by omega) (by omega)), nI_clamp (by omega), hle, l2, Option.bind_some, nI_1]
    rw [f_X1_readToEnd_7, if_neg (nI_ge (by omega) (by omega)), t1, Option.bind_some, P_at (by omega) (by omega), Option.bind_some]
    rw [l1, Option.bind_some]
    rcases P_cueBoth l5 with ⟨c1, c2⟩ | ⟨q, hq, c1, c2, c3, c4, c5⟩
    · obtain ⟨x1, x2, x3, x4, x5, x6, x7, x8, x9, x10, x11, x12, x13, x14, x15, x16, x17, y1, y2, y3⟩ := ih (k + 1) g g' (M + 10) w2 cu2 pr2 ti2 po2 ke2 kc2 ps2 sp2 tm1 hd2 top1 sk2 rp2 ms2 je1 ov2 (by omega) (by omega) (by omega) l5
      rw [c1, Option.bind_some, if_neg (fun z => oI_n k (by omega) (by rw [← z, m9])), nI_1]
      refine ⟨x1, x2, x3, x4, x5, x6, x7, x8, x9, x10, x11, x12, x13, x14, x15, x16, x17, y1, fun x2 held => ?_, ?_⟩
      · rw [step, c2, Option.bind_some, if_neg (fun z => oI_n k (by omega) (by rw [← z, m9]))]
        exact y2 x2 held
      · rw [show M + 10 * (m + 1) = M + 10 + 10 * m by omega]
        exact y3
    · rw [c1, Option.bind_some]
      by_cases e : q = k
      · subst e
        obtain ⟨x1, x2, x3, x4, x5, x6, x7, x8, x9, x10, x11, x12, x13, x14, x15, x16, x17, y1, y2, y3⟩ := ih (q + 1) g g' (M + 10) _ _ pr2 ti2 po2 ke2 kc2 ps2 sp2 tm1 hd2 top1 sk2 rp2 ms2 je1 ov2 (by omega) (by omega) (by omega) c5
        rw [if_pos rfl, c3, Option.bind_some, nI_1]
        refine ⟨x1, x2, x3, x4, x5, x6, x7, x8, x9, x10, x11, x12, x13, x14, x15, x16, x17, y1, fun x2 held => ?_, ?_⟩
        · rw [step, c2, Option.bind_some, if_pos rfl, c4, Option.bind_some]
          exact y2 x2 held
        · rw [show M + 10 * (m + 1) = M + 10 + 10 * m by omega]
          exact y3
      · obtain ⟨x1, x2, x3, x4, x5, x6, x7, x8, x9, x10, x11, x12, x13, x14, x15, x16, x17, y1, y2, y3⟩ := ih (k + 1) g g' (M + 10) w2 cu2 pr2 ti2 po2 ke2 kc2 ps2 sp2 tm1 hd2 top1 sk2 rp2 ms2 je1 ov2 (by omega) (by omega) (by omega) l5
        rw [if_neg (fun z => e ((nI_eq (by omega) (by omega)).mp z)), nI_1]
        refine ⟨x1, x2, x3, x4, x5, x6, x7, x8, x9, x10, x11, x12, x13, x14, x15, x16, x17, y1, fun x2 held => ?_, ?_⟩
        · rw [step, c2, Option.bind_some, if_neg (fun z => e ((nI_eq (by omega) (by omega)).mp z))]
          exact y2 x2 held
        · rw [show M + 10 * (m + 1) = M + 10 + 10 * m by omega]
          exact y3
/-! becoming another state -/
theorem P_copyRow {n : Nat} (hn : n < 2 ^ 31) (f g : Nat → Int32) : ∃ h, f_X3_copyRow n n f g = some h ∧ ∀ i, i < n → h i = f i := by
  unfold f_X3_copyRow
  have e : (if nI n < nI n then nI n else nI n) = nI n := by
    split <;> rfl
  rw [e, if_neg (by
    rw [nI_clamp hn]
    intro q
    rcases q with q | q | q
    · exact nI_pos hn q
    · omega
    · omega), nI_clamp hn]
  refine ⟨_, rfl, fun i hi => ?_⟩
  unfold va_cpy
  rw [if_pos (by omega)]
  exact congrArg f (by omega)
theorem laidR_ext {pas : Nat → Int32} {wd n : Nat} {ro fi ro' fi' : Nat → Int32} (hwd : 1 ≤ wd) (hn : n ≤ 120) (h1 : ∀ i, i < 120 → ro' i = ro i) (h2 : ∀ i, i < 120 → fi' i = fi i) (l : laidR pas wd n ro fi) : laidR pas wd n ro' fi' := by
  refine ⟨fun j hj => by rw [h1 j (by omega)]; exact l.1 j hj, fun j hj hnw => ?_⟩
  have a1 := rwR_lt (pas := pas) hwd (show j < j + 1 by omega)
  have a2 := (stR_fact pas hwd (j + 1)).2.1
  rw [h2 _ (by omega)]
  exact l.2 j hj hnw
theorem REL_rows {M : Nat} {w : Nat → Int32} {st : Nat → Int32} {wo pg wip rows : Int32} {le pa cu ro fi : Nat → Int32} {pr : Int32} {ti po ke : Nat → Int32} {kc ps sp tm hd top sk rp ms je ov : Int32} {st' le' pa' cu' ro' fi' ti' po' ke' : Nat → Int32} (h0 : ∀ i, i < 9 → st' i = st i) (h1 : ∀ i, i < 120 → le' i = le i) (h2 : ∀ i, i < 120 → pa' i = pa i) (h3 : ∀ i, i < 120 → cu' i = cu i) (h4 : ∀ i, i < 120 → ro' i = ro i) (h5 : ∀ i, i < 120 → fi' i = fi i) (h6 : ∀ i, i < 61 → ti' i = ti i) (h7 : ∀ i, i < 61 → po' i = po i) (h8 : ∀ i, i < 4 → ke' i = ke i) (r : REL M w st wo pg wip rows le pa cu ro fi pr ti po ke kc ps sp tm hd top sk rp ms je ov) : REL M w st' wo pg wip rows le' pa' cu' ro' fi' pr ti' po' ke' kc ps sp tm hd top sk rp ms je ov := by
  obtain ⟨z, ⟨hS, hN, hw, h20, h25, T, P, hT, hTP, hX⟩, e1, e2, e3, e4, e5, e6, e7, e8, e9, e10, e11, e12⟩ := r
  obtain ⟨n9, n10, n11, n12, n13, n14, n20⟩ := id hN
  have hT1 := hT.1
  refine ⟨z, ⟨hS, hN, hw, h20, h25, T, P, hT, hTP, hX⟩, fun i hi => by rw [h0 i hi]; exact e1 i hi, e2, e3, e4, fun i hi => by rw [h1 i (by omega)]; exact e5 i hi, fun i hi => by rw [h2 i (by omega)]; exact e6 i hi, fun i hi => by rw [h3 i (by omega)]; exact e7 i hi, laidR_ext hS.1.1 n9.2 h4 h5 e8, e9, fun i hi => by rw [h6 i (by omega), h7 i (by omega)]; exact e10 i hi, fun i hi => by rw [h8 i (by omega)]; exact e11 i hi, e12⟩
theorem P_become {M : Nat} {w : Nat → Int32} {st : Nat → Int32} {wo pg wip rows : Int32} {le pa cu ro fi : Nat → Int32} {pr : Int32} {ti po ke : Nat → Int32} {kc ps sp tm hd top sk rp ms je ov : Int32} (r : REL M w st wo pg wip rows le pa cu ro fi pr ti po ke kc ps sp tm hd top sk rp ms je ov) (st0 : Nat → Int32) (wo0 pg0 wip0 rows0 : Int32) (le0 pa0 cu0 ro0 fi0 : Nat → Int32) (pr0 : Int32) (ti0 po0 ke0 : Nat → Int32) (kc0 ps0 sp0 tm0 hd0 top0 sk0 rp0 ms0 je0 ov0 : Int32) :
    ∃ st' le' pa' cu' ro' fi' ti' po' ke', f_X1_become st0 wo0 pg0 wip0 rows0 le0 pa0 cu0 ro0 fi0 pr0 ti0 po0 ke0 kc0 ps0 sp0 tm0 hd0 top0 sk0 rp0 ms0 je0 ov0 st wo pg wip rows le pa cu ro fi pr ti po ke kc ps sp tm hd top sk rp ms je ov = some (st', wo, pg, wip, rows, le', pa', cu', ro', fi', pr, ti', po', ke', kc, ps, sp, tm, hd, top, sk, rp, ms, je, ov) ∧ REL M w st' wo pg wip rows le' pa' cu' ro' fi' pr ti' po' ke' kc ps sp tm hd top sk rp ms je ov ∧ (∀ i, i < 120 → ro' i = ro i) := by
  obtain ⟨st', a0, b0⟩ := P_copyRow (n := 9) (by decide) st st0
  obtain ⟨le', a1, b1⟩ := P_copyRow (n := 120) (by decide) le le0
  obtain ⟨pa', a2, b2⟩ := P_copyRow (n := 120) (by decide) pa pa0
  obtain ⟨cu', a3, b3⟩ := P_copyRow (n := 120) (by decide) cu cu0
  obtain ⟨ro', a4, b4⟩ := P_copyRow (n := 120) (by decide) ro ro0
  obtain ⟨fi', a5, b5⟩ := P_copyRow (n := 120) (by decide) fi fi0
  obtain ⟨ti', a6, b6⟩ := P_copyRow (n := 61) (by decide) ti ti0
  obtain ⟨po', a7, b7⟩ := P_copyRow (n := 61) (by decide) po po0
  obtain ⟨ke', a8, b8⟩ := P_copyRow (n := 4) (by decide) ke ke0
  refine ⟨st', le', pa', cu', ro', fi', ti', po', ke', ?_, REL_rows b0 b1 b2 b3 b4 b5 b6 b7 b8 r, b4⟩
  unfold f_X1_become f_X0_become f_X2_become
  simp only [a0, a1, a2, a3, a4, a5, a6, a7, a8, Option.bind_some]
