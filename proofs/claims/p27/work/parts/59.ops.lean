/-! the readers -/
theorem P_has {M : Nat} {w : Nat → Int32} {st : Nat → Int32} {wo pg wip rows : Int32} {le pa cu ro fi : Nat → Int32} {pr : Int32} {ti po ke : Nat → Int32} {kc ps sp tm hd top sk rp ms je ov : Int32} (r : REL M w st wo pg wip rows le pa cu ro fi pr ti po ke kc ps sp tm hd top sk rp ms je ov) (p : Int32) : (f_X0_has p wo = some 0 ∧ f_X4_isWord p w = some 0) ∨ ∃ k n : Nat, k < n ∧ n ≤ 120 ∧ wo = nI n ∧ p = nI k ∧ f_X0_has p wo = some 1 ∧ f_X4_isWord p w = some 1 := by
  obtain ⟨n, ps', hn, _, c1, c2, _⟩ := REL_n r
  unfold f_X0_has f_X4_isWord
  rw [P_isIn, P_bool, c1, c2, show (1 : Int32) = nI 1 from rfl, pk_sub hn.1]
  by_cases a : p < 0
  · rw [if_pos a, if_neg (fun q => absurd a (Int32.not_lt.mpr q.1))]
    exact Or.inl ⟨rfl, rfl⟩
  · obtain ⟨k, hk, rfl⟩ := nI_of a
    rw [if_neg a]
    by_cases b : n ≤ k
    · rw [if_pos (nI_le b hk), if_neg (fun q => nI_ge (show n - 1 < k by omega) hk q.2)]
      exact Or.inl ⟨rfl, rfl⟩
    · rw [if_neg (nI_ge (by omega) (by omega)), if_pos ⟨nI_pos' hk, nI_le (by omega) (by omega)⟩]
      exact Or.inr ⟨k, n, by omega, hn.2, rfl, rfl, rfl, rfl⟩
theorem P_estBoth {M : Nat} {w : Nat → Int32} {st : Nat → Int32} {wo pg wip rows : Int32} {le pa cu ro fi : Nat → Int32} {pr : Int32} {ti po ke : Nat → Int32} {kc ps sp tm hd top sk rp ms je ov : Int32} (hM : M ≤ 90000) (r : REL M w st wo pg wip rows le pa cu ro fi pr ti po ke kc ps sp tm hd top sk rp ms je ov) (roM : Nat → Int32) (rowsM : Int32) (hL : LR wo rows ro roM rowsM) : ∃ e v, f_X1_estimatedWord st wo cu ps sp tm hd = some e ∧ f_X4_estimated w = some e ∧ f_X1_desiredTop e st rows ro = some v ∧ f_X4_desired w roM rowsM = some v := by
  obtain ⟨z, ⟨hS, hN, hw, h20, h25, T, P, hT, hTP, hX⟩, e1, e2, e3, e4, e5, e6, e7, e8, e9, e10, e11, e12, e13, e14, e15, e16, e17, e18, e19, e20, e21, e22⟩ := r
  obtain ⟨n9, n10, n11, n12, n13, n14, n20⟩ := id hN
  obtain ⟨s0, s1, s2, s3, s4, s5, s6, s7, s8⟩ := id hS
  have hst : ∀ i, i < 9 → st i = nI (z i) := fun i hi => by rw [e1 i hi]; exact hw i (by omega)
  have ec : nxO (fun j => w (270 + j)) (z 9) 0 = nxO cu (z 9) 0 := nxO_congr _ _ (fun i _ hi => (e7 i (by omega)).symm)
  have hL0 := holdN_lt (c := cu) n9.1
  have hE := estN_le (z 11) (z 12) (z 10) (z 13) 0 (z 8) (holdN (nxO cu (z 9) 0) (z 9))
  have hr := (stR_fact (pasW w) s0.1 (z 9)).2.1
  have a1 := P_estWord (n := z 9) (p := z 11) (sp := z 12) (t := z 10) (h := z 13) (lg := z 8) n9 (by omega) n12 (by omega) n13 s8 st cu (hst 8 (by omega))
  have a2 := P_estM (n := z 9) (p := z 11) (sp := z 12) (t := z 10) (h := z 13) (lg := z 8) n9 (by omega) n12 (by omega) n13 s8 w (hw 9 (by omega)) (hw 10 (by omega)) (hw 11 (by omega)) (hw 12 (by omega)) (hw 13 (by omega)) (hw 8 (by omega))
  rw [ec] at a2
  have a3 := P_desired (H := z 1) (lead := z 2) (rows := (stR (pasW w) (z 0) (z 9)).2) (e := estN (z 11) (z 12) (z 10) (z 13) 0 (z 8) (holdN (nxO cu (z 9) 0) (z 9))) (r := rwR (pasW w) (z 0) (estN (z 11) (z 12) (z 10) (z 13) 0 (z 8) (holdN (nxO cu (z 9) 0) (z 9)))) s1 s2 (by omega) (by omega) (rwR_le s0.1 (by omega)) st ro (hst 1 (by omega)) (hst 2 (by omega)) (e8.1 _ (by omega))
  have a4 := P_desM (n := z 9) (p := z 11) (sp := z 12) (t := z 10) (h := z 13) (lg := z 8) (H := z 1) (lead := z 2) (rows := (stR (pasW w) (z 0) (z 9)).2) (r := rwR (pasW w) (z 0) (estN (z 11) (z 12) (z 10) (z 13) 0 (z 8) (holdN (nxO cu (z 9) 0) (z 9)))) n9 (by omega) n12 (by omega) n13 s8 s1 s2 (by omega) (rwR_le s0.1 (by omega)) w roM (hw 9 (by omega)) (hw 10 (by omega)) (hw 11 (by omega)) (hw 12 (by omega)) (hw 13 (by omega)) (hw 8 (by omega)) (hw 1 (by omega)) (hw 2 (by omega)) (by
    rw [ec, hL.2 _ (by omega) (by rw [e2, hw 9 (by omega)]; exact nI_lt (by omega) (by omega))]
    exact e8.1 _ (by omega))
  rw [← e4] at a3
  rw [← e4, ← hL.1] at a4
  rw [← hw 9 (by omega), ← e2, ← hw 11 (by omega), ← e13, ← hw 12 (by omega), ← e14, ← hw 10 (by omega), ← e15, ← hw 13 (by omega), ← e16] at a1
  exact ⟨_, _, a1, a2, a3, a4⟩
theorem P_cueN {M : Nat} {w : Nat → Int32} {st : Nat → Int32} {wo pg wip rows : Int32} {le pa cu ro fi : Nat → Int32} {pr : Int32} {ti po ke : Nat → Int32} {kc ps sp tm hd top sk rp ms je ov : Int32} (r : REL M w st wo pg wip rows le pa cu ro fi pr ti po ke kc ps sp tm hd top sk rp ms je ov) : ∃ v u, f_X0_cueCount wo cu = some v ∧ f_X4_cues w = some v ∧ f_X0_nextCue wo cu = some u ∧ f_X4_nextCue w = some u := by
  have hc : ∃ u, f_X0_nextCue wo cu = some u ∧ f_X4_nextCue w = some u := by
    rcases P_cueBoth r with ⟨a, b⟩ | ⟨k, _, a, b, _⟩
    · exact ⟨_, a, b⟩
    · exact ⟨_, a, b⟩
  obtain ⟨u, u1, u2⟩ := hc
  obtain ⟨z, ⟨hS, hN, hw, h20, h25, T, P, hT, hTP, hX⟩, e1, e2, e3, e4, e5, e6, e7, e8⟩ := r
  refine ⟨_, u, ?_, P_cuesM hN.1.2 w (hw 9 (by omega)), u1, u2⟩
  rw [e2, hw 9 (by omega), P_cueCount hN.1.2, cuN_congr (c := cu) (d := fun j => w (270 + j)) (z 9) 0 (fun j _ hj => e7 j (by omega))]
theorem P_told {M : Nat} {w : Nat → Int32} {st : Nat → Int32} {wo pg wip rows : Int32} {le pa cu ro fi : Nat → Int32} {pr : Int32} {ti po ke : Nat → Int32} {kc ps sp tm hd top sk rp ms je ov : Int32} (hM : M ≤ 90000) (r : REL M w st wo pg wip rows le pa cu ro fi pr ti po ke kc ps sp tm hd top sk rp ms je ov) (roM : Nat → Int32) (rowsM : Int32) (hL : LR wo rows ro roM rowsM) (p un : Int32) : ∃ v, f_X3_told p st wo pg rows cu ro pr kc ps sp tm hd top sk rp ms je ov un = some v ∧ f_X4_told p w un roM rowsM = some v := by
  obtain ⟨e, v9, x1, x2, x3, x4⟩ := P_estBoth hM r roM rowsM hL
  obtain ⟨v3, v16, y1, y2, y3, y4⟩ := P_cueN r
  obtain ⟨z, ⟨hS, hN, hw, h20, h25, T, P, hT, hTP, hX⟩, e1, e2, e3, e4, e5, e6, e7, e8, e9, e10, e11, e12, e13, e14, e15, e16, e17, e18, e19, e20, e21, e22⟩ := r
  have hn := hN.1
  unfold f_X3_told f_X4_told
  by_cases a : p = 0
  · rw [if_pos a, if_pos a]
    exact ⟨_, rfl, by rw [e2]⟩
  rw [if_neg a, if_neg a]
  clear a
  by_cases a : p = 1
  · rw [if_pos a, if_pos a]
    exact ⟨_, rfl, by rw [hL.1]⟩
  rw [if_neg a, if_neg a]
  clear a
  by_cases a : p = 2
  · rw [if_pos a, if_pos a]
    rw [hw 9 (by omega), show (390 : Int32) = nI 390 from rfl, show (1 : Int32) = nI 1 from rfl, nI_add, pk_sub (by omega), if_neg (ixN (by omega) (by omega)), nI_clamp (by omega), show 390 + z 9 - 1 = 390 + (z 9 - 1) by omega]
    exact ⟨_, rfl, by rw [e3]; rfl⟩
  rw [if_neg a, if_neg a]
  clear a
  by_cases a : p = 3
  · rw [if_pos a, if_pos a]
    rw [y1, y2]; exact ⟨_, rfl, rfl⟩
  rw [if_neg a, if_neg a]
  clear a
  by_cases a : p = 4
  · rw [if_pos a, if_pos a]
    exact ⟨_, rfl, by rw [e15]⟩
  rw [if_neg a, if_neg a]
  clear a
  by_cases a : p = 5
  · rw [if_pos a, if_pos a]
    exact ⟨_, rfl, by rw [e13]⟩
  rw [if_neg a, if_neg a]
  clear a
  by_cases a : p = 6
  · rw [if_pos a, if_pos a]
    exact ⟨_, rfl, by rw [e14]⟩
  rw [if_neg a, if_neg a]
  clear a
  by_cases a : p = 7
  · rw [if_pos a, if_pos a]
    rw [x1, x2]; exact ⟨_, rfl, rfl⟩
  rw [if_neg a, if_neg a]
  clear a
  by_cases a : p = 8
  · rw [if_pos a, if_pos a]
    exact ⟨_, rfl, by rw [e17]⟩
  rw [if_neg a, if_neg a]
  clear a
  by_cases a : p = 9
  · rw [if_pos a, if_pos a]
    rw [x1, x4, Option.bind_some, x3]; exact ⟨_, rfl, rfl⟩
  rw [if_neg a, if_neg a]
  clear a
  by_cases a : p = 10
  · rw [if_pos a, if_pos a]
    rw [a, if_neg (by decide), show (((15 : Int32) + 10) - 10).toNatClampNeg = 15 by decide]; exact ⟨_, rfl, by rw [e18]⟩
  rw [if_neg a, if_neg a]
  clear a
  by_cases a : p = 11
  · rw [if_pos a, if_pos a]
    rw [a, if_neg (by decide), show (((15 : Int32) + 11) - 10).toNatClampNeg = 16 by decide]; exact ⟨_, rfl, by rw [e19]⟩
  rw [if_neg a, if_neg a]
  clear a
  by_cases a : p = 12
  · rw [if_pos a, if_pos a]
    rw [a, if_neg (by decide), show (((15 : Int32) + 12) - 10).toNatClampNeg = 17 by decide]; exact ⟨_, rfl, by rw [e20]⟩
  rw [if_neg a, if_neg a]
  clear a
  by_cases a : p = 13
  · rw [if_pos a, if_pos a]
    rw [a, if_neg (by decide), show (((15 : Int32) + 13) - 10).toNatClampNeg = 18 by decide]; exact ⟨_, rfl, by rw [e21]⟩
  rw [if_neg a, if_neg a]
  clear a
  by_cases a : p = 14
  · rw [if_pos a, if_pos a]
    rw [a, if_neg (by decide), show (((15 : Int32) + 14) - 10).toNatClampNeg = 19 by decide]; exact ⟨_, rfl, by rw [e22]⟩
  rw [if_neg a, if_neg a]
  clear a
  by_cases a : p = 15
  · rw [if_pos a, if_pos a]
    exact ⟨_, rfl, by rw [e9]⟩
  rw [if_neg a, if_neg a]
  clear a
  by_cases a : p = 16
  · rw [if_pos a, if_pos a]
    rw [y3, y4]; exact ⟨_, rfl, rfl⟩
  rw [if_neg a, if_neg a]
  clear a
  by_cases a : p = 17
  · rw [if_pos a, if_pos a]
    exact ⟨_, rfl, by rw [e12]⟩
  rw [if_neg a, if_neg a]
  clear a
  by_cases a : p = 18
  · rw [if_pos a]
    exact ⟨_, rfl, rfl⟩
  rw [if_neg a]
  clear a
  exact ⟨_, rfl, rfl⟩
theorem P_setting {M : Nat} {w : Nat → Int32} {st : Nat → Int32} {wo pg wip rows : Int32} {le pa cu ro fi : Nat → Int32} {pr : Int32} {ti po ke : Nat → Int32} {kc ps sp tm hd top sk rp ms je ov : Int32} (r : REL M w st wo pg wip rows le pa cu ro fi pr ti po ke kc ps sp tm hd top sk rp ms je ov) (p : Int32) : ∃ v, f_X3_setting p st = some v ∧ f_X4_setting p w = some v := by
  obtain ⟨z, ⟨hS, hN, hw, h20, h25, T, P, hT, hTP, hX⟩, e1, e2⟩ := r
  unfold f_X3_setting f_X4_setting f_X3_isSetting
  rw [P_isIn, Option.bind_some]
  by_cases a : p < 0
  · rw [if_pos a, Option.bind_some, if_pos rfl, if_pos (by rw [if_neg (fun q => absurd a (Int32.not_lt.mpr q.1))])]
    exact ⟨_, rfl, rfl⟩
  · obtain ⟨k, hk, rfl⟩ := nI_of a
    rw [if_neg a]
    by_cases b : 9 ≤ k
    · rw [if_pos (show (9 : Int32) ≤ nI k from nI_le (a := 9) b hk), Option.bind_some, if_pos rfl, if_pos (by rw [if_neg (fun q => nI_ge (a := 8) (show 8 < k by omega) hk q.2)])]
      exact ⟨_, rfl, rfl⟩
    · rw [if_neg (show ¬ (9 : Int32) ≤ nI k from nI_ge (b := 9) (by omega) (by omega)), Option.bind_some, if_neg (by decide), if_neg (by rw [if_pos ⟨nI_pos' hk, nI_le (b := 8) (by omega) (by omega)⟩]; decide), P_at (by omega) (by omega), Option.bind_some, if_neg (ixN (by omega) (by omega)), nI_clamp (by omega)]
      exact ⟨_, rfl, by rw [e1 k (by omega)]⟩
theorem P_word {M : Nat} {w : Nat → Int32} {st : Nat → Int32} {wo pg wip rows : Int32} {le pa cu ro fi : Nat → Int32} {pr : Int32} {ti po ke : Nat → Int32} {kc ps sp tm hd top sk rp ms je ov : Int32} (r : REL M w st wo pg wip rows le pa cu ro fi pr ti po ke kc ps sp tm hd top sk rp ms je ov) (roM : Nat → Int32) (rowsM : Int32) (hL : LR wo rows ro roM rowsM) (p q : Int32) : ∃ v, f_X3_word p q st wo le pa cu ro top = some v ∧ f_X4_word p q w roM = some v := by
  unfold f_X3_word f_X4_word
  rcases P_has r p with ⟨a1, a2⟩ | ⟨k, n, hk, hn, c1, c2, a1, a2⟩
  · rw [a1, a2, Option.bind_some, Option.bind_some, if_pos rfl, if_pos rfl]
    exact ⟨_, rfl, rfl⟩
  · rw [a1, a2, Option.bind_some, Option.bind_some, if_neg (show ¬ (1 : Int32) = 0 by decide), if_neg (show ¬ (1 : Int32) = 0 by decide)]
    obtain ⟨z, ⟨hS, hN, hw, h20, h25, T, P, hT, hTP, hX⟩, e1, e2, e3, e4, e5, e6, e7, e8, e9, e10, e11, e12, e13, e14, e15, e16, e17, e18⟩ := r
    have hz : n = z 9 := (nI_eq (by omega) (by have := hN.1; omega)).mp (by rw [← c1, e2, hw 9 (by omega)])
    have hro : roM k = ro k := hL.2 k (by omega) (by rw [c1]; exact nI_lt hk (by omega))
    subst c2
    by_cases b0 : q = 0
    · rw [if_pos b0, if_pos b0, P_at (by omega) (by omega), Option.bind_some, show (150 : Int32) = nI 150 from rfl, nI_add, if_neg (ixN (by omega) (by omega)), nI_clamp (by omega)]
      exact ⟨_, rfl, by rw [e5 k (by omega)]⟩
    rw [if_neg b0, if_neg b0]
    by_cases b1 : q = 1
    · rw [if_pos b1, if_pos b1, P_at (by omega) (by omega), Option.bind_some, if_neg (ixN (by omega) (by omega)), nI_clamp (by omega)]
      exact ⟨_, rfl, by rw [hro]⟩
    rw [if_neg b1, if_neg b1]
    by_cases b2 : q = 2
    · rw [if_pos b2, if_pos b2, P_at (by omega) (by omega), Option.bind_some, show (390 : Int32) = nI 390 from rfl, nI_add, if_neg (ixN (by omega) (by omega)), nI_clamp (by omega)]
      exact ⟨_, rfl, by rw [e6 k (by omega)]⟩
    rw [if_neg b2, if_neg b2]
    by_cases b3 : q = 3
    · rw [if_pos b3, if_pos b3, P_at (by omega) (by omega), Option.bind_some, show (270 : Int32) = nI 270 from rfl, nI_add, if_neg (ixN (by omega) (by omega)), nI_clamp (by omega)]
      exact ⟨_, rfl, by rw [e7 k (by omega)]⟩
    rw [if_neg b3, if_neg b3]
    by_cases b4 : q = 4
    · have hr := rwR_le (pas := pasW w) hS.1.1 (show k < 120 by omega)
      have htop := hN.2.2.2.2.2.1
      have s1 := P_shows (H := z 1) (r := rwR (pasW w) (z 0) k) (top := (z 14 : Int)) hS.2.1 hr (by omega) st (by rw [e1 1 (by omega)]; exact hw 1 (by omega))
      have s2 := P_shownM (H := z 1) (r := rwR (pasW w) (z 0) k) (top := (z 14 : Int)) hS.2.1 hr (by omega) w (hw 1 (by omega)) (by rw [hw 14 (by omega), nI_iI])
      rw [if_pos b4, if_pos b4, P_at (by omega) (by omega), Option.bind_some, if_neg (ixN (by omega) (by omega)), nI_clamp (by omega), hro, e8.1 k (by omega), e17, hw 14 (by omega), nI_iI (z 14), s1, s2, Option.bind_some]
      by_cases y : (if 100 * (rwR (pasW w) (z 0) k : Int) < (z 14 : Int) ∨ (z 14 : Int) + 100 * ((z 1 : Int) - 1) < 100 * (rwR (pasW w) (z 0) k : Int) then (0 : Int32) else 1) = 0
      · rw [if_pos y]; exact ⟨_, rfl, rfl⟩
      · rw [if_neg y]; exact ⟨_, rfl, rfl⟩
    rw [if_neg b4, if_neg b4]
    exact ⟨_, rfl, rfl⟩
theorem P_heard {M : Nat} {w : Nat → Int32} {st : Nat → Int32} {wo pg wip rows : Int32} {le pa cu ro fi : Nat → Int32} {pr : Int32} {ti po ke : Nat → Int32} {kc ps sp tm hd top sk rp ms je ov : Int32} (r : REL M w st wo pg wip rows le pa cu ro fi pr ti po ke kc ps sp tm hd top sk rp ms je ov) (p : Int32) : ∃ v, f_X3_heard p ke kc = some v ∧ f_X4_heard p w = some v := by
  obtain ⟨z, ⟨hS, hN, hw, h20, h25, T, P, hT, hTP, hX⟩, e1, e2, e3, e4, e5, e6, e7, e8, e9, e10, e11, e12, e13⟩ := r
  have hk4 := hN.2.2.2.2.2.2
  unfold f_X3_heard f_X4_heard
  by_cases a : 0 ≤ p
  · obtain ⟨k, hk, rfl⟩ := nI_of (Int32.not_lt.mpr a)
    rw [if_pos a, if_pos a, e12, h20]
    by_cases b : z 20 ≤ k
    · rw [if_pos (nI_le b hk), if_pos (nI_le b hk)]
      exact ⟨_, rfl, rfl⟩
    · rw [if_neg (nI_ge (by omega) (by omega)), if_neg (nI_ge (by omega) (by omega)), P_at (by omega) (by omega), Option.bind_some, show (21 : Int32) = nI 21 from rfl, nI_add, if_neg (ixN (by omega) (by omega)), nI_clamp (by omega)]
      exact ⟨_, rfl, by rw [e11 k (by omega)]⟩
  · rw [if_neg a, if_neg a]
    exact ⟨_, rfl, rfl⟩
theorem P_trailR {M : Nat} {w : Nat → Int32} {st : Nat → Int32} {wo pg wip rows : Int32} {le pa cu ro fi : Nat → Int32} {pr : Int32} {ti po ke : Nat → Int32} {kc ps sp tm hd top sk rp ms je ov : Int32} (r : REL M w st wo pg wip rows le pa cu ro fi pr ti po ke kc ps sp tm hd top sk rp ms je ov) (p q : Int32) : ∃ v, f_X3_trail p q pr ti po = some v ∧ f_X4_trail p q w = some v := by
  obtain ⟨z, ⟨hS, hN, hw, h20, h25, T, P, hT, hTP, hX⟩, e1, e2, e3, e4, e5, e6, e7, e8, e9, e10, e11⟩ := r
  have hT1 := hT.1
  unfold f_X3_trail f_X4_trail
  rw [P_isIn, Option.bind_some]
  by_cases a : p < 0
  · rw [if_pos a, if_pos a]; exact ⟨_, rfl, rfl⟩
  rw [if_neg a, if_neg a]
  by_cases b : q < 0
  · rw [if_pos b, if_pos (by rw [if_neg (fun y => absurd b (Int32.not_lt.mpr y.1))])]; exact ⟨_, rfl, rfl⟩
  rw [if_neg b]
  by_cases c : q ≤ 1
  · rw [if_pos c, if_neg (show ¬ (if (0 : Int32) ≤ q ∧ q ≤ 1 then (1 : Int32) else 0) = 0 by rw [if_pos ⟨Int32.not_lt.mp b, c⟩]; decide), e9, h25]
    obtain ⟨k, hk, rfl⟩ := nI_of a
    by_cases d : k < z 25
    · rw [if_pos (nI_lt d (by omega)), if_neg (nI_ge d (by omega)), show (26 : Int32) = nI 26 from rfl, show (2 : Int32) = nI 2 from rfl, nI_mul, nI_add]
      by_cases f : q = 0
      · rw [if_pos f, f, P_at (by omega) (by omega), Option.bind_some, show nI (26 + 2 * k) + 0 = nI (26 + 2 * k) from nI_add _ 0, if_neg (ixN (by omega) (by omega)), nI_clamp (by omega)]
        exact ⟨_, rfl, by rw [(e10 k d).1]⟩
      · obtain ⟨j, hj, rfl⟩ := nI_of2 (M := 1) (n := 1) rfl b c
        have : j = 1 := by
          rcases (show j = 0 ∨ j = 1 by omega) with y | y
          · exact absurd (by rw [y]; rfl) f
          · exact y
        subst this
        rw [if_neg f, P_at (by omega) (by omega), Option.bind_some, nI_add, if_neg (ixN (by omega) (by omega)), nI_clamp (by omega), show 26 + 2 * k + 1 = 27 + 2 * k by omega]
        exact ⟨_, rfl, by rw [(e10 k d).2]⟩
    · rw [if_neg (nI_nlt (by omega) hk), if_pos (nI_le (by omega) hk)]
      exact ⟨_, rfl, rfl⟩
  · rw [if_neg c, if_pos (by rw [if_neg (fun y => c y.2)])]
    exact ⟨_, rfl, rfl⟩
theorem P_scoreR {M : Nat} {w : Nat → Int32} {st : Nat → Int32} {wo pg wip rows : Int32} {le pa cu ro fi : Nat → Int32} {pr : Int32} {ti po ke : Nat → Int32} {kc ps sp tm hd top sk rp ms je ov : Int32} (r : REL M w st wo pg wip rows le pa cu ro fi pr ti po ke kc ps sp tm hd top sk rp ms je ov) (p : Int32) : ∃ v, f_X3_score p wo le ke kc = some v ∧ f_X4_score p w = some v := by
  unfold f_X3_score f_X4_score
  rcases P_has r p with ⟨a1, a2⟩ | ⟨k, n, hk, hn, c1, c2, a1, a2⟩
  · rw [a1, a2, Option.bind_some, Option.bind_some, if_pos rfl, if_pos rfl]
    exact ⟨_, rfl, rfl⟩
  · rw [a1, a2, Option.bind_some, Option.bind_some, if_neg (show ¬ (1 : Int32) = 0 by decide), if_neg (show ¬ (1 : Int32) = 0 by decide)]
    obtain ⟨z, ⟨hS, hN, hw, h20, h25, T, P, hT, hTP, hX⟩, e1, e2, e3, e4, e5, e6, e7, e8, e9, e10, e11, e12, e13⟩ := r
    have hk4 := hN.2.2.2.2.2.2
    have hz : n = z 9 := (nI_eq (by omega) (by have := hN.1; omega)).mp (by rw [← c1, e2, hw 9 (by omega)])
    rw [c2, e12, h20, P_points hk4 (by omega) le ke, P_score hk4 (by omega) w h20, Option.bind_some, Option.bind_some]
    refine ⟨_, rfl, ?_⟩
    rw [show sc le ke (z 20) k = sc (fun i => w (150 + i)) (fun i => w (21 + i)) (z 20) k from scN_congr (fun i hi => e5 i (by omega)) e11 3 1 (by omega)]
theorem P_bestR {M : Nat} {w : Nat → Int32} {st : Nat → Int32} {wo pg wip rows : Int32} {le pa cu ro fi : Nat → Int32} {pr : Int32} {ti po ke : Nat → Int32} {kc ps sp tm hd top sk rp ms je ov : Int32} (r : REL M w st wo pg wip rows le pa cu ro fi pr ti po ke kc ps sp tm hd top sk rp ms je ov) (p q : Int32) : ∃ v, f_X3_best p q st wo le ke kc ps = some v ∧ f_X4_best p q w = some v := by
  obtain ⟨z, ⟨hS, hN, hw, h20, h25, T, P, hT, hTP, hX⟩, e1, e2, e3, e4, e5, e6, e7, e8, e9, e10, e11, e12, e13, e14⟩ := r
  obtain ⟨n9, n10, n11, n12, n13, n14, n20⟩ := id hN
  obtain ⟨s0, s1, s2, s3, s4, s5, s6, s7, s8⟩ := id hS
  have b1 : f_X1_bestCandidate p st wo le ke kc ps = some (oI (bestN le ke (z 20) (z 11) (z 9) (z 3) (z 4) p)) := by
    rw [e2, hw 9 (by omega), e12, h20, e13, hw 11 (by omega)]
    exact P_best (kc := z 20) (p := z 11) (n := z 9) (bk := z 3) (ah := z 4) n20 n11 n9 s3 s4 le ke st (by rw [e1 3 (by omega)]; exact hw 3 (by omega)) (by rw [e1 4 (by omega)]; exact hw 4 (by omega)) p
  have b2 := P_bestM (kc := z 20) (p := z 11) (n := z 9) (bk := z 3) (ah := z 4) n20 n11 n9 s3 s4 w (hw 9 (by omega)) h20 (hw 11 (by omega)) (hw 3 (by omega)) (hw 4 (by omega)) p
  rw [← bestN_congr (L := le) (K := ke) p n9.1 n11 s4.1 e5 e11] at b2
  unfold f_X3_best f_X4_best
  rw [P_isLet, P_isIn, Option.bind_some]
  rcases isLet_2 p with hl | hl
  · rw [hl, Option.bind_some, Option.bind_some, if_pos rfl, if_pos rfl]; exact ⟨_, rfl, rfl⟩
  rw [hl, Option.bind_some, Option.bind_some, if_neg (show ¬ (1 : Int32) = 0 by decide), if_neg (show ¬ (1 : Int32) = 0 by decide)]
  by_cases b : q < 0
  · rw [if_pos b, if_pos (by rw [if_neg (fun y => absurd b (Int32.not_lt.mpr y.1))])]; exact ⟨_, rfl, rfl⟩
  rw [if_neg b]
  by_cases c : q ≤ 2
  · rw [if_pos c, if_neg (show ¬ (if (0 : Int32) ≤ q ∧ q ≤ 2 then (1 : Int32) else 0) = 0 by rw [if_pos ⟨Int32.not_lt.mp b, c⟩]; decide), b1, b2, Option.bind_some, Option.bind_some]
    cases hb : bestN le ke (z 20) (z 11) (z 9) (z 3) (z 4) p with
    | none =>
      rw [show oI none = (-9 : Int32) from m9.symm, if_pos rfl, if_pos rfl]
      exact ⟨_, rfl, rfl⟩
    | some j =>
      have hj := bestN_lt n9.1 n11 s4.1 hb
      have hne : ¬ nI j = (-9 : Int32) := by rw [m9]; exact oI_n j (by omega)
      rw [show oI (some j) = nI j from rfl, if_neg hne, if_neg hne]
      by_cases d : q = 0
      · rw [if_pos d, if_pos d]; exact ⟨_, rfl, rfl⟩
      rw [if_neg d, if_neg d]
      by_cases f : q = 1
      · rw [if_pos f, if_pos f, e12, h20, P_points n20 (by omega) le ke, P_score n20 (by omega) w h20, Option.bind_some, Option.bind_some]
        refine ⟨_, rfl, ?_⟩
        rw [show sc le ke (z 20) j = sc (fun i => w (150 + i)) (fun i => w (21 + i)) (z 20) j from scN_congr (fun i hi => e5 i (by omega)) e11 3 1 (by omega)]
      rw [if_neg f, if_neg f]
      have a1 : f_X1_accepts (nI j) st le ke kc ps = some (if acc le ke (z 20) (z 11) (z 5) j = true then 1 else 0) := by
        rw [e12, h20, e13, hw 11 (by omega)]
        exact P_accepts (kc := z 20) (p := z 11) (j := j) (nd := z 5) n20 (by omega) (by omega) s5.2 le ke st (by rw [e1 5 (by omega)]; exact hw 5 (by omega))
      have a2 := P_acceptsM (kc := z 20) (p := z 11) (j := j) (nd := z 5) n20 (by omega) (by omega) s5.2 w h20 (hw 11 (by omega)) (hw 5 (by omega))
      rw [← acc_congr (L := le) (K := ke) (fun i hi => e5 i (by omega)) e11] at a2
      rw [a1, a2, Option.bind_some]
      by_cases y : (if acc le ke (z 20) (z 11) (z 5) j = true then (1 : Int32) else 0) = 0
      · rw [if_pos y]; exact ⟨_, rfl, rfl⟩
      · rw [if_neg y]; exact ⟨_, rfl, rfl⟩
  · rw [if_neg c, if_pos (by rw [if_neg (fun y => c y.2)])]
    exact ⟨_, rfl, rfl⟩
theorem P_reachedR {M : Nat} {w : Nat → Int32} {st : Nat → Int32} {wo pg wip rows : Int32} {le pa cu ro fi : Nat → Int32} {pr : Int32} {ti po ke : Nat → Int32} {kc ps sp tm hd top sk rp ms je ov : Int32} (hM : M ≤ 89000) (r : REL M w st wo pg wip rows le pa cu ro fi pr ti po ke kc ps sp tm hd top sk rp ms je ov) (p : Int32) : ∃ v, f_X3_reached p st wo cu ps sp tm hd = some v ∧ f_X4_reached p w = some (v, w) := by
  unfold f_X3_reached f_X4_reached
  rcases P_has r p with ⟨a1, a2⟩ | ⟨k, n, hk, hn, c1, c2, a1, a2⟩
  · rw [a1, a2, Option.bind_some, Option.bind_some, if_pos rfl, if_pos rfl]
    exact ⟨_, rfl, rfl⟩
  · rw [a1, a2, Option.bind_some, Option.bind_some, if_neg (show ¬ (1 : Int32) = 0 by decide), if_neg (show ¬ (1 : Int32) = 0 by decide)]
    obtain ⟨z, ⟨hS, hN, hw, h20, h25, T, P, hT, hTP, hX⟩, e1, e2, e3, e4, e5, e6, e7, e8, e9, e10, e11, e12, e13, e14, e15, e16, e17⟩ := r
    obtain ⟨n9, n10, n11, n12, n13, n14, n20⟩ := id hN
    obtain ⟨s0, s1, s2, s3, s4, s5, s6, s7, s8⟩ := id hS
    obtain ⟨v, v1, v2⟩ := P_reached (n := z 9) (p := z 11) (sp := z 12) (t := z 10) (h := z 13) (lg := z 8) (q := k) n9 (by omega) n12 (by omega) n13 s8 (by omega) st cu w (by rw [e1 8 (by omega)]; exact hw 8 (by omega)) (hw 9 (by omega)) (hw 10 (by omega)) (hw 11 (by omega)) (hw 12 (by omega)) (hw 13 (by omega)) (hw 8 (by omega)) e7
    refine ⟨v, ?_, by rw [c2]; exact v2⟩
    rw [c2, e2, hw 9 (by omega), e13, hw 11 (by omega), e14, hw 12 (by omega), e15, hw 10 (by omega), e16, hw 13 (by omega), v1]
    rfl
