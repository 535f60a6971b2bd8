/-! the relation is of the places below 510 -/
theorem REL_ext {M : Nat} {w w' : Nat → Int32} {st : Nat → Int32} {wo pg wip rows : Int32} {le pa cu ro fi : Nat → Int32} {pr : Int32} {ti po ke : Nat → Int32} {kc ps sp tm hd top sk rp ms je ov : Int32} (h : ∀ i, i < 510 → w' i = w i) (r : REL M w st wo pg wip rows le pa cu ro fi pr ti po ke kc ps sp tm hd top sk rp ms je ov) : REL M w' st wo pg wip rows le pa cu ro fi pr ti po ke kc ps sp tm hd top sk rp ms je ov := by
  obtain ⟨z, ⟨hS, hN, hw, h20, h25, T, P, hT, hTP, hX⟩, e1, e2, e3, e4, e5, e6, e7, e8, e9, e10, e11, e12, e13, e14, e15, e16, e17, e18, e19, e20, e21, e22⟩ := r
  obtain ⟨n9, n10, n11, n12, n13, n14, n20⟩ := id hN
  have hT1 := hT.1
  refine ⟨z, ⟨hS, hN, fun i hi => by rw [h i (by omega)]; exact hw i hi, by rw [h 20 (by omega)]; exact h20, by rw [h 25 (by omega)]; exact h25, T, P, hT, fun i hi => by rw [h _ (by omega), h _ (by omega)]; exact hTP i hi, EX_w (h 18 (by omega)) (fun i hi => h _ (by omega)) (fun i hi => h _ (by omega)) hX⟩, ?_⟩
  refine ⟨fun i hi => by rw [h i (by omega)]; exact e1 i hi, by rw [h 9 (by omega)]; exact e2, by rw [h _ (by omega)]; exact e3, ?_, fun i hi => by rw [h _ (by omega)]; exact e5 i hi, fun i hi => by rw [h _ (by omega)]; exact e6 i hi, fun i hi => by rw [h _ (by omega)]; exact e7 i hi, laidR_congr (fun i hi => (h _ (by omega)).symm) e8, by rw [h 25 (by omega)]; exact e9, fun i hi => by rw [h _ (by omega), h _ (by omega)]; exact e10 i hi, fun i hi => by rw [h _ (by omega)]; exact e11 i hi, by rw [h 20 (by omega)]; exact e12, by rw [h 11 (by omega)]; exact e13, by rw [h 12 (by omega)]; exact e14, by rw [h 10 (by omega)]; exact e15, by rw [h 13 (by omega)]; exact e16, by rw [h 14 (by omega)]; exact e17, by rw [h 15 (by omega)]; exact e18, by rw [h 16 (by omega)]; exact e19, by rw [h 17 (by omega)]; exact e20, by rw [h 18 (by omega)]; exact e21, by rw [h 19 (by omega)]; exact e22⟩
  rw [e4, stR_congr (pas := pasW w') (pas' := pasW w) (z 9) (fun i hi => h _ (by omega))]
/-! the relation after ticks -/
theorem MI_tk {M M' t tp : Nat} {j : Int32} {z : Nat → Nat} {w : Nat → Int32} (hI : MI M w z) (ht : z 10 ≤ t) (htM : t ≤ M') (htp : tp ≤ 12000) (htp2 : tp ≤ 100 * ((stR (pasW w) (z 0) (z 9)).2 - z 1)) (hJ : ∃ J, j = nI J ∧ J ≤ t) : MI M' (tkW w (nI t) (nI tp) j) (zN (zN z 10 t) 14 tp) := by
  obtain ⟨hS, hN, hw, h20, h25, T, P, hT, hTP, hX⟩ := hI
  obtain ⟨n9, n10, n11, n12, n13, n14, n20⟩ := hN
  have h : ∀ i, ¬ i = 10 → ¬ i = 14 → ¬ i = 18 → tkW w (nI t) (nI tp) j i = w i := fun i a b c => tkW_ne _ _ _ _ ⟨a, b, c⟩
  have hp : pasW (tkW w (nI t) (nI tp) j) = pasW w := funext fun i => h _ (by omega) (by omega) (by omega)
  refine ⟨hS, ⟨n9, htM, n11, n12, Nat.le_trans n13 ht, htp, n20⟩, fun i hi => ?_, by rw [h 20 (by omega) (by omega) (by omega)]; exact h20, by rw [h 25 (by omega) (by omega) (by omega)]; exact h25, T, P, ⟨hT.1, hT.2.1, fun i hi => ⟨Nat.le_trans (hT.2.2 i hi).1 ht, (hT.2.2 i hi).2⟩⟩, fun i hi => by rw [h _ (by omega) (by omega) (by omega), h _ (by omega) (by omega) (by omega)]; exact hTP i hi, ?_⟩
  · by_cases a : i = 10
    · rw [a]; rfl
    · by_cases b : i = 14
      · rw [b]; rfl
      · rw [h i a b (by omega), zN_ne _ _ b, zN_ne _ _ a]; exact hw i hi
  · obtain ⟨x1, x2, x3, x4, x5, x6⟩ := hX
    obtain ⟨J, j1, j2⟩ := hJ
    refine ⟨?_, ⟨J, (tkW_18 _ _ _ _).trans j1, j2⟩, fun i hi => ?_, ?_, x5, x6⟩
    · show tp ≤ 100 * ((stR (pasW (tkW w (nI t) (nI tp) j)) (z 0) (z 9)).2 - z 1)
      rw [hp]; exact htp2
    · have hi : i < z 9 := hi
      rw [h _ (by omega) (by omega) (by omega)]; exact x3 i hi
    · show pasO (z 9) (pasW (tkW w (nI t) (nI tp) j))
      rw [hp]; exact x4
theorem REL_tk {M M' t tp : Nat} {j : Int32} {z : Nat → Nat} {w : Nat → Int32} {st : Nat → Int32} {wo pg wip rows : Int32} {le pa cu ro fi : Nat → Int32} {pr : Int32} {ti po ke : Nat → Int32} {kc ps sp tm hd top sk rp ms je ov : Int32} (hI : MI M w z) (hE : EQ w z st wo pg wip rows le pa cu ro fi pr ti po ke kc ps sp tm hd top sk rp ms je ov) (ht : z 10 ≤ t) (htM : t ≤ M') (htp : tp ≤ 12000) (htp2 : tp ≤ 100 * ((stR (pasW w) (z 0) (z 9)).2 - z 1)) (hJ : ∃ J, j = nI J ∧ J ≤ t) : REL M' (tkW w (nI t) (nI tp) j) st wo pg wip rows le pa cu ro fi pr ti po ke kc ps sp (nI t) hd (nI tp) sk rp ms j ov := by
  obtain ⟨hS, hN, hw, h20, h25, T, P, hT, hTP, hX⟩ := id hI
  obtain ⟨e1, e2, e3, e4, e5, e6, e7, e8, e9, e10, e11, e12, e13, e14, e15, e16, e17, e18, e19, e20, e21, e22⟩ := hE
  obtain ⟨n9, n10, n11, n12, n13, n14, n20⟩ := hN
  have h : ∀ i, ¬ i = 10 → ¬ i = 14 → ¬ i = 18 → tkW w (nI t) (nI tp) j i = w i := fun i a b c => tkW_ne _ _ _ _ ⟨a, b, c⟩
  have hp : pasW (tkW w (nI t) (nI tp) j) = pasW w := funext fun i => h _ (by omega) (by omega) (by omega)
  refine ⟨zN (zN z 10 t) 14 tp, MI_tk hI ht htM htp htp2 hJ, ?_⟩
  · exact ⟨fun i hi => by rw [h i (by omega) (by omega) (by omega)]; exact e1 i hi, by rw [h 9 (by omega) (by omega) (by omega)]; exact e2, by rw [h _ (by omega) (by omega) (by omega)]; exact e3, by rw [hp]; exact e4, fun i hi => by rw [h _ (by omega) (by omega) (by omega)]; exact e5 i hi, fun i hi => by rw [h _ (by omega) (by omega) (by omega)]; exact e6 i hi, fun i hi => by rw [h _ (by omega) (by omega) (by omega)]; exact e7 i hi, by rw [hp]; exact e8, by rw [h 25 (by omega) (by omega) (by omega)]; exact e9, fun i hi => by rw [h _ (by omega) (by omega) (by omega), h _ (by omega) (by omega) (by omega)]; exact e10 i hi, fun i hi => by rw [h _ (by omega) (by omega) (by omega)]; exact e11 i hi, by rw [h 20 (by omega) (by omega) (by omega)]; exact e12, by rw [h 11 (by omega) (by omega) (by omega)]; exact e13, by rw [h 12 (by omega) (by omega) (by omega)]; exact e14, rfl, by rw [h 13 (by omega) (by omega) (by omega)]; exact e16, rfl, by rw [h 15 (by omega) (by omega) (by omega)]; exact e18, by rw [h 16 (by omega) (by omega) (by omega)]; exact e19, by rw [h 17 (by omega) (by omega) (by omega)]; exact e20, rfl, by rw [h 19 (by omega) (by omega) (by omega)]; exact e22⟩
/-- the reference's rows are the class's -/
def LR (wo rows : Int32) (ro roM : Nat → Int32) (rowsM : Int32) : Prop := rowsM = rows ∧ ∀ k : Nat, k < 120 → nI k < wo → roM k = ro k
theorem rwR_le {pas : Nat → Int32} {wd k : Nat} (hw : 1 ≤ wd) (hk : k < 120) : rwR pas wd k ≤ 120 := by
  have h1 := rwR_lt (pas := pas) hw (show k < k + 1 by omega)
  have h2 := (stR_fact pas hw (k + 1)).2.1
  omega
theorem scT_T {r H lead rows step top : Int} (h1 : 0 ≤ r ∧ r + 1 ≤ rows) (h2 : 1 ≤ H) (h3 : 0 ≤ lead) (h4 : 0 ≤ step) (ht : 0 ≤ top ∧ top ≤ max 0 (100 * (rows - H))) : (0 ≤ scT r H lead rows step top ∧ scT r H lead rows step top ≤ max 0 (100 * (rows - H))) ∧ scT r H lead rows step top ≤ 100 * r ∧ 100 * r ≤ scT r H lead rows step top + 100 * (H - 1) := by
  unfold scT mvI desI
  omega
theorem tkI_T {R : Nat → Nat} {H lead rows step : Nat} (hH : 1 ≤ H) (hR : ∀ t, R t + 1 ≤ rows) : ∀ m t top j, (0 ≤ top ∧ top ≤ max 0 (100 * ((rows : Int) - H))) → (0 ≤ (tkI R H lead rows step m t top j).1 ∧ (tkI R H lead rows step m t top j).1 ≤ max 0 (100 * ((rows : Int) - H))) ∧ (1 ≤ m → (tkI R H lead rows step m t top j).1 ≤ 100 * (R (t + m) : Int) ∧ 100 * (R (t + m) : Int) ≤ (tkI R H lead rows step m t top j).1 + 100 * ((H : Int) - 1)) := by
  intro m
  induction m with
  | zero => intro t top j h; exact ⟨h, fun q => absurd q (by omega)⟩
  | succ m ih =>
    intro t top j h
    have hr := hR (t + 1)
    have s := scT_T (r := R (t + 1)) (H := H) (lead := lead) (rows := rows) (step := step) (top := top) (by omega) (by omega) (by omega) (by omega) h
    have k := ih (t + 1) (scT (R (t + 1)) H lead rows step top) (j + scJ (R (t + 1)) H lead rows step top) s.1
    refine ⟨k.1, fun _ => ?_⟩
    rcases Nat.eq_zero_or_pos m with q | q
    · subst q; exact s.2
    · have := k.2 q
      rw [show t + 1 + m = t + (m + 1) by omega] at this
      exact this
theorem tkI_J {R : Nat → Nat} {H lead rows step : Nat} : ∀ m t top J, ∃ J', (tkI R H lead rows step m t top (nI J)).2 = nI J' ∧ J ≤ J' ∧ J' ≤ J + m := by
  intro m
  induction m with
  | zero => intro t top J; exact ⟨J, rfl, Nat.le_refl _, Nat.le_refl _⟩
  | succ m ih =>
    intro t top J
    have e : ∃ d, d ≤ 1 ∧ nI J + scJ (R (t + 1)) H lead rows step top = nI (J + d) := by
      unfold scJ
      split
      · exact ⟨0, by omega, by rw [show (0 : Int32) = nI 0 from rfl, nI_add]⟩
      · exact ⟨1, by omega, by rw [show (1 : Int32) = nI 1 from rfl, nI_add]⟩
    obtain ⟨d, d1, d2⟩ := e
    obtain ⟨J', j1, j2, j3⟩ := ih (t + 1) (scT (R (t + 1)) H lead rows step top) (J + d)
    refine ⟨J', ?_, by omega, by omega⟩
    show (tkI R H lead rows step m (t + 1) (scT (R (t + 1)) H lead rows step top) (nI J + scJ (R (t + 1)) H lead rows step top)).2 = nI J'
    rw [d2]; exact j1
/-- the estimated word, its row and whether it is shown -/
def esW (w : Nat → Int32) (z : Nat → Nat) : Nat := estN (z 11) (z 12) (z 10) (z 13) 0 (z 8) (holdN (nxO (cueW w) (z 9) 0) (z 9))
def shWn (w : Nat → Int32) (z : Nat → Nat) : Prop := z 14 ≤ 100 * rwR (pasW w) (z 0) (esW w z) ∧ 100 * rwR (pasW w) (z 0) (esW w z) ≤ z 14 + 100 * (z 1 - 1)
theorem P_tickBoth {M a : Nat} {w : Nat → Int32} {st : Nat → Int32} {wo pg wip rows : Int32} {le pa cu ro fi : Nat → Int32} {pr : Int32} {ti po ke : Nat → Int32} {kc ps sp tm hd top sk rp ms je ov : Int32} (ha : a ≤ 100) (hM : M + a ≤ 90000) (hR : REL M w st wo pg wip rows le pa cu ro fi pr ti po ke kc ps sp tm hd top sk rp ms je ov) (roM : Nat → Int32) (rowsM : Int32) (hL : LR wo rows ro roM rowsM) :
    ∃ tm' top' je' w', f_X1_passTime (nI a) st wo rows cu ro ps sp tm hd top je = some (je' - je, tm', top', je') ∧ (∀ x2 past pm, f_X4_tick_26 roM rowsM (nI a) x2 past pm gas 0 w = some (je' - x2, w', past, pm)) ∧ (∀ k33 x3 held g, f_X4_rehearse_47 k33 roM rowsM (nI a) x3 held (g + a) 0 w = f_X4_rehearse_47 k33 roM rowsM (nI a) x3 held g (nI a) w') ∧ REL (M + a) w' st wo pg wip rows le pa cu ro fi pr ti po ke kc ps sp tm' hd top' sk rp ms je' ov ∧ (∃ J J', J ≤ J' ∧ J' ≤ M + a ∧ je = nI J ∧ je' = nI J') ∧ (1 ≤ a → ∃ z, MI (M + a) w' z ∧ shWn w' z) := by
  obtain ⟨z, hI, hE⟩ := hR
  obtain ⟨hS, hN, hw, h20, h25, T, P, hT, hTP, hX⟩ := id hI
  obtain ⟨e1, e2, e3, e4, e5, e6, e7, e8, e9, e10, e11, e12, e13, e14, e15, e16, e17, e18, e19, e20, e21, e22⟩ := id hE
  obtain ⟨n9, n10, n11, n12, n13, n14, n20⟩ := id hN
  obtain ⟨s0, s1, s2, s3, s4, s5, s6, s7, s8⟩ := id hS
  have hrows := (stR_fact (pasW w) s0.1 (z 9)).2.1
  have hst : ∀ i, i < 9 → st i = nI (z i) := fun i hi => by rw [e1 i hi]; exact hw i (by omega)
  have q1 := P_passTime (n := z 9) (p := z 11) (sp := z 12) (t := z 10) (h := z 13) (lg := z 8) (H := z 1) (lead := z 2) (rows := (stR (pasW w) (z 0) (z 9)).2) (step := z 7) (a := a) n9 (by omega) n12 s8 s1 s2 (by omega) s7 ha (rwR (pasW w) (z 0)) (fun k hk => rwR_le s0.1 (by omega)) st cu ro (hst 1 (by omega)) (hst 2 (by omega)) (hst 7 (by omega)) (hst 8 (by omega)) e8.1 (z 14 : Int) je (by omega) (by omega) (by omega)
  have hroM : ∀ k, k < z 9 → roM k = nI (rwR (pasW w) (z 0) k) := fun k hk => by
    rw [hL.2 k (by omega) (by rw [e2, hw 9 (by omega)]; exact nI_lt hk (by omega))]
    exact e8.1 k hk
  have hself : w = tkW w (nI (z 10)) (iI (z 14)) (w 18) := by
    have := tkW_self w
    rw [hw 10 (by omega), hw 14 (by omega), nI_iI (z 14)] at this
    exact this.symm
  have q2 := fun x2 past pm => P_tickM_l (n := z 9) (p := z 11) (sp := z 12) (h := z 13) (lg := z 8) (H := z 1) (lead := z 2) (rows := (stR (pasW w) (z 0) (z 9)).2) (step := z 7) (a := a) n9 (by omega) n12 s8 s1 s2 (by omega) s7 ha (rwR (pasW w) (z 0)) (fun k hk => rwR_le s0.1 (by omega)) w roM (hw 9 (by omega)) (hw 11 (by omega)) (hw 12 (by omega)) (hw 13 (by omega)) (hw 8 (by omega)) (hw 1 (by omega)) (hw 2 (by omega)) (hw 7 (by omega)) hroM x2 past pm a 0 gas (z 10) (z 14 : Int) (w 18) (by omega) (by unfold gas; omega) n13 (by omega) (by omega)
  have q3 := fun k33 x3 held g => P_reh47_l (n := z 9) (p := z 11) (sp := z 12) (h := z 13) (lg := z 8) (H := z 1) (lead := z 2) (rows := (stR (pasW w) (z 0) (z 9)).2) (step := z 7) (a := a) n9 (by omega) n12 s8 s1 s2 (by omega) s7 ha (rwR (pasW w) (z 0)) (fun k hk => rwR_le s0.1 (by omega)) w roM (hw 9 (by omega)) (hw 11 (by omega)) (hw 12 (by omega)) (hw 13 (by omega)) (hw 8 (by omega)) (hw 1 (by omega)) (hw 2 (by omega)) (hw 7 (by omega)) hroM k33 x3 held a 0 g (z 10) (z 14 : Int) (w 18) (by omega) n13 (by omega) (by omega)
  have hin := tkI_in (R := fun t => rwR (pasW w) (z 0) (estN (z 11) (z 12) t (z 13) 0 (z 8) (holdN (nxO cu (z 9) 0) (z 9)))) (H := z 1) (lead := z 2) (rows := (stR (pasW w) (z 0) (z 9)).2) (step := z 7) s1 s2 (by omega) (fun t => by
    have h1 := estN_le (z 11) (z 12) t (z 13) 0 (z 8) (holdN (nxO cu (z 9) 0) (z 9))
    have h2 := holdN_lt (c := cu) n9.1
    exact rwR_le s0.1 (by omega)) s7 a (z 10) (z 14 : Int) je (by omega)
  rw [show nxO (fun j => w (270 + j)) (z 9) 0 = nxO cu (z 9) 0 from nxO_congr _ _ (fun i _ hi => (e7 i (by omega)).symm), ← e21] at q2 q3
  obtain ⟨x1, ⟨J, j1, j2⟩, x3, x4, x5, x6⟩ := id hX
  have hT2 := tkI_T (R := fun t => rwR (pasW w) (z 0) (estN (z 11) (z 12) t (z 13) 0 (z 8) (holdN (nxO cu (z 9) 0) (z 9)))) (H := z 1) (lead := z 2) (rows := (stR (pasW w) (z 0) (z 9)).2) (step := z 7) s1.1 (fun t => by
    have h1 := estN_le (z 11) (z 12) t (z 13) 0 (z 8) (holdN (nxO cu (z 9) 0) (z 9))
    have h2 := holdN_lt (c := cu) n9.1
    exact rwR_lt s0.1 (by omega)) a (z 10) (z 14 : Int) je (by omega)
  have hJ2 := tkI_J (R := fun t => rwR (pasW w) (z 0) (estN (z 11) (z 12) t (z 13) 0 (z 8) (holdN (nxO cu (z 9) 0) (z 9)))) (H := z 1) (lead := z 2) (rows := (stR (pasW w) (z 0) (z 9)).2) (step := z 7) a (z 10) (z 14 : Int) J
  rw [← j1, ← e21] at hJ2
  generalize hTK : tkI (fun t => rwR (pasW w) (z 0) (estN (z 11) (z 12) t (z 13) 0 (z 8) (holdN (nxO cu (z 9) 0) (z 9)))) (z 1) (z 2) (stR (pasW w) (z 0) (z 9)).2 (z 7) a (z 10) (z 14 : Int) je = R at q1 q2 q3 hin hT2 hJ2
  obtain ⟨tp, htp⟩ : ∃ tp : Nat, R.1 = (tp : Int) := ⟨R.1.toNat, by omega⟩
  rw [htp, ← nI_iI tp] at q1 q2 q3
  rw [← e21] at hself
  obtain ⟨J', k1, k2, k3⟩ := hJ2
  rw [htp] at hT2
  have htp2 : tp ≤ 100 * ((stR (pasW w) (z 0) (z 9)).2 - z 1) := by have := hT2.1; omega
  have hRE := REL_tk (M' := M + a) (t := z 10 + a) (tp := tp) (j := R.2) hI hE (by omega) (by omega) (by omega) htp2 ⟨J', k1, by omega⟩
  have hMI : MI (M + a) (tkW w (nI (z 10 + a)) (nI tp) R.2) (zN (zN z 10 (z 10 + a)) 14 tp) := MI_tk hI (by omega) (by omega) (by omega) htp2 ⟨J', k1, by omega⟩
  refine ⟨nI (z 10 + a), nI tp, R.2, tkW w (nI (z 10 + a)) (nI tp) R.2, ?_, fun x2 past pm => ?_, fun k33 x3 held g => ?_, hRE, ⟨J, J', k2, by omega, by rw [e21]; exact j1, k1⟩, fun ha1 => ⟨_, hMI, ?_⟩⟩
  · rw [e2, hw 9 (by omega), e4, e13, hw 11 (by omega), e14, hw 12 (by omega), e15, hw 10 (by omega), e16, hw 13 (by omega), e17, hw 14 (by omega), nI_iI (z 14)]
    exact q1
  · rw [hL.1, e4]
    have := q2 x2 past pm
    rw [← hself] at this
    exact this
  · rw [hL.1, e4]
    have := q3 k33 x3 held g
    rw [← hself] at this
    exact this
  · have e1' : esW (tkW w (nI (z 10 + a)) (nI tp) R.2) (zN (zN z 10 (z 10 + a)) 14 tp) = estN (z 11) (z 12) (z 10 + a) (z 13) 0 (z 8) (holdN (nxO cu (z 9) 0) (z 9)) := by
      show estN (z 11) (z 12) (z 10 + a) (z 13) 0 (z 8) (holdN (nxO (cueW (tkW w (nI (z 10 + a)) (nI tp) R.2)) (z 9) 0) (z 9)) = _
      rw [nxO_congr (c := cueW (tkW w (nI (z 10 + a)) (nI tp) R.2)) (d := cu) (z 9) 0 (fun i _ hi => by
        rw [e7 i (by omega)]
        exact tkW_ne _ _ _ _ (by omega))]
    have e2' : pasW (tkW w (nI (z 10 + a)) (nI tp) R.2) = pasW w := funext fun i => tkW_ne _ _ _ _ (by omega)
    have s := hT2.2 ha1
    unfold shWn
    rw [e1', e2']
    show tp ≤ 100 * rwR (pasW w) (z 0) _ ∧ 100 * rwR (pasW w) (z 0) _ ≤ tp + 100 * (z 1 - 1)
    have s1' := s1.1
    constructor
    · have := s.1; omega
    · have := s.2; omega
/-! a cue is released -/
theorem REL_cue {M k : Nat} {z : Nat → Nat} {w : Nat → Int32} {st : Nat → Int32} {wo pg wip rows : Int32} {le pa cu ro fi : Nat → Int32} {pr : Int32} {ti po ke : Nat → Int32} {kc ps sp tm hd top sk rp ms je ov : Int32} (hI : MI M w z) (hE : EQ w z st wo pg wip rows le pa cu ro fi pr ti po ke kc ps sp tm hd top sk rp ms je ov) (hk : k < z 9) (v : Int32) (hv : cuO v) : REL M (upd w (270 + k) v) st wo pg wip rows le pa (upd cu k v) ro fi pr ti po ke kc ps sp tm hd top sk rp ms je ov := by
  obtain ⟨hS, hN, hw, h20, h25, T, P, hT, hTP, hX⟩ := hI
  obtain ⟨e1, e2, e3, e4, e5, e6, e7, e8, e9, e10, e11, e12, e13, e14, e15, e16, e17, e18, e19, e20, e21, e22⟩ := hE
  obtain ⟨n9, n10, n11, n12, n13, n14, n20⟩ := id hN
  have hT1 := hT.1
  have h : ∀ i, ¬ i = 270 + k → upd w (270 + k) v i = w i := fun i a => upd_ne _ _ a
  have hp : pasW (upd w (270 + k) v) = pasW w := funext fun i => h _ (by omega)
  refine ⟨z, ⟨hS, hN, fun i hi => by rw [h i (by omega)]; exact hw i hi, by rw [h 20 (by omega)]; exact h20, by rw [h 25 (by omega)]; exact h25, T, P, hT, fun i hi => by rw [h _ (by omega), h _ (by omega)]; exact hTP i hi, ?_⟩, ?_⟩
  · obtain ⟨x1, x2, x3, x4, x5, x6⟩ := hX
    refine ⟨by rw [hp]; exact x1, by rw [h 18 (by omega)]; exact x2, fun i hi => ?_, by rw [hp]; exact x4, x5, x6⟩
    by_cases c : i = k
    · rw [c, upd_eq]; exact hv
    · rw [h _ (by omega)]; exact x3 i hi
  refine ⟨fun i hi => by rw [h i (by omega)]; exact e1 i hi, by rw [h 9 (by omega)]; exact e2, by rw [h _ (by omega)]; exact e3, by rw [hp]; exact e4, fun i hi => by rw [h _ (by omega)]; exact e5 i hi, fun i hi => by rw [h _ (by omega)]; exact e6 i hi, fun i hi => ?_, by rw [hp]; exact e8, by rw [h 25 (by omega)]; exact e9, fun i hi => by rw [h _ (by omega), h _ (by omega)]; exact e10 i hi, fun i hi => by rw [h _ (by omega)]; exact e11 i hi, by rw [h 20 (by omega)]; exact e12, by rw [h 11 (by omega)]; exact e13, by rw [h 12 (by omega)]; exact e14, by rw [h 10 (by omega)]; exact e15, by rw [h 13 (by omega)]; exact e16, by rw [h 14 (by omega)]; exact e17, by rw [h 15 (by omega)]; exact e18, by rw [h 16 (by omega)]; exact e19, by rw [h 17 (by omega)]; exact e20, by rw [h 18 (by omega)]; exact e21, by rw [h 19 (by omega)]; exact e22⟩
  by_cases c : i = k
  · rw [c, upd_eq, upd_eq]
  · rw [upd_ne _ _ c, h _ (by omega)]; exact e7 i hi
/-- both sides see the same next cue; released, both sides go on alike -/
theorem P_cueBoth {M : Nat} {w : Nat → Int32} {st : Nat → Int32} {wo pg wip rows : Int32} {le pa cu ro fi : Nat → Int32} {pr : Int32} {ti po ke : Nat → Int32} {kc ps sp tm hd top sk rp ms je ov : Int32} (hR : REL M w st wo pg wip rows le pa cu ro fi pr ti po ke kc ps sp tm hd top sk rp ms je ov) :
    (f_X0_nextCue wo cu = some (-9) ∧ f_X4_nextCue w = some (-9)) ∨ ∃ k, k < 120 ∧ f_X0_nextCue wo cu = some (nI k) ∧ f_X4_nextCue w = some (nI k) ∧ f_X0_freeCue (nI k) cu = some (upd cu k 2) ∧ f_X4_releaseNext w = some (nI k, upd w (270 + k) 2) ∧ REL M (upd w (270 + k) 2) st wo pg wip rows le pa (upd cu k 2) ro fi pr ti po ke kc ps sp tm hd top sk rp ms je ov := by
  obtain ⟨z, hI, hE⟩ := hR
  obtain ⟨hS, hN, hw, h20, h25, T, P, hT, hTP, hX⟩ := id hI
  obtain ⟨e1, e2, e3, e4, e5, e6, e7, e8⟩ := id hE
  obtain ⟨n9, n10, n11, n12, n13, n14, n20⟩ := id hN
  have a1 : f_X0_nextCue wo cu = some (oI (nxO cu (z 9) 0)) := by
    rw [e2, hw 9 (by omega), P_nextCue n9.2, nxt_oI]
  have a2 : f_X4_nextCue w = some (oI (nxO cu (z 9) 0)) := by
    rw [P_nextCueM n9.2 w (hw 9 (by omega)), nxt_oI, show nxO (fun j => w (270 + j)) (z 9) 0 = nxO cu (z 9) 0 from nxO_congr _ _ (fun i _ hi => (e7 i (by omega)).symm)]
  cases h : nxO cu (z 9) 0 with
  | none =>
    rw [h] at a1 a2
    exact Or.inl ⟨by rw [a1, m9]; rfl, by rw [a2, m9]; rfl⟩
  | some k =>
    rw [h] at a1 a2
    have hk := nxO_some _ _ _ h
    refine Or.inr ⟨k, by omega, a1, a2, P_freeCue (by omega) cu, ?_, REL_cue hI hE (by omega) 2 (Or.inr (Or.inr (Or.inl rfl)))⟩
    unfold f_X4_releaseNext
    rw [a2, Option.bind_some, show (270 : Int32) = nI 270 from rfl, show oI (some k) = nI k from rfl, nI_add, if_neg (ixN (by omega) (by omega)), nI_clamp (by omega)]
