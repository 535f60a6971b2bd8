/-! the ghost of a teleprompter: the reference's row, the text, the images, a bound of the time, and what undo would bring back, where it is known -/
abbrev GS : Type := (Nat → Int32) × (Nat → Int32) × Nat × (Nat → Int32) × Nat × Nat × Option (Nat → Int32)
abbrev gX (g : GS) : Nat → Int32 := g.2.1
abbrev gL (g : GS) : Nat := g.2.2.1
abbrev gI (g : GS) : Nat → Int32 := g.2.2.2.1
abbrev gF (g : GS) : Nat := g.2.2.2.2.1
abbrev gM (g : GS) : Nat := g.2.2.2.2.2.1
abbrev gT (g : GS) : Option (Nat → Int32) := g.2.2.2.2.2.2
abbrev gW (g : GS) (w : Nat → Int32) (M : Nat) (tp : Option (Nat → Int32)) : GS := (w, gX g, gL g, gI g, gF g, M, tp)
def lay0 (w : Nat → Int32) : Option ((Nat → Int32) × Int32) := f_X4_layRows w O0 0
def g_told (p1 : Int32) (g : GS) : Option Int32 := if p1 = 18 then none else (lay0 g.1).bind fun q => f_X4_told p1 g.1 0 q.1 q.2
def g_setting (p1 : Int32) (g : GS) : Option Int32 := f_X4_setting p1 g.1
def g_word (p1 p2 : Int32) (g : GS) : Option Int32 := (lay0 g.1).bind fun q => f_X4_word p1 p2 g.1 q.1
def g_row (p1 p2 : Int32) (g : GS) : Option Int32 := (lay0 g.1).bind fun q => f_X4_row p1 p2 g.1 q.1 q.2
def g_heard (p1 : Int32) (g : GS) : Option Int32 := f_X4_heard p1 g.1
def g_trail (p1 p2 : Int32) (g : GS) : Option Int32 := f_X4_trail p1 p2 g.1
def g_score (p1 : Int32) (g : GS) : Option Int32 := f_X4_score p1 g.1
def g_best (p1 p2 : Int32) (g : GS) : Option Int32 := f_X4_best p1 p2 g.1
def g_mean (g : GS) : Option UInt32 := (lay0 g.1).bind fun q => f_X4_mean g.1 q.2
def g_rehearse (p1 p2 : Int32) (g : GS) : Option (Int32 × GS) := (lay0 g.1).bind fun q => (f_X4_rehearse p1 p2 g.1 q.1 q.2 O0).bind fun r => some (r.1, g)
def g_wipe (g : GS) : Option (Int32 × GS) := some (nI (gL g), (g.1, gX g, 0, gI g, gF g, gM g, gT g))
def g_write (p1 : Int32) (g : GS) : Option (Int32 × GS) := (f_X4_write p1 (gX g) (nI (gL g))).bind fun r => some (r.1, (g.1, r.2.1, r.2.2.toNatClampNeg, gI g, gF g, gM g, gT g))
def g_load (g : GS) : Option (Int32 × GS) := (lay0 g.1).bind fun q => (f_X4_load g.1 O0 0 (gX g) (nI (gL g)) (-9) (-9) q.1 q.2 0 0 0 0 O0 O0 O0).bind fun r => some (r.1, gW g r.2.1 (gM g) none)
def g_set (p1 p2 : Int32) (g : GS) : Option (Int32 × GS) := (lay0 g.1).bind fun q => (f_X4_set p1 p2 g.1 O0 0 q.1 q.2).bind fun r => some (r.1, gW g r.2.1 (gM g) none)
def g_hear (p1 : Int32) (g : GS) : Option (Int32 × GS) := if f_X3_isLetter p1 = some 1 then (f_X4_hear p1 g.1 O0 0).bind fun r => some (r.1, gW g r.2.1 (gM g) (some g.1)) else some (-1, gW g g.1 (gM g) none)
def g_tick (p1 : Int32) (g : GS) : Option (Int32 × GS) := if (1 ≤ p1 ∧ p1 ≤ 100) ∧ gM g + 100 ≤ 80000 then (lay0 g.1).bind fun q => (f_X4_tick p1 g.1 O0 0 q.1 q.2).bind fun r => some (r.1, gW g r.2.1 (gM g + 100) none) else none
def g_release (g : GS) : Option (Int32 × GS) := (f_X4_release g.1 O0 0).bind fun r => some (r.1, gW g r.2.1 (gM g) none)
def g_place (p1 : Int32) (g : GS) : Option (Int32 × GS) := (f_X4_place p1 g.1 O0 0).bind fun r => some (r.1, gW g r.2.1 (gM g) none)
def g_keep (p1 : Int32) (g : GS) : Option (Int32 × GS) := (f_X4_keep p1 g.1 (gI g) (nI (gF g))).bind fun r => some (r.1, (g.1, gX g, gL g, r.2.1, r.2.2.toNatClampNeg, gM g, gT g))
def g_back (p1 : Int32) (g : GS) : Option (Int32 × GS) := (lay0 g.1).bind fun q => (f_X4_back p1 g.1 O0 0 (gI g) (nI (gF g)) q.1 q.2).bind fun r => some (r.1, gW g r.2.1 (gM g) none)
def g_undo (g : GS) : Option (Int32 × GS) := match gT g with
  | none => none
  | some w0 => some (0, gW g w0 (gM g) none)
theorem lay0_some {M : Nat} {w : Nat → Int32} {st : Nat → Int32} {wo pg wip rows : Int32} {le pa cu ro fi : Nat → Int32} {pr : Int32} {ti po ke : Nat → Int32} {kc ps sp tm hd top sk rp ms je ov : Int32} (r : REL M w st wo pg wip rows le pa cu ro fi pr ti po ke kc ps sp tm hd top sk rp ms je ov) : ∃ ro' rows', lay0 w = some (ro', rows') ∧ LR wo rows ro ro' rows' := P_layR r O0 0
theorem told_un {p : Int32} (h : ¬ p = 18) (w : Nat → Int32) (a b : Int32) (ro : Nat → Int32) (rows : Int32) : f_X4_told p w a ro rows = f_X4_told p w b ro rows := by
  unfold f_X4_told
  simp only [if_neg h]
theorem A_told {g : GS} {u : Nat} {st : Nat → Int32} {wo pg wip rows : Int32} {le pa cu ro fi : Nat → Int32} {pr : Int32} {ti po ke : Nat → Int32} {kc ps sp tm hd top sk rp ms je ov : Int32} {hr : Nat → Nat} {PS : Nat → Nat → Nat → Int32} (hM : gM g ≤ 80000) (r : REL (gM g) g.1 st wo pg wip rows le pa cu ro fi pr ti po ke kc ps sp tm hd top sk rp ms je ov) {p v : Int32} (un : Int32) (hF : g_told p g = some v) : f_X3_told p st wo pg rows cu ro pr kc ps sp tm hd top sk rp ms je ov un = some v := by
  obtain ⟨ro', rows', l1, l2⟩ := lay0_some r
  unfold g_told at hF
  by_cases c : p = 18
  · rw [if_pos c] at hF; cases hF
  · rw [if_neg c, l1, Option.bind_some, told_un c _ 0 un] at hF
    obtain ⟨v', a, b⟩ := P_told (by omega) r ro' rows' l2 p un
    rw [b] at hF
    cases hF
    exact a
theorem A_setting {g : GS} {u : Nat} {st : Nat → Int32} {wo pg wip rows : Int32} {le pa cu ro fi : Nat → Int32} {pr : Int32} {ti po ke : Nat → Int32} {kc ps sp tm hd top sk rp ms je ov : Int32} {hr : Nat → Nat} {PS : Nat → Nat → Nat → Int32} (hM : gM g ≤ 80000) (r : REL (gM g) g.1 st wo pg wip rows le pa cu ro fi pr ti po ke kc ps sp tm hd top sk rp ms je ov) {p v : Int32} (hF : g_setting p g = some v) : f_X3_setting p st = some v := by
  obtain ⟨v', a, b⟩ := P_setting r p
  unfold g_setting at hF
  rw [b] at hF
  cases hF
  exact a
theorem A_word {g : GS} {u : Nat} {st : Nat → Int32} {wo pg wip rows : Int32} {le pa cu ro fi : Nat → Int32} {pr : Int32} {ti po ke : Nat → Int32} {kc ps sp tm hd top sk rp ms je ov : Int32} {hr : Nat → Nat} {PS : Nat → Nat → Nat → Int32} (hM : gM g ≤ 80000) (r : REL (gM g) g.1 st wo pg wip rows le pa cu ro fi pr ti po ke kc ps sp tm hd top sk rp ms je ov) {p q v : Int32} (hF : g_word p q g = some v) : f_X3_word p q st wo le pa cu ro top = some v := by
  obtain ⟨ro', rows', l1, l2⟩ := lay0_some r
  obtain ⟨v', a, b⟩ := P_word r ro' rows' l2 p q
  unfold g_word at hF
  rw [l1, Option.bind_some, b] at hF
  cases hF
  exact a
theorem A_row {g : GS} {u : Nat} {st : Nat → Int32} {wo pg wip rows : Int32} {le pa cu ro fi : Nat → Int32} {pr : Int32} {ti po ke : Nat → Int32} {kc ps sp tm hd top sk rp ms je ov : Int32} {hr : Nat → Nat} {PS : Nat → Nat → Nat → Int32} (hM : gM g ≤ 80000) (r : REL (gM g) g.1 st wo pg wip rows le pa cu ro fi pr ti po ke kc ps sp tm hd top sk rp ms je ov) {p q v : Int32} (hF : g_row p q g = some v) : f_X3_row p q wo rows fi = some v := by
  obtain ⟨ro', rows', l1, l2⟩ := lay0_some r
  obtain ⟨v', a, b⟩ := P_rowR r ro' rows' l2 p q
  unfold g_row at hF
  rw [l1, Option.bind_some, b] at hF
  cases hF
  exact a
theorem A_heard {g : GS} {u : Nat} {st : Nat → Int32} {wo pg wip rows : Int32} {le pa cu ro fi : Nat → Int32} {pr : Int32} {ti po ke : Nat → Int32} {kc ps sp tm hd top sk rp ms je ov : Int32} {hr : Nat → Nat} {PS : Nat → Nat → Nat → Int32} (hM : gM g ≤ 80000) (r : REL (gM g) g.1 st wo pg wip rows le pa cu ro fi pr ti po ke kc ps sp tm hd top sk rp ms je ov) {p v : Int32} (hF : g_heard p g = some v) : f_X3_heard p ke kc = some v := by
  obtain ⟨v', a, b⟩ := P_heard r p
  unfold g_heard at hF
  rw [b] at hF
  cases hF
  exact a
theorem A_trail {g : GS} {u : Nat} {st : Nat → Int32} {wo pg wip rows : Int32} {le pa cu ro fi : Nat → Int32} {pr : Int32} {ti po ke : Nat → Int32} {kc ps sp tm hd top sk rp ms je ov : Int32} {hr : Nat → Nat} {PS : Nat → Nat → Nat → Int32} (hM : gM g ≤ 80000) (r : REL (gM g) g.1 st wo pg wip rows le pa cu ro fi pr ti po ke kc ps sp tm hd top sk rp ms je ov) {p q v : Int32} (hF : g_trail p q g = some v) : f_X3_trail p q pr ti po = some v := by
  obtain ⟨v', a, b⟩ := P_trailR r p q
  unfold g_trail at hF
  rw [b] at hF
  cases hF
  exact a
theorem A_score {g : GS} {u : Nat} {st : Nat → Int32} {wo pg wip rows : Int32} {le pa cu ro fi : Nat → Int32} {pr : Int32} {ti po ke : Nat → Int32} {kc ps sp tm hd top sk rp ms je ov : Int32} {hr : Nat → Nat} {PS : Nat → Nat → Nat → Int32} (hM : gM g ≤ 80000) (r : REL (gM g) g.1 st wo pg wip rows le pa cu ro fi pr ti po ke kc ps sp tm hd top sk rp ms je ov) {p v : Int32} (hF : g_score p g = some v) : f_X3_score p wo le ke kc = some v := by
  obtain ⟨v', a, b⟩ := P_scoreR r p
  unfold g_score at hF
  rw [b] at hF
  cases hF
  exact a
theorem A_best {g : GS} {u : Nat} {st : Nat → Int32} {wo pg wip rows : Int32} {le pa cu ro fi : Nat → Int32} {pr : Int32} {ti po ke : Nat → Int32} {kc ps sp tm hd top sk rp ms je ov : Int32} {hr : Nat → Nat} {PS : Nat → Nat → Nat → Int32} (hM : gM g ≤ 80000) (r : REL (gM g) g.1 st wo pg wip rows le pa cu ro fi pr ti po ke kc ps sp tm hd top sk rp ms je ov) {p q v : Int32} (hF : g_best p q g = some v) : f_X3_best p q st wo le ke kc ps = some v := by
  obtain ⟨v', a, b⟩ := P_bestR r p q
  unfold g_best at hF
  rw [b] at hF
  cases hF
  exact a
theorem A_mean {g : GS} {u : Nat} {st : Nat → Int32} {wo pg wip rows : Int32} {le pa cu ro fi : Nat → Int32} {pr : Int32} {ti po ke : Nat → Int32} {kc ps sp tm hd top sk rp ms je ov : Int32} {hr : Nat → Nat} {PS : Nat → Nat → Nat → Int32} (hM : gM g ≤ 80000) (r : REL (gM g) g.1 st wo pg wip rows le pa cu ro fi pr ti po ke kc ps sp tm hd top sk rp ms je ov) {v : UInt32} (hF : g_mean g = some v) : f_X3_mean wo rows = some v := by
  obtain ⟨ro', rows', l1, l2⟩ := lay0_some r
  obtain ⟨v', a, b⟩ := P_meanR r ro' rows' l2
  unfold g_mean at hF
  rw [l1, Option.bind_some, b] at hF
  cases hF
  exact a
theorem A_rehearse {g : GS} {u : Nat} {st : Nat → Int32} {wo pg wip rows : Int32} {le pa cu ro fi : Nat → Int32} {pr : Int32} {ti po ke : Nat → Int32} {kc ps sp tm hd top sk rp ms je ov : Int32} {hr : Nat → Nat} {PS : Nat → Nat → Nat → Int32} (hM : gM g ≤ 80000) (r : REL (gM g) g.1 st wo pg wip rows le pa cu ro fi pr ti po ke kc ps sp tm hd top sk rp ms je ov) (p1 p2 : Int32) (st0 : Nat → Int32) (wo0 pg0 wip0 rows0 : Int32) (le0 pa0 cu0 ro0 fi0 : Nat → Int32) (pr0 : Int32) (ti0 po0 ke0 : Nat → Int32) (kc0 ps0 sp0 tm0 hd0 top0 sk0 rp0 ms0 je0 ov0 : Int32) : ∃ v S, f_X3_rehearse p1 p2 st wo pg wip rows le pa cu ro fi pr ti po ke kc ps sp tm hd top sk rp ms je ov st0 wo0 pg0 wip0 rows0 le0 pa0 cu0 ro0 fi0 pr0 ti0 po0 ke0 kc0 ps0 sp0 tm0 hd0 top0 sk0 rp0 ms0 je0 ov0 = some (v, S) ∧ g_rehearse p1 p2 g = some (v, g) := by
  obtain ⟨ro', rows', l1, l2⟩ := lay0_some r
  obtain ⟨v, S, h', w', a, b, _⟩ := P_rehearse (by omega) r ro' rows' l2 O0 p1 p2 st0 wo0 pg0 wip0 rows0 le0 pa0 cu0 ro0 fi0 pr0 ti0 po0 ke0 kc0 ps0 sp0 tm0 hd0 top0 sk0 rp0 ms0 je0 ov0
  refine ⟨v, S, a, ?_⟩
  unfold g_rehearse
  rw [l1, Option.bind_some, b, Option.bind_some]
theorem A_write {g : GS} (hL : gL g ≤ 140) (tx : Nat → Int32) (h : ∀ i, i < gL g → tx i = gX g i) (p : Int32) : ∃ v tx2 tx2' L', f_X3_write p tx (nI (gL g)) = some (v, tx2, nI L') ∧ g_write p g = some (v, (g.1, tx2', L', gI g, gF g, gM g, gT g)) ∧ L' ≤ 140 ∧ ∀ i, i < L' → tx2 i = tx2' i := by
  obtain ⟨v, tx2, tx2', L', a, b, c, d⟩ := P_writeR hL tx (gX g) h p
  refine ⟨v, tx2, tx2', L', a, ?_, c, d⟩
  unfold g_write
  rw [b, Option.bind_some, nI_clamp (by omega)]
theorem A_load {g : GS} {u : Nat} {st : Nat → Int32} {wo pg wip rows : Int32} {le pa cu ro fi : Nat → Int32} {pr : Int32} {ti po ke : Nat → Int32} {kc ps sp tm hd top sk rp ms je ov : Int32} {hr : Nat → Nat} {PS : Nat → Nat → Nat → Int32} (hM : gM g ≤ 80000) (r : REL (gM g) g.1 st wo pg wip rows le pa cu ro fi pr ti po ke kc ps sp tm hd top sk rp ms je ov) (hh : HISE (gM g) u hr PS (gT g)) (hL140 : gL g ≤ 140) (tx : Nat → Int32) (htx : ∀ i, i < gL g → tx i = gX g i) (fk fp : Int32) (dw dp dwp drows : Int32) (dl dpa dc dro dfi : Nat → Int32) :
    ∃ v fk' fp' D1 D2 D3 D4 D5 D6 wo' pg' wip' rows' le' pa' cu' ro' fi' pr' kc' ps' sp' tm' hd' top' sk' rp' ms' je' ov' u' hr' PS' w', f_X3_load tx (nI (gL g)) fk fp dw dp dwp drows dl dpa dc dro dfi st wo pg wip rows le pa cu ro fi pr ti po ke kc ps sp tm hd top sk rp ms je ov (nI u) hr PS = some (v, fk', fp', D1, D2, D3, D4, D5, D6, wo', pg', wip', rows', le', pa', cu', ro', fi', pr', kc', ps', sp', tm', hd', top', sk', rp', ms', je', ov', nI u', hr', PS') ∧ g_load g = some (v, gW g w' (gM g) none) ∧ REL (gM g) w' st wo' pg' wip' rows' le' pa' cu' ro' fi' pr' ti po ke kc' ps' sp' tm' hd' top' sk' rp' ms' je' ov' ∧ HISE (gM g) u' hr' PS' none ∧ ∀ x, 8 ≤ x → PS' x = PS x := by
  obtain ⟨ro2, rows2, l1, l2⟩ := lay0_some r
  obtain ⟨v, fk', fp', D1, D2, D3, D4, D5, D6, wo', pg', wip', rows', le', pa', cu', ro', fi', pr', kc', ps', sp', tm', hd', top', sk', rp', ms', je', ov', u', hr', PS', w', past', m', fkM', fpM', roM', rowsM', R1, R2, R3, R4, R5, R6, R7, a, b, c, d, e, f⟩ := P_loadG r hh ro2 rows2 l2 hL140 tx (gX g) htx fk fp dw dp dwp drows dl dpa dc dro dfi 0 0 0 0 O0 O0 O0
  refine ⟨v, fk', fp', D1, D2, D3, D4, D5, D6, wo', pg', wip', rows', le', pa', cu', ro', fi', pr', kc', ps', sp', tm', hd', top', sk', rp', ms', je', ov', u', hr', PS', w', a, ?_, c, e, f⟩
  unfold g_load
  rw [l1, Option.bind_some, b, Option.bind_some]
theorem A_set {g : GS} {u : Nat} {st : Nat → Int32} {wo pg wip rows : Int32} {le pa cu ro fi : Nat → Int32} {pr : Int32} {ti po ke : Nat → Int32} {kc ps sp tm hd top sk rp ms je ov : Int32} {hr : Nat → Nat} {PS : Nat → Nat → Nat → Int32} (hM : gM g ≤ 80000) (r : REL (gM g) g.1 st wo pg wip rows le pa cu ro fi pr ti po ke kc ps sp tm hd top sk rp ms je ov) (hh : HISE (gM g) u hr PS (gT g)) (p q : Int32) :
    ∃ v st' rows' ro' fi' top' u' hr' PS' w', f_X3_set p q st wo pg wip rows le pa cu ro fi pr ti po ke kc ps sp tm hd top sk rp ms je ov (nI u) hr PS = some (v, st', rows', ro', fi', top', nI u', hr', PS') ∧ g_set p q g = some (v, gW g w' (gM g) none) ∧ REL (gM g) w' st' wo pg wip rows' le pa cu ro' fi' pr ti po ke kc ps sp tm hd top' sk rp ms je ov ∧ HISE (gM g) u' hr' PS' none ∧ ∀ x, 8 ≤ x → PS' x = PS x := by
  obtain ⟨ro2, rows2, l1, l2⟩ := lay0_some r
  obtain ⟨v, st', rows', ro', fi', top', u', hr', PS', w', past', m', roM', rowsM', a, b, c, d, e, f⟩ := P_setG r hh ro2 rows2 l2 p q
  refine ⟨v, st', rows', ro', fi', top', u', hr', PS', w', a, ?_, c, e, f⟩
  unfold g_set
  rw [l1, Option.bind_some, b, Option.bind_some]
theorem P_hearN {p : Int32} {st : Nat → Int32} {wo pg wip rows : Int32} {le pa cu ro fi : Nat → Int32} {pr : Int32} {ti po ke : Nat → Int32} {kc ps sp tm hd top sk rp ms je ov : Int32} (un : Int32) {hr : Nat → Nat} {PS : Nat → Nat → Nat → Int32} (h : ¬ f_X3_isLetter p = some 1) : f_X3_hear p st wo pg wip rows le pa cu ro fi pr ti po ke kc ps sp tm hd top sk rp ms je ov un hr PS = some (-1, cu, pr, ti, po, ke, kc, ps, sp, hd, sk, rp, ms, ov, un, hr, PS) := by
  unfold f_X3_hear
  rcases isLet_2 p with hl | hl
  · rw [hl, Option.bind_some, if_pos rfl]
  · exact absurd hl h
theorem A_hear {g : GS} {u : Nat} {st : Nat → Int32} {wo pg wip rows : Int32} {le pa cu ro fi : Nat → Int32} {pr : Int32} {ti po ke : Nat → Int32} {kc ps sp tm hd top sk rp ms je ov : Int32} {hr : Nat → Nat} {PS : Nat → Nat → Nat → Int32} (hM : gM g ≤ 80000) (r : REL (gM g) g.1 st wo pg wip rows le pa cu ro fi pr ti po ke kc ps sp tm hd top sk rp ms je ov) (hh : HISE (gM g) u hr PS (gT g)) (p : Int32) :
    ∃ v cu' pr' ti' po' ke' kc' ps' sp' hd' sk' rp' ms' ov' u' hr' PS' w' tp', f_X3_hear p st wo pg wip rows le pa cu ro fi pr ti po ke kc ps sp tm hd top sk rp ms je ov (nI u) hr PS = some (v, cu', pr', ti', po', ke', kc', ps', sp', hd', sk', rp', ms', ov', nI u', hr', PS') ∧ g_hear p g = some (v, gW g w' (gM g) tp') ∧ REL (gM g) w' st wo pg wip rows le pa cu' ro fi pr' ti' po' ke' kc' ps' sp' tm hd' top sk' rp' ms' je ov' ∧ HISE (gM g) u' hr' PS' tp' ∧ (∀ x, 8 ≤ x → PS' x = PS x) ∧ (tp' = none ∨ tp' = some g.1) := by
  unfold g_hear
  by_cases hl : f_X3_isLetter p = some 1
  · obtain ⟨v, cu', pr', ti', po', ke', kc', ps', sp', hd', sk', rp', ms', ov', u', hr', PS', w', past', m', a, b, c, d, e, f⟩ := P_hearG (by omega) r hh p hl
    rw [if_pos hl, b, Option.bind_some]
    exact ⟨v, cu', pr', ti', po', ke', kc', ps', sp', hd', sk', rp', ms', ov', u', hr', PS', w', some g.1, a, rfl, c, d, e, Or.inr rfl⟩
  · rw [if_neg hl, P_hearN (nI u) hl]
    exact ⟨-1, cu, pr, ti, po, ke, kc, ps, sp, hd, sk, rp, ms, ov, u, hr, PS, g.1, none, rfl, rfl, r, hh.wk, fun _ _ => rfl, Or.inl rfl⟩
theorem A_tick {g : GS} {u : Nat} {st : Nat → Int32} {wo pg wip rows : Int32} {le pa cu ro fi : Nat → Int32} {pr : Int32} {ti po ke : Nat → Int32} {kc ps sp tm hd top sk rp ms je ov : Int32} {hr : Nat → Nat} {PS : Nat → Nat → Nat → Int32} (hM : gM g ≤ 80000) (r : REL (gM g) g.1 st wo pg wip rows le pa cu ro fi pr ti po ke kc ps sp tm hd top sk rp ms je ov) (hh : HISE (gM g) u hr PS (gT g)) {p v : Int32} {g' : GS} (hF : g_tick p g = some (v, g')) :
    ∃ tm' top' je' u' hr' PS' w', f_X3_tick p st wo pg wip rows le pa cu ro fi pr ti po ke kc ps sp tm hd top sk rp ms je ov (nI u) hr PS = some (v, tm', top', je', nI u', hr', PS') ∧ g' = gW g w' (gM g + 100) none ∧ REL (gM g + 100) w' st wo pg wip rows le pa cu ro fi pr ti po ke kc ps sp tm' hd top' sk rp ms je' ov ∧ HISE (gM g + 100) u' hr' PS' none ∧ (∀ x, 8 ≤ x → PS' x = PS x) ∧ gM g + 100 ≤ 80000 := by
  obtain ⟨ro2, rows2, l1, l2⟩ := lay0_some r
  unfold g_tick at hF
  by_cases c : (1 ≤ p ∧ p ≤ 100) ∧ gM g + 100 ≤ 80000
  · rw [if_pos c, l1, Option.bind_some] at hF
    obtain ⟨k, hk, rfl⟩ := nI_of2 (x := p) (M := 100) (n := 100) rfl (fun q => by
      have h1 := c.1.1
      rw [Int32.le_iff_toInt_le] at h1
      rw [Int32.lt_iff_toInt_lt] at q
      rw [show (1 : Int32).toInt = 1 from rfl] at h1
      rw [show (0 : Int32).toInt = 0 from rfl] at q
      omega) c.1.2
    have hk1 : 1 ≤ k := (nI_leI (a := 1) (by omega) (by omega)).mp c.1.1
    obtain ⟨v', tm', top', je', u', hr', PS', w', past', m', a, b, d, e, f, _⟩ := P_tickG (by omega) r hh ro2 rows2 l2 hk1 hk
    rw [b, Option.bind_some] at hF
    cases hF
    exact ⟨tm', top', je', u', hr', PS', w', a, rfl, d, e, f, c.2⟩
  · rw [if_neg c] at hF; cases hF
theorem B_tick {g : GS} {st : Nat → Int32} {wo pg wip rows : Int32} {le pa cu ro fi : Nat → Int32} {pr : Int32} {ti po ke : Nat → Int32} {kc ps sp tm hd top sk rp ms je ov : Int32} (hM : gM g + 100 ≤ 80000) (r : REL (gM g) g.1 st wo pg wip rows le pa cu ro fi pr ti po ke kc ps sp tm hd top sk rp ms je ov) {k : Nat} (hk1 : 1 ≤ k) (hk : k ≤ 100) : ∃ v w', g_tick (nI k) g = some (v, gW g w' (gM g + 100) none) ∧ (∃ S, RS (gM g + 100) w' S) ∧ (∃ J J', J ≤ J' ∧ J' ≤ gM g + 100 ∧ g.1 18 = nI J ∧ w' 18 = nI J') ∧ ∃ z, MI (gM g + 100) w' z ∧ shWn w' z := by
  obtain ⟨ro2, rows2, l1, l2⟩ := lay0_some r
  have hh : HISE (gM g) 0 (fun i => i) (fun _ _ _ => 0) none := ⟨O0, ⟨Nat.zero_le _, fun j hj => hj, fun i j _ _ e => e, fun j hj => absurd hj (Nat.not_lt_zero _)⟩, fun _ e => by cases e⟩
  obtain ⟨v', tm', top', je', u', hr', PS', w', past', m', a, b, d, e, f, ⟨J, J', j1, j2, j3, j4⟩, i⟩ := P_tickG (by omega) r hh ro2 rows2 l2 hk1 hk
  have c : ((1 : Int32) ≤ nI k ∧ nI k ≤ 100) ∧ gM g + 100 ≤ 80000 := ⟨⟨nI_le (a := 1) (by omega) (by omega), nI_le (b := 100) (by omega) (by omega)⟩, hM⟩
  refine ⟨v', w', ?_, ⟨mkS st wo pg wip rows le pa cu ro fi pr ti po ke kc ps sp tm' hd top' sk rp ms je' ov, d⟩, ⟨J, J', j1, j2, ?_, ?_⟩, i⟩
  · unfold g_tick
    rw [if_pos c, l1, Option.bind_some, b, Option.bind_some]
  · obtain ⟨z, _, e1, e2, e3, e4, e5, e6, e7, e8, e9, e10, e11, e12, e13, e14, e15, e16, e17, e18, e19, e20, e21, e22⟩ := r
    rw [← e21]; exact j3
  · obtain ⟨z, _, e1, e2, e3, e4, e5, e6, e7, e8, e9, e10, e11, e12, e13, e14, e15, e16, e17, e18, e19, e20, e21, e22⟩ := d
    rw [← e21]; exact j4
theorem A_release {g : GS} {u : Nat} {st : Nat → Int32} {wo pg wip rows : Int32} {le pa cu ro fi : Nat → Int32} {pr : Int32} {ti po ke : Nat → Int32} {kc ps sp tm hd top sk rp ms je ov : Int32} {hr : Nat → Nat} {PS : Nat → Nat → Nat → Int32} (hM : gM g ≤ 80000) (r : REL (gM g) g.1 st wo pg wip rows le pa cu ro fi pr ti po ke kc ps sp tm hd top sk rp ms je ov) (hh : HISE (gM g) u hr PS (gT g)) :
    ∃ v cu' u' hr' PS' w', f_X3_release st wo pg wip rows le pa cu ro fi pr ti po ke kc ps sp tm hd top sk rp ms je ov (nI u) hr PS = some (v, cu', nI u', hr', PS') ∧ g_release g = some (v, gW g w' (gM g) none) ∧ REL (gM g) w' st wo pg wip rows le pa cu' ro fi pr ti po ke kc ps sp tm hd top sk rp ms je ov ∧ HISE (gM g) u' hr' PS' none ∧ ∀ x, 8 ≤ x → PS' x = PS x := by
  obtain ⟨v, cu', u', hr', PS', w', past', m', a, b, c, d, e⟩ := P_releaseG r hh
  refine ⟨v, cu', u', hr', PS', w', a, ?_, c, d, e⟩
  unfold g_release
  rw [b, Option.bind_some]
theorem A_place {g : GS} {u : Nat} {st : Nat → Int32} {wo pg wip rows : Int32} {le pa cu ro fi : Nat → Int32} {pr : Int32} {ti po ke : Nat → Int32} {kc ps sp tm hd top sk rp ms je ov : Int32} {hr : Nat → Nat} {PS : Nat → Nat → Nat → Int32} (hM : gM g ≤ 80000) (r : REL (gM g) g.1 st wo pg wip rows le pa cu ro fi pr ti po ke kc ps sp tm hd top sk rp ms je ov) (hh : HISE (gM g) u hr PS (gT g)) (p : Int32) :
    ∃ v cu' pr' kc' ps' hd' u' hr' PS' w', f_X3_place p st wo pg wip rows le pa cu ro fi pr ti po ke kc ps sp tm hd top sk rp ms je ov (nI u) hr PS = some (v, cu', pr', kc', ps', hd', nI u', hr', PS') ∧ g_place p g = some (v, gW g w' (gM g) none) ∧ REL (gM g) w' st wo pg wip rows le pa cu' ro fi pr' ti po ke kc' ps' sp tm hd' top sk rp ms je ov ∧ HISE (gM g) u' hr' PS' none ∧ ∀ x, 8 ≤ x → PS' x = PS x := by
  obtain ⟨v, cu', pr', kc', ps', hd', u', hr', PS', w', past', m', a, b, c, d, e⟩ := P_placeG r hh p
  refine ⟨v, cu', pr', kc', ps', hd', u', hr', PS', w', a, ?_, c, d, e⟩
  unfold g_place
  rw [b, Option.bind_some]
theorem A_keep {g : GS} {u : Nat} {st : Nat → Int32} {wo pg wip rows : Int32} {le pa cu ro fi : Nat → Int32} {pr : Int32} {ti po ke : Nat → Int32} {kc ps sp tm hd top sk rp ms je ov : Int32} {hr : Nat → Nat} {PS : Nat → Nat → Nat → Int32} {ik : Nat → Int32} (hM : gM g ≤ 80000) (r : REL (gM g) g.1 st wo pg wip rows le pa cu ro fi pr ti po ke kc ps sp tm hd top sk rp ms je ov) (hh : HISE (gM g) u hr PS (gT g)) (hi : IMG (gM g) (gF g) (gI g) ik PS) (p : Int32) :
    ∃ v f' ik' PS' images', f_X3_keep p st wo pg wip rows le pa cu ro fi pr ti po ke kc ps sp tm hd top sk rp ms je ov ik PS = some (v, ik', PS') ∧ g_keep p g = some (v, (g.1, gX g, gL g, images', f', gM g, gT g)) ∧ IMG (gM g) f' images' ik' PS' ∧ HISE (gM g) u hr PS' (gT g) := by
  obtain ⟨v, f', ik', PS', images', a, b, c, d⟩ := P_keepG r hi hh p
  refine ⟨v, f', ik', PS', images', a, ?_, c, d⟩
  unfold g_keep
  rw [b, Option.bind_some, nI_clamp (by have := c.1; omega)]
theorem A_back {g : GS} {u : Nat} {st : Nat → Int32} {wo pg wip rows : Int32} {le pa cu ro fi : Nat → Int32} {pr : Int32} {ti po ke : Nat → Int32} {kc ps sp tm hd top sk rp ms je ov : Int32} {hr : Nat → Nat} {PS : Nat → Nat → Nat → Int32} {ik : Nat → Int32} (hM : gM g ≤ 80000) (r : REL (gM g) g.1 st wo pg wip rows le pa cu ro fi pr ti po ke kc ps sp tm hd top sk rp ms je ov) (hh : HISE (gM g) u hr PS (gT g)) (hi : IMG (gM g) (gF g) (gI g) ik PS) (p : Int32) :
    ∃ v u' hr' PS' S w', f_X3_back p st wo pg wip rows le pa cu ro fi pr ti po ke kc ps sp tm hd top sk rp ms je ov (nI u) ik hr PS = some (v, S 0, S 1 0, S 2 0, S 3 0, S 4 0, S 5, S 6, S 7, S 8, S 9, S 10 0, S 11, S 12, S 13, S 14 0, S 15 0, S 16 0, S 17 0, S 18 0, S 19 0, S 20 0, S 21 0, S 22 0, S 23 0, S 24 0, nI u', hr', PS') ∧ g_back p g = some (v, gW g w' (gM g) none) ∧ RS (gM g) w' S ∧ HISE (gM g) u' hr' PS' none ∧ ∀ x, 8 ≤ x → PS' x = PS x := by
  obtain ⟨ro2, rows2, l1, l2⟩ := lay0_some r
  obtain ⟨v, u', hr', PS', past', m', S, w', roM', rowsM', a, b, c, d, e, f⟩ := P_backG r hi hh ro2 rows2 l2 p
  refine ⟨v, u', hr', PS', S, w', a, ?_, c, e, f⟩
  unfold g_back
  rw [l1, Option.bind_some, b, Option.bind_some]
