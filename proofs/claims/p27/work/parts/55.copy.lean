/-! the reference's copies -/
theorem P_hold_l (w held : Nat → Int32) : ∀ m k g, k + m = 510 → m < g → f_X4_hold_2 w g (nI k) (blkW 0 held k w) = some (blkW 0 held 510 w) := by
  intro m
  induction m with
  | zero =>
    intro k g hk hg
    obtain ⟨g, rfl⟩ : ∃ z, g = z + 1 := ⟨g - 1, by omega⟩
    obtain rfl : k = 510 := by omega
    rw [f_X4_hold_2, if_pos (by decide)]
  | succ m ih =>
    intro k g hk hg
    obtain ⟨g, rfl⟩ : ∃ z, g = z + 1 := ⟨g - 1, by omega⟩
    have st := blk_step 0 k held w
    rw [Nat.zero_add] at st
    rw [f_X4_hold_2, show (510 : Int32) = nI 510 from rfl, if_neg (nI_ge (by omega) (by omega)), if_neg (ixN (by omega) (by omega)), if_neg (ixN (by omega) (by omega)), nI_clamp (by omega), st, nI_1]
    exact ih (k + 1) g (by omega) (by omega)
theorem P_hold (w held : Nat → Int32) : f_X4_hold w held = some (blkW 0 held 510 w) := by
  have := P_hold_l w held 510 0 gas (by omega) (by unfold gas; omega)
  rw [blk_0] at this
  exact this
theorem P_restore_l (w held : Nat → Int32) : ∀ m k g, k + m = 510 → m < g → f_X4_restore_2 held g (nI k) (blkW 0 w k held) = some (blkW 0 w 510 held) := by
  intro m
  induction m with
  | zero =>
    intro k g hk hg
    obtain ⟨g, rfl⟩ : ∃ z, g = z + 1 := ⟨g - 1, by omega⟩
    obtain rfl : k = 510 := by omega
    rw [f_X4_restore_2, if_pos (by decide)]
  | succ m ih =>
    intro k g hk hg
    obtain ⟨g, rfl⟩ : ∃ z, g = z + 1 := ⟨g - 1, by omega⟩
    have st := blk_step 0 k w held
    rw [Nat.zero_add] at st
    rw [f_X4_restore_2, show (510 : Int32) = nI 510 from rfl, if_neg (nI_ge (by omega) (by omega)), if_neg (ixN (by omega) (by omega)), if_neg (ixN (by omega) (by omega)), nI_clamp (by omega), st, nI_1]
    exact ih (k + 1) g (by omega) (by omega)
theorem P_restore (w held : Nat → Int32) : f_X4_restore w held = some (blkW 0 w 510 held) := by
  have := P_restore_l w held 510 0 gas (by omega) (by unfold gas; omega)
  rw [blk_0] at this
  exact this
theorem P_rem52_l {u : Nat} (hu : u < 8) (w past : Nat → Int32) : ∀ m k g, k + m = 510 → m < g → f_X4_remember_52 w (nI u) g (nI k) (blkW (510 * u) past k w) = some (blkW (510 * u) past 510 w, nI (u + 1)) := by
  intro m
  induction m with
  | zero =>
    intro k g hk hg
    obtain ⟨g, rfl⟩ : ∃ z, g = z + 1 := ⟨g - 1, by omega⟩
    obtain rfl : k = 510 := by omega
    rw [f_X4_remember_52, if_pos (by decide), nI_1]
  | succ m ih =>
    intro k g hk hg
    obtain ⟨g, rfl⟩ : ∃ z, g = z + 1 := ⟨g - 1, by omega⟩
    rw [f_X4_remember_52, show (510 : Int32) = nI 510 from rfl, if_neg (nI_ge (by omega) (by omega)), if_neg (ixN (by omega) (by omega)), nI_mul, nI_add, if_neg (ixN (by omega) (by omega)), nI_clamp (by omega), nI_clamp (by omega), blk_step, Option.bind_some, nI_1]
    exact ih (k + 1) g (by omega) (by omega)
theorem P_rem52 {u : Nat} (hu : u < 8) (w past : Nat → Int32) : f_X4_remember_52 w (nI u) gas 0 past = some (blkW (510 * u) past 510 w, nI (u + 1)) := by
  have := P_rem52_l hu w past 510 0 gas (by omega) (by unfold gas; omega)
  rw [blk_0] at this
  exact this
def shP (p : Nat → Int32) (x : Nat) : Nat → Int32 := fun i => if i < x then p (i + 510) else p i
theorem P_rem11_l (w past : Nat → Int32) : ∀ m k g, k + m = 3570 → m < g → f_X4_remember_11 w (nI 8) g (nI k) (shP past k) = some (blkW 3570 (shP past 3570) 510 w, nI 8) := by
  intro m
  induction m with
  | zero =>
    intro k g hk hg
    obtain ⟨g, rfl⟩ : ∃ z, g = z + 1 := ⟨g - 1, by omega⟩
    obtain rfl : k = 3570 := by omega
    rw [f_X4_remember_11, if_pos (by decide)]
    exact P_rem52 (u := 7) (by decide) w _
  | succ m ih =>
    intro k g hk hg
    obtain ⟨g, rfl⟩ : ∃ z, g = z + 1 := ⟨g - 1, by omega⟩
    have st : upd (shP past k) k (shP past k (k + 510)) = shP past (k + 1) := by
      funext i
      unfold upd shP
      by_cases a : i = k
      · rw [if_pos a, if_neg (by omega), if_pos (by omega), a]
      · rw [if_neg a]
        by_cases b : i < k
        · rw [if_pos b, if_pos (by omega)]
        · rw [if_neg b, if_neg (by omega)]
    rw [f_X4_remember_11, show (3570 : Int32) = nI 3570 from rfl, if_neg (nI_ge (by omega) (by omega)), show (510 : Int32) = nI 510 from rfl, nI_add, if_neg (ixN (by omega) (by omega)), if_neg (ixN (by omega) (by omega)), nI_clamp (by omega), nI_clamp (by omega), st, Option.bind_some, nI_1]
    exact ih (k + 1) g (by omega) (by omega)
theorem P_remember {u : Nat} (hu : u ≤ 8) (w past : Nat → Int32) : f_X4_remember w past (nI u) = some (if u = 8 then (blkW 3570 (shP past 3570) 510 w, nI 8) else (blkW (510 * u) past 510 w, nI (u + 1))) := by
  unfold f_X4_remember
  by_cases h : u = 8
  · rw [h, if_pos (by decide), if_pos rfl]
    have := P_rem11_l w past 3570 0 gas (by omega) (by unfold gas; omega)
    rw [show shP past 0 = past from funext fun i => by unfold shP; rw [if_neg (by omega)]] at this
    exact this
  · rw [if_neg (show ¬ nI u = 8 from fun q => h ((nI_eq (b := 8) (by omega) (by omega)).mp q)), if_neg h]
    exact P_rem52 (by omega) w past
theorem P_undo_l {u : Nat} (hu : u < 8) (w past ro : Nat → Int32) (rows : Int32) : ∀ m k g, k + m = 510 → m < g → f_X4_undo_22 past (nI u) ro rows g (nI k) (blkW 0 w k (fun i => past (510 * u + i))) = (f_X4_layRows (blkW 0 w 510 (fun i => past (510 * u + i))) ro rows).bind fun q => some (nI u, blkW 0 w 510 (fun i => past (510 * u + i)), nI u, q.1, q.2) := by
  intro m
  induction m with
  | zero =>
    intro k g hk hg
    obtain ⟨g, rfl⟩ : ∃ z, g = z + 1 := ⟨g - 1, by omega⟩
    obtain rfl : k = 510 := by omega
    rw [f_X4_undo_22, if_pos (by decide)]
  | succ m ih =>
    intro k g hk hg
    obtain ⟨g, rfl⟩ : ∃ z, g = z + 1 := ⟨g - 1, by omega⟩
    have st := blk_step 0 k w (fun i => past (510 * u + i))
    rw [Nat.zero_add] at st
    rw [f_X4_undo_22, show (510 : Int32) = nI 510 from rfl, if_neg (nI_ge (by omega) (by omega)), nI_mul, nI_add, if_neg (ixN (by omega) (by omega)), if_neg (ixN (by omega) (by omega)), nI_clamp (by omega), nI_clamp (by omega), st, nI_1]
    exact ih (k + 1) g (by omega) (by omega)
theorem P_keep_l {x : Nat} (hx : x < 2) (w im : Nat → Int32) (fil : Int32) : ∀ m k g, k + m = 510 → m < g → f_X4_keep_11 w (nI x) fil g (nI k) (blkW (510 * x) im k w) = some (w 11, blkW (510 * x) im 510 w, fil ||| (1 <<< (nI x &&& 31))) := by
  intro m
  induction m with
  | zero =>
    intro k g hk hg
    obtain ⟨g, rfl⟩ : ∃ z, g = z + 1 := ⟨g - 1, by omega⟩
    obtain rfl : k = 510 := by omega
    rw [f_X4_keep_11, if_pos (by decide)]
  | succ m ih =>
    intro k g hk hg
    obtain ⟨g, rfl⟩ : ∃ z, g = z + 1 := ⟨g - 1, by omega⟩
    rw [f_X4_keep_11, show (510 : Int32) = nI 510 from rfl, if_neg (nI_ge (by omega) (by omega)), if_neg (ixN (by omega) (by omega)), nI_mul, nI_add, if_neg (ixN (by omega) (by omega)), nI_clamp (by omega), nI_clamp (by omega), blk_step, nI_1]
    exact ih (k + 1) g (by omega) (by omega)
theorem P_back_l {x : Nat} (hx : x < 2) (w im past ro : Nat → Int32) (pm rows : Int32) : ∀ m k g, k + m = 510 → m < g → f_X4_back_29 im (nI x) past pm ro rows g (nI k) (blkW 0 w k (fun i => im (510 * x + i))) = (f_X4_layRows (blkW 0 w 510 (fun i => im (510 * x + i))) ro rows).bind fun q => some (blkW 0 w 510 (fun i => im (510 * x + i)) 11, blkW 0 w 510 (fun i => im (510 * x + i)), past, pm, q.1, q.2) := by
  intro m
  induction m with
  | zero =>
    intro k g hk hg
    obtain ⟨g, rfl⟩ : ∃ z, g = z + 1 := ⟨g - 1, by omega⟩
    obtain rfl : k = 510 := by omega
    rw [f_X4_back_29, if_pos (by decide)]
  | succ m ih =>
    intro k g hk hg
    obtain ⟨g, rfl⟩ : ∃ z, g = z + 1 := ⟨g - 1, by omega⟩
    have st := blk_step 0 k w (fun i => im (510 * x + i))
    rw [Nat.zero_add] at st
    rw [f_X4_back_29, show (510 : Int32) = nI 510 from rfl, if_neg (nI_ge (by omega) (by omega)), nI_mul, nI_add, if_neg (ixN (by omega) (by omega)), if_neg (ixN (by omega) (by omega)), nI_clamp (by omega), nI_clamp (by omega), st, nI_1]
    exact ih (k + 1) g (by omega) (by omega)
/-- the rows of the reference, laid anew -/
theorem P_layR {M : Nat} {w : Nat → Int32} {st : Nat → Int32} {wo pg wip rows : Int32} {le pa cu ro fi : Nat → Int32} {pr : Int32} {ti po ke : Nat → Int32} {kc ps sp tm hd top sk rp ms je ov : Int32} (r : REL M w st wo pg wip rows le pa cu ro fi pr ti po ke kc ps sp tm hd top sk rp ms je ov) (roM : Nat → Int32) (rowsM : Int32) : ∃ ro' rows', f_X4_layRows w roM rowsM = some (ro', rows') ∧ LR wo rows ro ro' rows' := by
  obtain ⟨z, ⟨hS, hN, hw, h20, h25, T, P, hT, hTP, hX⟩, e1, e2, e3, e4, e5, e6, e7, e8, e9⟩ := r
  obtain ⟨n9, n10, n11, n12, n13, n14, n20⟩ := id hN
  obtain ⟨ro', fi', l1, l2⟩ := P_layM (n := z 9) (wd := z 0) n9.2 hS.1 w (hw 9 (by omega)) (hw 0 (by omega)) roM fi rowsM
  refine ⟨ro', _, l1, e4.symm, fun k hk hlt => ?_⟩
  have hk' : k < z 9 := by
    rw [e2, hw 9 (by omega)] at hlt
    exact (nI_ltI (by omega) (by omega)).mp hlt
  rw [l2.1 k hk', e8.1 k hk']
  rfl
/-- rehearse, both sides -/
theorem P_rehearse {M : Nat} {w : Nat → Int32} {st : Nat → Int32} {wo pg wip rows : Int32} {le pa cu ro fi : Nat → Int32} {pr : Int32} {ti po ke : Nat → Int32} {kc ps sp tm hd top sk rp ms je ov : Int32} (hM : M + 1200 ≤ 90000) (r : REL M w st wo pg wip rows le pa cu ro fi pr ti po ke kc ps sp tm hd top sk rp ms je ov) (roM : Nat → Int32) (rowsM : Int32) (hL : LR wo rows ro roM rowsM) (held : Nat → Int32) (p1 p2 : Int32) (st0 : Nat → Int32) (wo0 pg0 wip0 rows0 : Int32) (le0 pa0 cu0 ro0 fi0 : Nat → Int32) (pr0 : Int32) (ti0 po0 ke0 : Nat → Int32) (kc0 ps0 sp0 tm0 hd0 top0 sk0 rp0 ms0 je0 ov0 : Int32) :
    ∃ v S held' w', f_X3_rehearse p1 p2 st wo pg wip rows le pa cu ro fi pr ti po ke kc ps sp tm hd top sk rp ms je ov st0 wo0 pg0 wip0 rows0 le0 pa0 cu0 ro0 fi0 pr0 ti0 po0 ke0 kc0 ps0 sp0 tm0 hd0 top0 sk0 rp0 ms0 je0 ov0 = some (v, S) ∧ f_X4_rehearse p1 p2 w roM rowsM held = some (v, w', held') ∧ REL M w' st wo pg wip rows le pa cu ro fi pr ti po ke kc ps sp tm hd top sk rp ms je ov := by
  unfold f_X3_rehearse f_X4_rehearse f_X4_isIn
  by_cases a1 : p1 < 1
  · rw [if_pos a1, if_pos a1, Option.bind_some, if_pos rfl]
    exact ⟨_, _, _, _, rfl, rfl, r⟩
  rw [if_neg a1, if_neg a1]
  by_cases a2 : 10 < p1
  · rw [if_pos a2, if_pos a2, Option.bind_some, if_pos rfl]
    exact ⟨_, _, _, _, rfl, rfl, r⟩
  rw [if_neg a2, if_neg a2, Option.bind_some, if_neg (show ¬ (1 : Int32) = 0 by decide)]
  by_cases a3 : p2 < 0
  · rw [if_pos a3, if_pos a3, Option.bind_some, if_pos rfl]
    exact ⟨_, _, _, _, rfl, rfl, r⟩
  rw [if_neg a3, if_neg a3]
  by_cases a4 : p2 ≤ 3
  · rw [if_pos a4, if_neg (Int32.not_lt.mpr a4), Option.bind_some, if_neg (show ¬ (1 : Int32) = 0 by decide), P_hold, Option.bind_some]
    obtain ⟨a, ha, rfl⟩ : ∃ a : Nat, a ≤ 10 ∧ p1 = nI a := by
      obtain ⟨j, h1, h2⟩ := nI_of2 (x := p1) (M := 10) (n := 10) rfl (fun q => a1 (by rw [Int32.lt_iff_toInt_lt] at q ⊢; rw [show (1 : Int32).toInt = 1 from rfl]; rw [show (0 : Int32).toInt = 0 from rfl] at q; omega)) (Int32.not_lt.mp a2)
      exact ⟨j, h1, h2⟩
    obtain ⟨st1, le1, pa1, cu1, ro1, fi1, ti1, po1, ke1, b1, b2, b3⟩ := P_become r st0 wo0 pg0 wip0 rows0 le0 pa0 cu0 ro0 fi0 pr0 ti0 po0 ke0 kc0 ps0 sp0 tm0 hd0 top0 sk0 rp0 ms0 je0 ov0
    obtain ⟨n, p, hn, hp, c1, c2, c3, c4, c5⟩ := REL_n r
    have hL1 : LR (nI n) rows ro1 roM rowsM := by
      refine ⟨hL.1, fun k hk hlt => ?_⟩
      rw [b3 k hk]
      exact hL.2 k hk (by rw [c1]; exact hlt)
    subst c1
    subst c3
    obtain ⟨x1, x2, x3, x4, x5, x6, x7, x8, x9, x10, x11, x12, x13, x14, x15, x16, w1, y1, y2, y3⟩ := P_readLoop (a := a) ha hn.2 roM rowsM st1 pg wip rows le1 pa1 ro1 fi1 hL1 (n - p) p gas (gas - (n - p) - 1 + 1) M w cu1 pr ti1 po1 ke1 kc (nI p) sp tm hd top sk rp ms je ov (by omega) (by unfold gas; omega) (by omega) b2
    have y1' : f_X1_readToEnd (nI a) st1 (nI n) rows le1 cu1 ro1 pr ti1 po1 ke1 kc (nI p) sp tm hd top sk rp ms je ov = some (x1, x2, x3, x4, x5, x6, x7, x8, x9, x10, x11, x12, x13, x14, x15, x16) := y1
    have z1 := y2 p2 (blkW 0 held 510 w)
    rw [show gas - (n - p) - 1 + 1 + (n - p) = gas by unfold gas; omega] at z1
    have h11 : blkW 0 held 510 w 11 = nI p := by
      have := blk_in (b := 0) (k := 510) (j := 11) held w (by decide)
      rw [Nat.zero_add] at this
      rw [this, c4]
    have hin : ∀ i, i < 510 → blkW 0 held 510 w i = w i := fun i hi => by
      have := blk_in (b := 0) (k := 510) (j := i) held w hi
      rw [Nat.zero_add] at this
      exact this
    have hback : REL M (blkW 0 w1 510 (blkW 0 held 510 w)) st (nI n) pg wip rows le pa cu ro fi pr ti po ke kc (nI p) sp tm hd top sk rp ms je ov := REL_ext (fun i hi => by
      have := blk_in (b := 0) (k := 510) (j := i) w1 (blkW 0 held 510 w) hi
      rw [Nat.zero_add] at this
      rw [this]
      exact hin i hi) r
    rw [b1, Option.bind_some, y1', Option.bind_some, h11, z1, f_X4_rehearse_33]
    obtain ⟨z', ⟨hS', hN', hw', h20', h25', T', P', hT', hTP', hX'⟩, f1, f2, f3, f4, f5, f6, f7, f8, f9, f10, f11, f12, f13, f14, f15, f16, f17, f18, f19, f20, f21, f22⟩ := y3
    obtain ⟨z, ⟨hS, hN, hw, h20, h25, T, P, hT, hTP, hX⟩, e1, e2, e3, e4, e5, e6, e7, e8, e9, e10, e11, e12, e13, e14, e15, e16, e17, e18, e19, e20, e21, e22⟩ := id r
    rw [← f2, if_pos (nI_le (Nat.le_refl _) (by omega)), P_restore, Option.bind_some, hin 18 (by decide), hin 15 (by decide), hin 16 (by decide), hin 17 (by decide), ← e18, ← e19, ← e20, ← e21, ← f18, ← f19, ← f20, ← f21, ← f13]
    by_cases d0 : p2 = 0
    · rw [if_pos d0, if_pos d0]
      exact ⟨_, _, _, _, rfl, rfl, hback⟩
    rw [if_neg d0, if_neg d0]
    by_cases d1 : p2 = 1
    · rw [if_pos d1, if_pos d1]
      exact ⟨_, _, _, _, rfl, rfl, hback⟩
    rw [if_neg d1, if_neg d1]
    by_cases d2 : p2 = 2
    · rw [if_pos d2, if_pos d2]
      exact ⟨_, _, _, _, rfl, rfl, hback⟩
    rw [if_neg d2, if_neg d2]
    exact ⟨_, _, _, _, rfl, rfl, hback⟩
  · rw [if_neg a4, if_pos (Int32.not_le.mp a4), Option.bind_some, if_pos rfl]
    exact ⟨_, _, _, _, rfl, rfl, r⟩
