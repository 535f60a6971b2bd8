/-! load -/
def ldW (w0 : Nat → Int32) (k : Nat) (rl rc rp : Nat → Int32) : Nat → Int32 := fun i => if 150 ≤ i ∧ i < 150 + k then rl (i - 150) else if 270 ≤ i ∧ i < 270 + k then rc (i - 270) else if 390 ≤ i ∧ i < 390 + k then rp (i - 390) else w0 i
theorem ldW_0 (w0 rl rc rp : Nat → Int32) : ldW w0 0 rl rc rp = w0 := by
  funext i
  unfold ldW
  rw [if_neg (by omega), if_neg (by omega), if_neg (by omega)]
theorem ldW_l {w0 rl rc rp : Nat → Int32} {k i : Nat} (h : i < k) : ldW w0 k rl rc rp (150 + i) = rl i := by
  unfold ldW
  rw [if_pos (by omega), Nat.add_sub_cancel_left]
theorem ldW_c {w0 rl rc rp : Nat → Int32} {k i : Nat} (hk : k ≤ 120) (h : i < k) : ldW w0 k rl rc rp (270 + i) = rc i := by
  unfold ldW
  rw [if_neg (by omega), if_pos (by omega), Nat.add_sub_cancel_left]
theorem ldW_p {w0 rl rc rp : Nat → Int32} {k i : Nat} (hk : k ≤ 120) (h : i < k) : ldW w0 k rl rc rp (390 + i) = rp i := by
  unfold ldW
  rw [if_neg (by omega), if_neg (by omega), if_pos (by omega), Nat.add_sub_cancel_left]
theorem ldW_o {w0 rl rc rp : Nat → Int32} {k i : Nat} (h : i < 150) : ldW w0 k rl rc rp i = w0 i := by
  unfold ldW
  rw [if_neg (by omega), if_neg (by omega), if_neg (by omega)]
theorem ldW_step {w0 rl rc rp : Nat → Int32} {k : Nat} (hk : k < 120) : upd (upd (upd (ldW w0 k rl rc rp) (150 + k) (rl k)) (270 + k) (rc k)) (390 + k) (rp k) = ldW w0 (k + 1) rl rc rp := by
  funext i
  by_cases a : i = 390 + k
  · rw [a, upd_eq, ldW_p (by omega) (by omega)]
  · rw [upd_ne _ _ a]
    by_cases b : i = 270 + k
    · rw [b, upd_eq, ldW_c (by omega) (by omega)]
    · rw [upd_ne _ _ b]
      by_cases c : i = 150 + k
      · rw [c, upd_eq, ldW_l (by omega)]
      · rw [upd_ne _ _ c]
        unfold ldW
        by_cases x : 150 ≤ i ∧ i < 150 + k
        · rw [if_pos x, if_pos (by omega)]
        · rw [if_neg x, if_neg (show ¬ (150 ≤ i ∧ i < 150 + (k + 1)) by omega)]
          by_cases y : 270 ≤ i ∧ i < 270 + k
          · rw [if_pos y, if_pos (show 270 ≤ i ∧ i < 270 + (k + 1) by omega)]
          · rw [if_neg y, if_neg (show ¬ (270 ≤ i ∧ i < 270 + (k + 1)) by omega)]
            by_cases t : 390 ≤ i ∧ i < 390 + k
            · rw [if_pos t, if_pos (show 390 ≤ i ∧ i < 390 + (k + 1) by omega)]
            · rw [if_neg t, if_neg (show ¬ (390 ≤ i ∧ i < 390 + (k + 1)) by omega)]
theorem P_load72 {m : Nat} (hm : m ≤ 120) (w0 rl rc rp past : Nat → Int32) (pm fk fp : Int32) (roM : Nat → Int32) (rowsM wk wp rpg : Int32) : ∀ d k g, k + d = m → d < g → f_X4_load_72 past pm fk fp roM rowsM wk wp (nI m) rpg rl rc rp g (nI k) (ldW w0 k rl rc rp) = (f_X4_layRows (ldW w0 m rl rc rp) roM rowsM).bind fun q => some (nI m, ldW w0 m rl rc rp, past, pm, fk, fp, q.1, q.2, wk, wp, nI m, rpg, rl, rc, rp) := by
  intro d
  induction d with
  | zero =>
    intro k g hk hg
    obtain ⟨g, rfl⟩ : ∃ z, g = z + 1 := ⟨g - 1, by omega⟩
    obtain rfl : k = m := by omega
    rw [f_X4_load_72, if_pos (nI_le (Nat.le_refl _) (by omega))]
  | succ d ih =>
    intro k g hk hg
    obtain ⟨g, rfl⟩ : ∃ z, g = z + 1 := ⟨g - 1, by omega⟩
    rw [f_X4_load_72, if_neg (nI_ge (by omega) (by omega)), show (150 : Int32) = nI 150 from rfl, show (270 : Int32) = nI 270 from rfl, show (390 : Int32) = nI 390 from rfl, nI_add, nI_add, nI_add, if_neg (ixN (show k < 120 by omega) (by omega)), if_neg (ixN (show 150 + k < 510 by omega) (by omega)), Option.bind_some, if_neg (ixN (show k < 120 by omega) (by omega)), if_neg (ixN (show 270 + k < 510 by omega) (by omega)), Option.bind_some, if_neg (ixN (show k < 120 by omega) (by omega)), if_neg (ixN (show 390 + k < 510 by omega) (by omega)), Option.bind_some, nI_clamp (show k < 2 ^ 31 by omega), nI_clamp (show 150 + k < 2 ^ 31 by omega), nI_clamp (show 270 + k < 2 ^ 31 by omega), nI_clamp (show 390 + k < 2 ^ 31 by omega), ldW_step (by omega), nI_1]
    exact ih (k + 1) g (by omega) (by omega)
theorem P_load39 {m : Nat} (hm : m ≤ 120) (w rl rc rp past : Nat → Int32) (pm fk fp : Int32) (roM : Nat → Int32) (rowsM wk wp rpg : Int32) : ∀ d k g, 10 + k + d = 510 → d < g → f_X4_load_39 past pm fk fp roM rowsM wk wp (nI m) rpg rl rc rp g (nI (10 + k)) (blkW 10 w k (fun _ => 0)) = (f_X4_layRows (ldW (upd (blkW 10 w 500 (fun _ => 0)) 9 (nI m)) m rl rc rp) roM rowsM).bind fun q => some (nI m, ldW (upd (blkW 10 w 500 (fun _ => 0)) 9 (nI m)) m rl rc rp, past, pm, fk, fp, q.1, q.2, wk, wp, nI m, rpg, rl, rc, rp) := by
  intro d
  induction d with
  | zero =>
    intro k g hk hg
    obtain ⟨g, rfl⟩ : ∃ z, g = z + 1 := ⟨g - 1, by omega⟩
    obtain rfl : k = 500 := by omega
    have := P_load72 hm (upd (blkW 10 w 500 (fun _ => 0)) 9 (nI m)) rl rc rp past pm fk fp roM rowsM wk wp rpg m 0 gas (by omega) (by unfold gas; omega)
    rw [ldW_0] at this
    rw [f_X4_load_39, if_pos (by decide), Option.bind_some]
    exact this
  | succ d ih =>
    intro k g hk hg
    obtain ⟨g, rfl⟩ : ∃ z, g = z + 1 := ⟨g - 1, by omega⟩
    have st := blk_step 10 k w (fun _ => (0 : Int32))
    rw [f_X4_load_39, show (510 : Int32) = nI 510 from rfl, if_neg (nI_ge (by omega) (by omega)), if_neg (ixN (by omega) (by omega)), Option.bind_some, nI_clamp (by omega), nI_1]
    have := ih (k + 1) g (by omega) (by omega)
    rw [← st] at this
    exact this
theorem P_loadM {m : Nat} (hm : m ≤ 120) (w rl rc rp past : Nat → Int32) (pm fk fp : Int32) (roM : Nat → Int32) (rowsM wk wp rpg : Int32) : f_X4_load_39 past pm fk fp roM rowsM wk wp (nI m) rpg rl rc rp gas 10 w = (f_X4_layRows (ldW (upd (blkW 10 w 500 (fun _ => 0)) 9 (nI m)) m rl rc rp) roM rowsM).bind fun q => some (nI m, ldW (upd (blkW 10 w 500 (fun _ => 0)) 9 (nI m)) m rl rc rp, past, pm, fk, fp, q.1, q.2, wk, wp, nI m, rpg, rl, rc, rp) := by
  have := P_load39 hm w rl rc rp past pm fk fp roM rowsM wk wp rpg 500 0 gas (by omega) (by unfold gas; omega)
  rw [blk_0] at this
  exact this
theorem P_begin0 {M' m P : Nat} {z : Nat → Nat} {w : Nat → Int32} {st : Nat → Int32} {wo pg wip rows : Int32} {le pa cu ro fi : Nat → Int32} {pr : Int32} {ti po ke : Nat → Int32} {kc ps sp tm hd top sk rp ms je ov : Int32} (hS : nbS z) (e1 : ∀ i, i < 9 → st i = w i) (hw : ∀ i, i < 9 → w i = nI (z i)) (hm : 1 ≤ m ∧ m ≤ 120) (c drows : Int32) (dl dpa dc dro dfi rl rc rpG : Nat → Int32) (hP : rpG (m - 1) = nI P) (hrc : ∀ i, i < m → cuO (rc i)) (hrp : pasO m rpG) (hdd : ∀ i, i < m → dl i = rl i ∧ dpa i = rpG i ∧ dc i = rc i) :
    ∃ rows' le' pa' cu' ro' fi', f_X1_begin st wo pg wip rows le pa cu ro fi pr kc ps sp tm hd top sk rp ms je ov (nI m) (nI (P + 1)) c drows dl dpa dc dro dfi = some (nI m, nI (P + 1), c, rows', le', pa', cu', ro', fi', 0, 0, 0, 0, 0, 0, 0, 0, 0, 0, 0, 0) ∧ REL M' (ldW (upd (blkW 10 w 500 (fun _ => 0)) 9 (nI m)) m rl rc rpG) st (nI m) (nI (P + 1)) c rows' le' pa' cu' ro' fi' 0 ti po ke 0 0 0 0 0 0 0 0 0 0 0 := by
  obtain ⟨s0, s1, s2, s3, s4, s5, s6, s7, s8⟩ := id hS
  obtain ⟨le', a1, b1⟩ := P_copyRow (n := 120) (by decide) dl le
  obtain ⟨pa', a2, b2⟩ := P_copyRow (n := 120) (by decide) dpa pa
  obtain ⟨cu', a3, b3⟩ := P_copyRow (n := 120) (by decide) dc cu
  obtain ⟨ro1, a4, b4⟩ := P_copyRow (n := 120) (by decide) dro ro
  obtain ⟨fi1, a5, b5⟩ := P_copyRow (n := 120) (by decide) dfi fi
  obtain ⟨ro', fi', l1, l2⟩ := P_lay (n := m) (wd := z 0) hm.2 s0 pa' ro1 fi1 drows
  have hz : ∀ i, 10 ≤ i → i < 150 → ldW (upd (blkW 10 w 500 (fun _ => 0)) 9 (nI m)) m rl rc rpG i = 0 := fun i h1 h2 => by
    rw [ldW_o h2, upd_ne _ _ (by omega)]
    have := blk_in (b := 10) (k := 500) (j := i - 10) w (fun _ => (0 : Int32)) (by omega)
    rw [show 10 + (i - 10) = i by omega] at this
    exact this
  have hlo : ∀ i, i < 9 → ldW (upd (blkW 10 w 500 (fun _ => 0)) 9 (nI m)) m rl rc rpG i = w i := fun i h1 => by
    rw [ldW_o (by omega), upd_ne _ _ (by omega), blk_out _ _ (by omega)]
  have h9 : ldW (upd (blkW 10 w 500 (fun _ => 0)) 9 (nI m)) m rl rc rpG 9 = nI m := by
    rw [ldW_o (by omega), upd_eq]
  have hpa : ∀ j, j < m → pa' j = pasW (ldW (upd (blkW 10 w 500 (fun _ => 0)) 9 (nI m)) m rl rc rpG) j := fun j hj => by
    show _ = ldW (upd (blkW 10 w 500 (fun _ => 0)) 9 (nI m)) m rl rc rpG (390 + j)
    rw [ldW_p hm.2 hj, b2 j (by omega), (hdd j hj).2.1]
  have z0 : (fun i => if i < 9 then z i else if i = 9 then m else 0 : Nat → Nat) 0 = z 0 := rfl
  refine ⟨nI (stR pa' (z 0) m).2, le', pa', cu', ro', fi', ?_, fun i => if i < 9 then z i else if i = 9 then m else 0, ⟨⟨s0, s1, s2, s3, s4, s5, s6, s7, s8⟩, ⟨hm, Nat.zero_le _, Nat.zero_le _, Nat.zero_le _, Nat.le_refl _, Nat.zero_le _, Nat.zero_le _⟩, fun i hi => ?_, hz 20 (by omega) (by omega), hz 25 (by omega) (by omega), z, z, trF_0 _ _ _ _, fun i hi => absurd hi (Nat.not_lt_zero _), Nat.zero_le _, ⟨0, hz 18 (by omega) (by omega), Nat.le_refl _⟩, fun i hi => ?_, ?_, fun y => absurd y (Nat.lt_irrefl _), fun y => absurd y (show ¬ 1 < 0 by decide)⟩, ?_⟩
  · unfold f_X1_begin f_X0_become f_X2_empty
    simp only [a1, a2, a3, a4, a5, Option.bind_some]
    rw [show f_X3_at 9 0 st = some (st 0) from P_at (k := 0) (by omega) (by omega), Option.bind_some, e1 0 (by omega), hw 0 (by omega), l1, Option.bind_some]
  · show _ = nI (if i < 9 then z i else if i = 9 then m else 0)
    by_cases a : i < 9
    · rw [if_pos a, hlo i a]; exact hw i a
    · rw [if_neg a]
      by_cases b : i = 9
      · rw [if_pos b, b, h9]
      · rw [if_neg b, hz i (by omega) (by omega)]; rfl
  · have hi : i < m := hi
    rw [ldW_c hm.2 hi]; exact hrc i hi
  · show pasO m (pasW (ldW (upd (blkW 10 w 500 (fun _ => 0)) 9 (nI m)) m rl rc rpG))
    exact pasO_congr (fun i hi => ldW_p hm.2 hi) hrp
  · refine ⟨fun i hi => by rw [hlo i hi]; exact e1 i hi, h9.symm, ?_, ?_, fun i hi => ?_, fun i hi => hpa i hi, fun i hi => ?_, laidR_congr hpa l2, (hz 25 (by omega) (by omega)).symm, fun i hi => absurd hi (Nat.not_lt_zero _), fun i hi => absurd hi (Nat.not_lt_zero _), (hz 20 (by omega) (by omega)).symm, (hz 11 (by omega) (by omega)).symm, (hz 12 (by omega) (by omega)).symm, (hz 10 (by omega) (by omega)).symm, (hz 13 (by omega) (by omega)).symm, (hz 14 (by omega) (by omega)).symm, (hz 15 (by omega) (by omega)).symm, (hz 16 (by omega) (by omega)).symm, (hz 17 (by omega) (by omega)).symm, (hz 18 (by omega) (by omega)).symm, (hz 19 (by omega) (by omega)).symm⟩
    · show nI (P + 1) = ldW (upd (blkW 10 w 500 (fun _ => 0)) 9 (nI m)) m rl rc rpG (390 + (m - 1)) + 1
      rw [ldW_p hm.2 (by omega), hP, nI_1]
    · show nI (stR pa' (z 0) m).2 = nI (stR _ (z 0) m).2
      rw [stR_congr m hpa]
    · have hi : i < m := hi
      rw [ldW_l hi, b1 i (by omega), (hdd i hi).1]
    · have hi : i < m := hi
      rw [ldW_c hm.2 hi, b3 i (by omega), (hdd i hi).2.2]
theorem P_begin {M M' m P : Nat} {w : Nat → Int32} {st : Nat → Int32} {wo pg wip rows : Int32} {le pa cu ro fi : Nat → Int32} {pr : Int32} {ti po ke : Nat → Int32} {kc ps sp tm hd top sk rp ms je ov : Int32} (r : REL M w st wo pg wip rows le pa cu ro fi pr ti po ke kc ps sp tm hd top sk rp ms je ov) (hm : 1 ≤ m ∧ m ≤ 120) (c drows : Int32) (dl dpa dc dro dfi rl rc rpG : Nat → Int32) (hP : rpG (m - 1) = nI P) (hrc : ∀ i, i < m → cuO (rc i)) (hrp : pasO m rpG) (hdd : ∀ i, i < m → dl i = rl i ∧ dpa i = rpG i ∧ dc i = rc i) :
    ∃ rows' le' pa' cu' ro' fi', f_X1_begin st wo pg wip rows le pa cu ro fi pr kc ps sp tm hd top sk rp ms je ov (nI m) (nI (P + 1)) c drows dl dpa dc dro dfi = some (nI m, nI (P + 1), c, rows', le', pa', cu', ro', fi', 0, 0, 0, 0, 0, 0, 0, 0, 0, 0, 0, 0) ∧ REL M' (ldW (upd (blkW 10 w 500 (fun _ => 0)) 9 (nI m)) m rl rc rpG) st (nI m) (nI (P + 1)) c rows' le' pa' cu' ro' fi' 0 ti po ke 0 0 0 0 0 0 0 0 0 0 0 := by
  obtain ⟨z, ⟨hS, hN, hw, h20, h25, T, P', hT, hTP, hX⟩, e1, e2⟩ := r
  exact P_begin0 hS e1 (fun i hi => hw i (by omega)) hm c drows dl dpa dc dro dfi rl rc rpG hP hrc hrp hdd
