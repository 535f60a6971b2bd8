/-! the start -/
def w00 : Nat → Int32 := upd (upd (upd (upd (upd (upd (upd (upd (upd (upd (upd (fun _ => (0 : Int32)) 0 (5 : Int32)) 1 (3 : Int32)) 2 (1 : Int32)) 3 (8 : Int32)) 4 (15 : Int32)) 5 (2 : Int32)) 6 (20 : Int32)) 7 (25 : Int32)) 8 (2 : Int32)) 9 (1 : Int32)) 150 (97 : Int32)
def z00 : Nat → Nat := fun j => match j with | 0 => 5 | 1 => 3 | 2 => 1 | 3 => 8 | 4 => 15 | 5 => 2 | 6 => 20 | 7 => 25 | _ => 2
def O0 : Nat → Int32 := fun _ => (0 : Int32)
theorem start_read : f_X0_read (97 : Int32) (32 : Int32) 0 1 0 O0 O0 O0 = some (0, 1, 1, 1, upd O0 0 97, upd O0 0 0, upd O0 0 0) := by
  unfold f_X0_read f_X3_isLetter
  rw [if_neg (by decide), if_neg (by decide), Option.bind_some, if_neg (by decide)]
  unfold f_X0_append
  rw [if_pos (by decide), show (f_X3_put 120 0 97 O0) = some (upd O0 0 97) from P_put (k := 0) (by decide) (by decide), Option.bind_some, show (f_X3_put 120 0 (1 - 1) O0) = some (upd O0 0 0) from P_put (k := 0) (by decide) (by decide), Option.bind_some, show (f_X3_put 120 0 0 O0) = some (upd O0 0 0) from P_put (k := 0) (by decide) (by decide), Option.bind_some, Option.bind_some]
  rfl
theorem w00_z : ∀ i, i < 9 → w00 i = nI (z00 i) := by
  intro i hi
  rcases (show i = 0 ∨ i = 1 ∨ i = 2 ∨ i = 3 ∨ i = 4 ∨ i = 5 ∨ i = 6 ∨ i = 7 ∨ i = 8 by omega) with rfl | rfl | rfl | rfl | rfl | rfl | rfl | rfl | rfl <;> rfl
theorem P_start : ∃ wo pg wip rows le pa cu ro fi pr kc ps sp tm hd top sk rp ms je ov roM rowsM, f_X1_begin (va_cpy F_FIRST O0 0 0 9) 0 0 0 0 O0 O0 O0 O0 O0 0 0 0 0 0 0 0 0 0 0 0 0 1 1 1 0 (upd O0 0 97) (upd O0 0 0) (upd O0 0 0) O0 O0 = some (wo, pg, wip, rows, le, pa, cu, ro, fi, pr, kc, ps, sp, tm, hd, top, sk, rp, ms, je, ov) ∧ f_X4_layRows w00 O0 0 = some (roM, rowsM) ∧ REL 0 w00 (va_cpy F_FIRST O0 0 0 9) wo pg wip rows le pa cu ro fi pr O0 O0 O0 kc ps sp tm hd top sk rp ms je ov ∧ LR wo rows ro roM rowsM := by
  have hst : ∀ i, i < 9 → va_cpy F_FIRST O0 0 0 9 i = w00 i := by
    intro i hi
    rcases (show i = 0 ∨ i = 1 ∨ i = 2 ∨ i = 3 ∨ i = 4 ∨ i = 5 ∨ i = 6 ∨ i = 7 ∨ i = 8 by omega) with rfl | rfl | rfl | rfl | rfl | rfl | rfl | rfl | rfl <;> rfl
  have hS : nbS z00 := by unfold nbS z00; decide
  obtain ⟨rows, le, pa, cu, ro, fi, b1, b2⟩ := P_begin0 (M' := 0) (m := 1) (P := 0) (wo := 0) (pg := 0) (wip := 0) (rows := 0) (le := O0) (pa := O0) (cu := O0) (ro := O0) (fi := O0) (pr := 0) (ti := O0) (po := O0) (ke := O0) (kc := 0) (ps := 0) (sp := 0) (tm := 0) (hd := 0) (top := 0) (sk := 0) (rp := 0) (ms := 0) (je := 0) (ov := 0) hS hst w00_z (by decide) 1 0 (upd O0 0 97) (upd O0 0 0) (upd O0 0 0) O0 O0 (upd O0 0 97) (upd O0 0 0) (upd O0 0 0) (upd_eq _ _ _) (fun i hi => by rw [show i = 0 by omega]; exact Or.inl rfl) ⟨fun _ => rfl, fun i hi => absurd hi (by omega)⟩ (fun i hi => ⟨rfl, rfl, rfl⟩)
  have b3 := REL_ext (w' := w00) (fun i hi => by
    by_cases a : i = 150
    · rw [a, show ldW (upd (blkW 10 w00 500 (fun _ => 0)) 9 (nI 1)) 1 (upd O0 0 97) (upd O0 0 0) (upd O0 0 0) 150 = upd O0 0 97 0 from ldW_l (i := 0) (by decide)]
      rfl
    · by_cases b : i = 270
      · rw [b, show ldW (upd (blkW 10 w00 500 (fun _ => 0)) 9 (nI 1)) 1 (upd O0 0 97) (upd O0 0 0) (upd O0 0 0) 270 = upd O0 0 0 0 from ldW_c (i := 0) (by decide) (by decide)]
        rfl
      · by_cases c : i = 390
        · rw [c, show ldW (upd (blkW 10 w00 500 (fun _ => 0)) 9 (nI 1)) 1 (upd O0 0 97) (upd O0 0 0) (upd O0 0 0) 390 = upd O0 0 0 0 from ldW_p (i := 0) (by decide) (by decide)]
          rfl
        · unfold ldW
          rw [if_neg (by omega), if_neg (by omega), if_neg (by omega)]
          by_cases d : i = 9
          · rw [d, upd_eq]; rfl
          · rw [upd_ne _ _ d]
            by_cases e : i < 10
            · rw [blk_out _ _ (by omega)]
            · have h0 : blkW 10 w00 500 (fun _ => (0 : Int32)) i = 0 := by
                unfold blkW
                rw [if_pos (by omega)]
              rw [h0]
              unfold w00
              rw [upd_ne _ _ a, upd_ne _ _ d, upd_ne _ _ (by omega), upd_ne _ _ (by omega), upd_ne _ _ (by omega), upd_ne _ _ (by omega), upd_ne _ _ (by omega), upd_ne _ _ (by omega), upd_ne _ _ (by omega), upd_ne _ _ (by omega), upd_ne _ _ (by omega)]) b2
  obtain ⟨roM, rowsM, l1, l2⟩ := P_layR b3 O0 0
  exact ⟨_, _, _, _, _, _, _, _, _, _, _, _, _, _, _, _, _, _, _, _, _, roM, rowsM, b1, l1, b3, l2⟩
