/-! the mean -/
theorem mean_n : ∀ a, a < 120 → ∀ b, b < 120 → FP.fdiv (FP.i2f (nI (a + 1))) (FP.i2f (nI (b + 1))) &&& 0x7fffffff ≤ 0x7f800000 := by decide +kernel
theorem stR_pos (pas : Nat → Int32) {wd n : Nat} (hw : 1 ≤ wd) (hn : 1 ≤ n) : 1 ≤ (stR pas wd n).2 := ((stR_fact pas hw n).2.2 (by omega)).2
theorem P_meanR {M : Nat} {w : Nat → Int32} {st : Nat → Int32} {wo pg wip rows : Int32} {le pa cu ro fi : Nat → Int32} {pr : Int32} {ti po ke : Nat → Int32} {kc ps sp tm hd top sk rp ms je ov : Int32} (r : REL M w st wo pg wip rows le pa cu ro fi pr ti po ke kc ps sp tm hd top sk rp ms je ov) (roM : Nat → Int32) (rowsM : Int32) (hL : LR wo rows ro roM rowsM) : ∃ v, f_X3_mean wo rows = some v ∧ f_X4_mean w rowsM = some v := by
  obtain ⟨z, ⟨hS, hN, hw, h20, h25, T, P, hT, hTP, hX⟩, e1, e2, e3, e4, e5⟩ := r
  have h1 := stR_pos (pasW w) hS.1.1 hN.1.1
  have h2 := (stR_fact (pasW w) hS.1.1 (z 9)).2.1
  have hn := hN.1
  have hm := mean_n (z 9 - 1) (by omega) ((stR (pasW w) (z 0) (z 9)).2 - 1) (by omega)
  rw [show z 9 - 1 + 1 = z 9 by omega, show (stR (pasW w) (z 0) (z 9)).2 - 1 + 1 = (stR (pasW w) (z 0) (z 9)).2 by omega] at hm
  unfold f_X3_mean f_X4_mean
  rw [hL.1, e2, hw 9 (by omega), e4, if_neg (nI_nle (by omega) (by omega)), if_neg (fun q => q hm)]
  exact ⟨_, rfl, rfl⟩
