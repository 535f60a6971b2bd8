/-! areAlike, of a ghost with itself -/
theorem T_mean {g : GS} {M : Nat} {z : Nat → Nat} (hI : MI M g.1 z) : ∃ q, g_mean g = some q ∧ Op.cmpValue (FP.fcmp q q) .l = 0 := by
  obtain ⟨ro, fi, l1, l2⟩ := lay_eq hI
  obtain ⟨hS, hN, hw, h20, h25, T, P, hT, hTP, hX⟩ := id hI
  have h1 := stR_pos (pasW g.1) hS.1.1 hN.1.1
  have h2 := (stR_fact (pasW g.1) hS.1.1 (z 9)).2.1
  have hn := hN.1
  have hm := mean_n (z 9 - 1) (by omega) ((stR (pasW g.1) (z 0) (z 9)).2 - 1) (by omega)
  have hf := mean_f (z 9 - 1) (by omega) ((stR (pasW g.1) (z 0) (z 9)).2 - 1) (by omega)
  rw [show z 9 - 1 + 1 = z 9 by omega, show (stR (pasW g.1) (z 0) (z 9)).2 - 1 + 1 = (stR (pasW g.1) (z 0) (z 9)).2 by omega] at hm hf
  refine ⟨_, ?_, hf⟩
  unfold g_mean
  rw [l1, Option.bind_some]
  unfold f_X4_mean
  rw [hw 9 (by omega), if_neg (fun c => c hm)]
theorem G_told {g : GS} (hM : gM g ≤ 80000) (h : GI g) {p : Int32} (hp : ¬ p = 18) : ∃ v, g_told p g = some v := by
  obtain ⟨S, hS⟩ := h.1
  obtain ⟨ro', rows', l1, l2⟩ := lay0_some hS
  obtain ⟨v, a, b⟩ := P_told (by omega) hS ro' rows' l2 p 0
  refine ⟨v, ?_⟩
  unfold g_told
  rw [if_neg hp, l1, Option.bind_some, b]
theorem G_reh {g : GS} (hM : gM g ≤ 80000) (h : GI g) (p1 p2 : Int32) : ∃ v, g_rehearse p1 p2 g = some (v, g) := by
  obtain ⟨S, hS⟩ := h.1
  obtain ⟨v, S', a, b⟩ := A_rehearse (u := 0) (hr := fun i => i) (PS := fun _ _ _ => 0) hM hS p1 p2 O0 0 0 0 0 O0 O0 O0 O0 O0 0 O0 O0 O0 0 0 0 0 0 0 0 0 0 0 0
  exact ⟨v, b⟩
theorem E_aa20 {g : GS} (hM : gM g ≤ 80000) (h : GI g) : ∀ m k f, k + m = 18 → m < f → f_L_areAlike_20 g g f (1 : Int32) (nI k) = some ((1 : Int32), g, g) := by
  intro m
  induction m with
  | zero =>
    intro k f hk hf
    obtain ⟨f, rfl⟩ : ∃ y, f = y + 1 := ⟨f - 1, by omega⟩
    obtain rfl : k = 18 := by omega
    obtain ⟨v, a⟩ := G_reh hM h 3 0
    obtain ⟨v', b⟩ := G_reh hM h 2 3
    rw [f_L_areAlike_20, if_pos (show (18 : Int32) ≤ nI 18 from nI_le (Nat.le_refl _) (by omega)), if_neg (show ¬ (1 : Int32) = 0 by decide), a]
    show (if v = v then (g_rehearse 2 3 g).bind (fun q77 => (g_rehearse 2 3 g).bind fun q83 => if q77.1 = q83.1 then some ((1 : Int32), q77.2, q83.2) else some ((0 : Int32), q77.2, q83.2)) else some ((0 : Int32), g, g)) = _
    rw [if_pos rfl, b]
    show (if v' = v' then some ((1 : Int32), g, g) else some ((0 : Int32), g, g)) = _
    rw [if_pos rfl]
  | succ m ih =>
    intro k f hk hf
    obtain ⟨f, rfl⟩ : ∃ y, f = y + 1 := ⟨f - 1, by omega⟩
    have hn : ¬ (18 : Int32) ≤ nI k := nI_ge (b := 18) (by omega) (by omega)
    obtain ⟨v, a⟩ := G_told hM h (p := nI k) (fun e => hn (by rw [e]; decide))
    rw [f_L_areAlike_20, if_neg hn, if_neg (show ¬ (1 : Int32) = 0 by decide), a]
    show (if v = v then f_L_areAlike_20 g g f (1 : Int32) (nI k + 1) else f_L_areAlike_20 g g f (0 : Int32) (nI k + 1)) = _
    rw [if_pos rfl, nI_1]
    exact ih (k + 1) f (by omega) (by omega)
theorem L_areAlike {g : GS} (hM : gM g ≤ 80000) (h : GI g) : f_L_areAlike g g = some ((1 : Int32), g, g) := by
  obtain ⟨z, hI⟩ := GI_MI h
  obtain ⟨q, a, b⟩ := T_mean hI
  unfold f_L_areAlike
  rw [a]
  show (if Op.cmpValue (FP.fcmp q q) .l = (0 : Int32) then f_L_areAlike_20 g g gas (1 : Int32) (0 : Int32) else f_L_areAlike_20 g g gas (0 : Int32) (0 : Int32)) = _
  rw [if_pos b]
  exact E_aa20 hM h 18 0 gas rfl (by unfold gas; omega)
