/-! load and change, of ghosts -/
theorem GI_clr {g : GS} (h : GI g) : GI (clr g) := ⟨h.1, h.2.1, h.2.2.1, rfl⟩
theorem L_lowK (v : Int32) (n : Nat) (x : Int32) (e : x = nI n) (hn : 1 ≤ n) (hn' : n < 2 ^ 31) : ∃ k, k < n ∧ f_L_low v x = some (nI k) := by
  rw [e]; exact L_low v hn hn'
theorem L_load_l {x1 x2 : Int32} {n : Nat} (hn : n ≤ 90) : ∀ m k f g, k + m = n → m < f → gM g ≤ 80000 → GI g → ∃ r g', f_L_load_18 x1 x2 (nI n) f (nI k) g = some (r, g') ∧ GI g' ∧ gM g' = gM g := by
  intro m
  induction m with
  | zero =>
    intro k f g hk hf hM h
    obtain ⟨f, rfl⟩ : ∃ y, f = y + 1 := ⟨f - 1, by omega⟩
    obtain ⟨r, g', e1, e2, e3⟩ := G_load hM h
    rw [f_L_load_18, if_pos (nI_le (by omega) (by omega)), e1, Option.bind_some]
    exact ⟨r, g', rfl, e2, e3⟩
  | succ m ih =>
    intro k f g hk hf hM h
    obtain ⟨f, rfl⟩ : ∃ y, f = y + 1 := ⟨f - 1, by omega⟩
    have rest : ∀ s g1, GI g1 → gM g1 = gM g → ∃ r g', f_L_load_78 (f_L_load_18 x1 x2 (nI n) f) x2 (nI n) (nI k) s g1 = some (r, g') ∧ GI g' ∧ gM g' = gM g := by
      intro s g1 h1 hm1
      unfold f_L_load_78
      obtain ⟨c, hc, ec⟩ := L_lowK (x2 >>> ((nI k - nI k / (17 : Int32) * (17 : Int32)) &&& 31)) 13 13 rfl (by omega) (by omega)
      rw [ec, Option.bind_some, nI_1]
      by_cases a : nI n ≤ nI (k + 1)
      · rw [if_pos a]
        obtain ⟨r, g', e1, e2, e3⟩ := ih (k + 1) f g1 (by omega) (by omega) (by omega) h1
        exact ⟨r, g', e1, e2, by omega⟩
      · rw [if_neg a]
        by_cases b : nI c = 0
        · obtain ⟨r2, g2, w1, w2, w3⟩ := G_write h1 124
          rw [if_pos b, w1, Option.bind_some]
          obtain ⟨r, g', e1, e2, e3⟩ := ih (k + 1) f g2 (by omega) (by omega) (by omega) w2
          exact ⟨r, g', e1, e2, by omega⟩
        · rw [if_neg b]
          obtain ⟨r, g', e1, e2, e3⟩ := ih (k + 1) f g1 (by omega) (by omega) (by omega) h1
          exact ⟨r, g', e1, e2, by omega⟩
    obtain ⟨a, ha, ea⟩ := L_lowK (x1 >>> ((8 : Int32) &&& 31)) 4 4 rfl (by omega) (by omega)
    obtain ⟨b, hb, eb⟩ := L_lowK (x2 >>> ((nI k - nI k / (23 : Int32) * (23 : Int32)) &&& 31)) (2 + a) ((2 : Int32) + nI a) (nI_add 2 a) (by omega) (by omega)
    obtain ⟨c, hc, ec⟩ := L_lowK (x1 >>> ((nI k - nI k / (19 : Int32) * (19 : Int32)) &&& 31)) 11 11 rfl (by omega) (by omega)
    obtain ⟨r1, g1, w1, w2, w3⟩ := G_write h ((97 : Int32) + nI b)
    rw [f_L_load_18, if_neg (nI_ge (by omega) (by omega)), ea, Option.bind_some, eb, Option.bind_some, w1, Option.bind_some, ec, Option.bind_some]
    by_cases d : nI c = 0
    · obtain ⟨r2, g2, v1, v2, v3⟩ := G_write w2 47
      rw [if_pos d, v1, Option.bind_some]
      exact rest _ g2 v2 (by omega)
    · rw [if_neg d]
      exact rest _ g1 w2 w3
theorem L_load (v more : Int32) {g : GS} (hM : gM g ≤ 80000) (h : GI g) : ∃ r g', f_L_load v more g = some (r, g') ∧ GI g' ∧ gM g' = gM g := by
  obtain ⟨r0, g0, e0, h0, m0⟩ := G_wipe h
  obtain ⟨a, ha, ea⟩ := L_lowK v 90 90 rfl (by omega) (by omega)
  unfold f_L_load
  rw [e0, Option.bind_some, ea, Option.bind_some, show (1 : Int32) = nI 1 from rfl, nI_add, show (0 : Int32) = nI 0 from rfl]
  obtain ⟨r, g', e1, e2, e3⟩ := L_load_l (x1 := v) (x2 := more) (n := 1 + a) (by omega) (1 + a) 0 gas g0 (by omega) (by unfold gas; omega) (by omega) h0
  exact ⟨r, g', e1, e2, by omega⟩
theorem L_tick (more : Int32) {g : GS} (hM : gM g + 100 ≤ 80000) (h : GI g) : ∃ r g', f_L_change_345 more g = some (r, g') ∧ GI g' ∧ gM g' = gM g + 100 ∧ (∃ J J', J ≤ J' ∧ J' ≤ gM g + 100 ∧ g.1 18 = nI J ∧ g'.1 18 = nI J') ∧ ∃ z, MI (gM g') g'.1 z ∧ shWn g'.1 z := by
  have go : ∀ (n : Nat) (x : Int32), x = nI n → 1 ≤ n → n ≤ 60 → ∃ r g', f_L_change_365 1 more x g = some (r, g') ∧ GI g' ∧ gM g' = gM g + 100 ∧ (∃ J J', J ≤ J' ∧ J' ≤ gM g + 100 ∧ g.1 18 = nI J ∧ g'.1 18 = nI J') ∧ ∃ z, MI (gM g') g'.1 z ∧ shWn g'.1 z := by
    intro n x hx h1 h2
    obtain ⟨a, ha, ea⟩ := L_lowK more n x hx h1 (by omega)
    obtain ⟨r, g', e1, e2⟩ := G_tick hM h (k := 1 + a) (by omega) (by omega)
    unfold f_L_change_365
    rw [ea, Option.bind_some, show (1 : Int32) = nI 1 from rfl, nI_add, e1, Option.bind_some]
    exact ⟨r, g', rfl, e2⟩
  obtain ⟨a, ha, ea⟩ := L_lowK (more >>> ((6 : Int32) &&& 31)) 4 4 rfl (by omega) (by omega)
  unfold f_L_change_345
  rw [ea, Option.bind_some]
  by_cases d : nI a = 0
  · rw [if_pos d]; exact go 60 60 rfl (by omega) (by omega)
  · rw [if_neg d]; exact go 4 4 rfl (by omega) (by omega)
def CHF (x : Nat) (g g' : GS) : Prop := GI (clr g') ∧ gM g' ≤ gM g + 100 ∧ (11 ≤ x → x ≤ 14 → (∃ J J', J ≤ J' ∧ J' ≤ 80000 ∧ g.1 18 = nI J ∧ g'.1 18 = nI J') ∧ ∃ z, MI (gM g') g'.1 z ∧ shWn g'.1 z)
theorem CHF_o {x : Nat} {g g' : GS} (hx : ¬ (11 ≤ x ∧ x ≤ 14)) (h : GI g') (hm : gM g' = gM g) : CHF x g g' := ⟨GI_clr h, by omega, fun a b => absurd ⟨a, b⟩ hx⟩
theorem L_hear (p : Int32) {x : Nat} {g : GS} (hx : ¬ (11 ≤ x ∧ x ≤ 14)) (hM : gM g + 100 ≤ 80000) (h : GI g) : ∃ r g', f_L_change_392 p g = some (r, g') ∧ CHF x g g' := by
  obtain ⟨r, g', e1, e2, e3⟩ := G_hear (by omega) h p
  unfold f_L_change_392
  rw [e1, Option.bind_some]
  exact ⟨r, g', rfl, e2, by omega, fun a b => absurd ⟨a, b⟩ hx⟩
theorem L_change {v more : Int32} {g : GS} {x : Nat} (hx : f_L_low v 24 = some (nI x)) (hx8 : ¬ x = 8) (hxl : x < 24) (hM : gM g + 100 ≤ 80000) (h : GI g) : ∃ r g', f_L_change v more g = some (r, g') ∧ CHF x g g' := by
  obtain ⟨z, hI⟩ := GI_MI h
  have hn := hI.2.1.1
  have hp := hI.2.1.2.2.1
  have hM' : gM g ≤ 80000 := by omega
  unfold f_L_change
  rw [T_t0 (by omega) hI, Option.bind_some, T_t5 (by omega) hI, Option.bind_some, hx, Option.bind_some]
  have lowT : ∀ (w : Int32) (n : Nat) (y : Int32), y = nI n → 1 ≤ n → n < 2 ^ 31 → ∃ k, f_L_low w y = some (nI k) := fun w n y e a b => (L_lowK w n y e a b).elim fun k q => ⟨k, q.2⟩
  rcases (show x = 0 ∨ x = 1 ∨ x = 2 ∨ x = 3 ∨ x = 4 ∨ x = 5 ∨ x = 6 ∨ x = 7 ∨ x = 9 ∨ x = 10 ∨ x = 11 ∨ x = 12 ∨ x = 13 ∨ x = 14 ∨ x = 15 ∨ x = 16 ∨ x = 17 ∨ x = 18 ∨ x = 19 ∨ x = 20 ∨ x = 21 ∨ x = 22 ∨ x = 23 by omega) with rfl | rfl | rfl | rfl | rfl | rfl | rfl | rfl | rfl | rfl | rfl | rfl | rfl | rfl | rfl | rfl | rfl | rfl | rfl | rfl | rfl | rfl | rfl
  · rw [if_pos (show nI 0 = (0 : Int32) from rfl)]
    obtain ⟨r, g', e1, e2, e3⟩ := L_load more v hM' h
    rw [e1, Option.bind_some]
    exact ⟨r, g', rfl, CHF_o (by omega) e2 e3⟩
  · rw [if_neg (show ¬ nI 1 = (0 : Int32) by decide), if_pos (show nI 1 = (1 : Int32) from rfl)]
    obtain ⟨k, ek⟩ := lowT more 12 12 rfl (by omega) (by omega)
    rw [ek, Option.bind_some]
    obtain ⟨r, g', e1, e2, e3⟩ := G_set hM' h 0 (1 + nI k)
    rw [e1, Option.bind_some]
    exact ⟨r, g', rfl, CHF_o (by omega) e2 e3⟩
  · rw [if_neg (show ¬ nI 2 = (0 : Int32) by decide), if_neg (show ¬ nI 2 = (1 : Int32) by decide), if_pos (show nI 2 = (2 : Int32) from rfl)]
    obtain ⟨b, eb⟩ := lowT more 2 2 rfl (by omega) (by omega)
    rw [eb, Option.bind_some]
    by_cases d : nI b = 0
    · obtain ⟨k, ek⟩ := lowT (more >>> ((1 : Int32) &&& 31)) 8 8 rfl (by omega) (by omega)
      obtain ⟨r, g', e1, e2, e3⟩ := G_set hM' h 1 (1 + nI k)
      rw [if_pos d, ek, Option.bind_some, e1, Option.bind_some]
      exact ⟨r, g', rfl, CHF_o (by omega) e2 e3⟩
    · obtain ⟨k, ek⟩ := lowT (more >>> ((1 : Int32) &&& 31)) 8 8 rfl (by omega) (by omega)
      obtain ⟨r, g', e1, e2, e3⟩ := G_set hM' h 2 (nI k)
      rw [if_neg d, ek, Option.bind_some, e1, Option.bind_some]
      exact ⟨r, g', rfl, CHF_o (by omega) e2 e3⟩
  · rw [if_neg (show ¬ nI 3 = (0 : Int32) by decide), if_neg (show ¬ nI 3 = (1 : Int32) by decide), if_neg (show ¬ nI 3 = (2 : Int32) by decide), if_pos (show nI 3 = (3 : Int32) from rfl)]
    obtain ⟨b, eb⟩ := lowT more 2 2 rfl (by omega) (by omega)
    rw [eb, Option.bind_some]
    by_cases d : nI b = 0
    · obtain ⟨k, ek⟩ := lowT (more >>> ((1 : Int32) &&& 31)) 31 31 rfl (by omega) (by omega)
      obtain ⟨r, g', e1, e2, e3⟩ := G_set hM' h 3 (nI k)
      rw [if_pos d, ek, Option.bind_some, e1, Option.bind_some]
      exact ⟨r, g', rfl, CHF_o (by omega) e2 e3⟩
    · obtain ⟨k, ek⟩ := lowT (more >>> ((1 : Int32) &&& 31)) 60 60 rfl (by omega) (by omega)
      obtain ⟨r, g', e1, e2, e3⟩ := G_set hM' h 4 (1 + nI k)
      rw [if_neg d, ek, Option.bind_some, e1, Option.bind_some]
      exact ⟨r, g', rfl, CHF_o (by omega) e2 e3⟩
  · rw [if_neg (show ¬ nI 4 = (0 : Int32) by decide), if_neg (show ¬ nI 4 = (1 : Int32) by decide), if_neg (show ¬ nI 4 = (2 : Int32) by decide), if_neg (show ¬ nI 4 = (3 : Int32) by decide), if_pos (show nI 4 = (4 : Int32) from rfl)]
    obtain ⟨b, eb⟩ := lowT more 2 2 rfl (by omega) (by omega)
    rw [eb, Option.bind_some]
    by_cases d : nI b = 0
    · obtain ⟨k, ek⟩ := lowT (more >>> ((1 : Int32) &&& 31)) 4 4 rfl (by omega) (by omega)
      obtain ⟨r, g', e1, e2, e3⟩ := G_set hM' h 5 (1 + nI k)
      rw [if_pos d, ek, Option.bind_some, e1, Option.bind_some]
      exact ⟨r, g', rfl, CHF_o (by omega) e2 e3⟩
    · obtain ⟨k, ek⟩ := lowT (more >>> ((1 : Int32) &&& 31)) 60 60 rfl (by omega) (by omega)
      obtain ⟨r, g', e1, e2, e3⟩ := G_set hM' h 6 (1 + nI k)
      rw [if_neg d, ek, Option.bind_some, e1, Option.bind_some]
      exact ⟨r, g', rfl, CHF_o (by omega) e2 e3⟩
  · rw [if_neg (show ¬ nI 5 = (0 : Int32) by decide), if_neg (show ¬ nI 5 = (1 : Int32) by decide), if_neg (show ¬ nI 5 = (2 : Int32) by decide), if_neg (show ¬ nI 5 = (3 : Int32) by decide), if_neg (show ¬ nI 5 = (4 : Int32) by decide), if_pos (show nI 5 = (5 : Int32) from rfl)]
    obtain ⟨b, eb⟩ := lowT more 2 2 rfl (by omega) (by omega)
    rw [eb, Option.bind_some]
    by_cases d : nI b = 0
    · obtain ⟨k, ek⟩ := lowT (more >>> ((1 : Int32) &&& 31)) 100 100 rfl (by omega) (by omega)
      obtain ⟨r, g', e1, e2, e3⟩ := G_set hM' h 7 (1 + nI k)
      rw [if_pos d, ek, Option.bind_some, e1, Option.bind_some]
      exact ⟨r, g', rfl, CHF_o (by omega) e2 e3⟩
    · obtain ⟨k, ek⟩ := lowT (more >>> ((1 : Int32) &&& 31)) 11 11 rfl (by omega) (by omega)
      obtain ⟨r, g', e1, e2, e3⟩ := G_set hM' h 8 (nI k)
      rw [if_neg d, ek, Option.bind_some, e1, Option.bind_some]
      exact ⟨r, g', rfl, CHF_o (by omega) e2 e3⟩
  · rw [if_neg (show ¬ nI 6 = (0 : Int32) by decide), if_neg (show ¬ nI 6 = (1 : Int32) by decide), if_neg (show ¬ nI 6 = (2 : Int32) by decide), if_neg (show ¬ nI 6 = (3 : Int32) by decide), if_neg (show ¬ nI 6 = (4 : Int32) by decide), if_neg (show ¬ nI 6 = (5 : Int32) by decide), if_pos (show nI 6 = (6 : Int32) from rfl)]
    obtain ⟨k, ek⟩ := lowT more (z 9) (nI (z 9)) rfl (by omega) (by omega)
    rw [ek, Option.bind_some]
    obtain ⟨r, g', e1, e2, e3⟩ := G_place hM' h (nI k)
    rw [e1, Option.bind_some]
    exact ⟨r, g', rfl, CHF_o (by omega) e2 e3⟩
  · rw [if_neg (show ¬ nI 7 = (0 : Int32) by decide), if_neg (show ¬ nI 7 = (1 : Int32) by decide), if_neg (show ¬ nI 7 = (2 : Int32) by decide), if_neg (show ¬ nI 7 = (3 : Int32) by decide), if_neg (show ¬ nI 7 = (4 : Int32) by decide), if_neg (show ¬ nI 7 = (5 : Int32) by decide), if_neg (show ¬ nI 7 = (6 : Int32) by decide), if_pos (show nI 7 = (7 : Int32) from rfl)]
    obtain ⟨r, g', e1, e2, e3⟩ := G_release hM' h
    rw [e1, Option.bind_some]
    exact ⟨r, g', rfl, CHF_o (by omega) e2 e3⟩
  · rw [if_neg (show ¬ nI 9 = (0 : Int32) by decide), if_neg (show ¬ nI 9 = (1 : Int32) by decide), if_neg (show ¬ nI 9 = (2 : Int32) by decide), if_neg (show ¬ nI 9 = (3 : Int32) by decide), if_neg (show ¬ nI 9 = (4 : Int32) by decide), if_neg (show ¬ nI 9 = (5 : Int32) by decide), if_neg (show ¬ nI 9 = (6 : Int32) by decide), if_neg (show ¬ nI 9 = (7 : Int32) by decide), if_neg (show ¬ nI 9 = (8 : Int32) by decide), if_pos (show nI 9 = (9 : Int32) from rfl)]
    obtain ⟨b, eb⟩ := lowT more 2 2 rfl (by omega) (by omega)
    obtain ⟨k, ek⟩ := lowT (more >>> ((1 : Int32) &&& 31)) 2 2 rfl (by omega) (by omega)
    rw [eb, Option.bind_some]
    by_cases d : nI b = 0
    · obtain ⟨r, g', e1, e2, e3⟩ := G_keep hM' h (nI k)
      rw [if_pos d, ek, Option.bind_some, e1, Option.bind_some]
      exact ⟨r, g', rfl, CHF_o (by omega) e2 e3⟩
    · obtain ⟨r, g', e1, e2, e3⟩ := G_back hM' h (nI k)
      rw [if_neg d, ek, Option.bind_some, e1, Option.bind_some]
      exact ⟨r, g', rfl, CHF_o (by omega) e2 e3⟩
  · rw [if_neg (show ¬ nI 10 = (0 : Int32) by decide), if_neg (show ¬ nI 10 = (1 : Int32) by decide), if_neg (show ¬ nI 10 = (2 : Int32) by decide), if_neg (show ¬ nI 10 = (3 : Int32) by decide), if_neg (show ¬ nI 10 = (4 : Int32) by decide), if_neg (show ¬ nI 10 = (5 : Int32) by decide), if_neg (show ¬ nI 10 = (6 : Int32) by decide), if_neg (show ¬ nI 10 = (7 : Int32) by decide), if_neg (show ¬ nI 10 = (8 : Int32) by decide), if_neg (show ¬ nI 10 = (9 : Int32) by decide), if_pos (show nI 10 = (10 : Int32) from rfl)]
    obtain ⟨k, ek⟩ := lowT more 6 6 rfl (by omega) (by omega)
    rw [ek, Option.bind_some]
    exact L_hear (97 + nI k) (by omega) hM h
  · rw [if_neg (show ¬ nI 11 = (0 : Int32) by decide), if_neg (show ¬ nI 11 = (1 : Int32) by decide), if_neg (show ¬ nI 11 = (2 : Int32) by decide), if_neg (show ¬ nI 11 = (3 : Int32) by decide), if_neg (show ¬ nI 11 = (4 : Int32) by decide), if_neg (show ¬ nI 11 = (5 : Int32) by decide), if_neg (show ¬ nI 11 = (6 : Int32) by decide), if_neg (show ¬ nI 11 = (7 : Int32) by decide), if_neg (show ¬ nI 11 = (8 : Int32) by decide), if_neg (show ¬ nI 11 = (9 : Int32) by decide), if_neg (show ¬ nI 11 = (10 : Int32) by decide), if_pos (show nI 11 = (11 : Int32) from rfl)]
    obtain ⟨r, g', e1, e2, e3, ⟨J, J', j1, j2, j3, j4⟩, e5⟩ := L_tick more hM h
    rw [e1]
    exact ⟨r, g', rfl, GI_clr e2, by omega, fun _ _ => ⟨⟨J, J', j1, by omega, j3, j4⟩, e5⟩⟩
  · rw [if_neg (show ¬ nI 12 = (0 : Int32) by decide), if_neg (show ¬ nI 12 = (1 : Int32) by decide), if_neg (show ¬ nI 12 = (2 : Int32) by decide), if_neg (show ¬ nI 12 = (3 : Int32) by decide), if_neg (show ¬ nI 12 = (4 : Int32) by decide), if_neg (show ¬ nI 12 = (5 : Int32) by decide), if_neg (show ¬ nI 12 = (6 : Int32) by decide), if_neg (show ¬ nI 12 = (7 : Int32) by decide), if_neg (show ¬ nI 12 = (8 : Int32) by decide), if_neg (show ¬ nI 12 = (9 : Int32) by decide), if_neg (show ¬ nI 12 = (10 : Int32) by decide), if_neg (show ¬ nI 12 = (11 : Int32) by decide), if_pos (show nI 12 = (12 : Int32) from rfl)]
    obtain ⟨r, g', e1, e2, e3, ⟨J, J', j1, j2, j3, j4⟩, e5⟩ := L_tick more hM h
    rw [e1]
    exact ⟨r, g', rfl, GI_clr e2, by omega, fun _ _ => ⟨⟨J, J', j1, by omega, j3, j4⟩, e5⟩⟩
  · rw [if_neg (show ¬ nI 13 = (0 : Int32) by decide), if_neg (show ¬ nI 13 = (1 : Int32) by decide), if_neg (show ¬ nI 13 = (2 : Int32) by decide), if_neg (show ¬ nI 13 = (3 : Int32) by decide), if_neg (show ¬ nI 13 = (4 : Int32) by decide), if_neg (show ¬ nI 13 = (5 : Int32) by decide), if_neg (show ¬ nI 13 = (6 : Int32) by decide), if_neg (show ¬ nI 13 = (7 : Int32) by decide), if_neg (show ¬ nI 13 = (8 : Int32) by decide), if_neg (show ¬ nI 13 = (9 : Int32) by decide), if_neg (show ¬ nI 13 = (10 : Int32) by decide), if_neg (show ¬ nI 13 = (11 : Int32) by decide), if_neg (show ¬ nI 13 = (12 : Int32) by decide), if_pos (show nI 13 = (13 : Int32) from rfl)]
    obtain ⟨r, g', e1, e2, e3, ⟨J, J', j1, j2, j3, j4⟩, e5⟩ := L_tick more hM h
    rw [e1]
    exact ⟨r, g', rfl, GI_clr e2, by omega, fun _ _ => ⟨⟨J, J', j1, by omega, j3, j4⟩, e5⟩⟩
  · rw [if_neg (show ¬ nI 14 = (0 : Int32) by decide), if_neg (show ¬ nI 14 = (1 : Int32) by decide), if_neg (show ¬ nI 14 = (2 : Int32) by decide), if_neg (show ¬ nI 14 = (3 : Int32) by decide), if_neg (show ¬ nI 14 = (4 : Int32) by decide), if_neg (show ¬ nI 14 = (5 : Int32) by decide), if_neg (show ¬ nI 14 = (6 : Int32) by decide), if_neg (show ¬ nI 14 = (7 : Int32) by decide), if_neg (show ¬ nI 14 = (8 : Int32) by decide), if_neg (show ¬ nI 14 = (9 : Int32) by decide), if_neg (show ¬ nI 14 = (10 : Int32) by decide), if_neg (show ¬ nI 14 = (11 : Int32) by decide), if_neg (show ¬ nI 14 = (12 : Int32) by decide), if_neg (show ¬ nI 14 = (13 : Int32) by decide), if_pos (show nI 14 = (14 : Int32) from rfl)]
    obtain ⟨r, g', e1, e2, e3, ⟨J, J', j1, j2, j3, j4⟩, e5⟩ := L_tick more hM h
    rw [e1]
    exact ⟨r, g', rfl, GI_clr e2, by omega, fun _ _ => ⟨⟨J, J', j1, by omega, j3, j4⟩, e5⟩⟩
  · rw [if_neg (show ¬ nI 15 = (0 : Int32) by decide), if_neg (show ¬ nI 15 = (1 : Int32) by decide), if_neg (show ¬ nI 15 = (2 : Int32) by decide), if_neg (show ¬ nI 15 = (3 : Int32) by decide), if_neg (show ¬ nI 15 = (4 : Int32) by decide), if_neg (show ¬ nI 15 = (5 : Int32) by decide), if_neg (show ¬ nI 15 = (6 : Int32) by decide), if_neg (show ¬ nI 15 = (7 : Int32) by decide), if_neg (show ¬ nI 15 = (8 : Int32) by decide), if_neg (show ¬ nI 15 = (9 : Int32) by decide), if_neg (show ¬ nI 15 = (10 : Int32) by decide), if_neg (show ¬ nI 15 = (11 : Int32) by decide), if_neg (show ¬ nI 15 = (12 : Int32) by decide), if_neg (show ¬ nI 15 = (13 : Int32) by decide), if_neg (show ¬ nI 15 = (14 : Int32) by decide)]
    by_cases d : nI (z 9) ≤ nI (z 11)
    · rw [if_pos d]
      exact L_hear 97 (by omega) hM h
    · have d2 : z 11 < z 9 := by
        rcases Nat.lt_or_ge (z 11) (z 9) with y | y
        · exact y
        · exact absurd (nI_le y (by omega)) d
      rw [if_neg d, T_w0 hI d2, Option.bind_some]
      exact L_hear _ (by omega) hM h
  · rw [if_neg (show ¬ nI 16 = (0 : Int32) by decide), if_neg (show ¬ nI 16 = (1 : Int32) by decide), if_neg (show ¬ nI 16 = (2 : Int32) by decide), if_neg (show ¬ nI 16 = (3 : Int32) by decide), if_neg (show ¬ nI 16 = (4 : Int32) by decide), if_neg (show ¬ nI 16 = (5 : Int32) by decide), if_neg (show ¬ nI 16 = (6 : Int32) by decide), if_neg (show ¬ nI 16 = (7 : Int32) by decide), if_neg (show ¬ nI 16 = (8 : Int32) by decide), if_neg (show ¬ nI 16 = (9 : Int32) by decide), if_neg (show ¬ nI 16 = (10 : Int32) by decide), if_neg (show ¬ nI 16 = (11 : Int32) by decide), if_neg (show ¬ nI 16 = (12 : Int32) by decide), if_neg (show ¬ nI 16 = (13 : Int32) by decide), if_neg (show ¬ nI 16 = (14 : Int32) by decide)]
    by_cases d : nI (z 9) ≤ nI (z 11)
    · rw [if_pos d]
      exact L_hear 97 (by omega) hM h
    · have d2 : z 11 < z 9 := by
        rcases Nat.lt_or_ge (z 11) (z 9) with y | y
        · exact y
        · exact absurd (nI_le y (by omega)) d
      rw [if_neg d, T_w0 hI d2, Option.bind_some]
      exact L_hear _ (by omega) hM h
  · rw [if_neg (show ¬ nI 17 = (0 : Int32) by decide), if_neg (show ¬ nI 17 = (1 : Int32) by decide), if_neg (show ¬ nI 17 = (2 : Int32) by decide), if_neg (show ¬ nI 17 = (3 : Int32) by decide), if_neg (show ¬ nI 17 = (4 : Int32) by decide), if_neg (show ¬ nI 17 = (5 : Int32) by decide), if_neg (show ¬ nI 17 = (6 : Int32) by decide), if_neg (show ¬ nI 17 = (7 : Int32) by decide), if_neg (show ¬ nI 17 = (8 : Int32) by decide), if_neg (show ¬ nI 17 = (9 : Int32) by decide), if_neg (show ¬ nI 17 = (10 : Int32) by decide), if_neg (show ¬ nI 17 = (11 : Int32) by decide), if_neg (show ¬ nI 17 = (12 : Int32) by decide), if_neg (show ¬ nI 17 = (13 : Int32) by decide), if_neg (show ¬ nI 17 = (14 : Int32) by decide)]
    by_cases d : nI (z 9) ≤ nI (z 11)
    · rw [if_pos d]
      exact L_hear 97 (by omega) hM h
    · have d2 : z 11 < z 9 := by
        rcases Nat.lt_or_ge (z 11) (z 9) with y | y
        · exact y
        · exact absurd (nI_le y (by omega)) d
      rw [if_neg d, T_w0 hI d2, Option.bind_some]
      exact L_hear _ (by omega) hM h
  · rw [if_neg (show ¬ nI 18 = (0 : Int32) by decide), if_neg (show ¬ nI 18 = (1 : Int32) by decide), if_neg (show ¬ nI 18 = (2 : Int32) by decide), if_neg (show ¬ nI 18 = (3 : Int32) by decide), if_neg (show ¬ nI 18 = (4 : Int32) by decide), if_neg (show ¬ nI 18 = (5 : Int32) by decide), if_neg (show ¬ nI 18 = (6 : Int32) by decide), if_neg (show ¬ nI 18 = (7 : Int32) by decide), if_neg (show ¬ nI 18 = (8 : Int32) by decide), if_neg (show ¬ nI 18 = (9 : Int32) by decide), if_neg (show ¬ nI 18 = (10 : Int32) by decide), if_neg (show ¬ nI 18 = (11 : Int32) by decide), if_neg (show ¬ nI 18 = (12 : Int32) by decide), if_neg (show ¬ nI 18 = (13 : Int32) by decide), if_neg (show ¬ nI 18 = (14 : Int32) by decide)]
    by_cases d : nI (z 9) ≤ nI (z 11)
    · rw [if_pos d]
      exact L_hear 97 (by omega) hM h
    · have d2 : z 11 < z 9 := by
        rcases Nat.lt_or_ge (z 11) (z 9) with y | y
        · exact y
        · exact absurd (nI_le y (by omega)) d
      rw [if_neg d, T_w0 hI d2, Option.bind_some]
      exact L_hear _ (by omega) hM h
  · rw [if_neg (show ¬ nI 19 = (0 : Int32) by decide), if_neg (show ¬ nI 19 = (1 : Int32) by decide), if_neg (show ¬ nI 19 = (2 : Int32) by decide), if_neg (show ¬ nI 19 = (3 : Int32) by decide), if_neg (show ¬ nI 19 = (4 : Int32) by decide), if_neg (show ¬ nI 19 = (5 : Int32) by decide), if_neg (show ¬ nI 19 = (6 : Int32) by decide), if_neg (show ¬ nI 19 = (7 : Int32) by decide), if_neg (show ¬ nI 19 = (8 : Int32) by decide), if_neg (show ¬ nI 19 = (9 : Int32) by decide), if_neg (show ¬ nI 19 = (10 : Int32) by decide), if_neg (show ¬ nI 19 = (11 : Int32) by decide), if_neg (show ¬ nI 19 = (12 : Int32) by decide), if_neg (show ¬ nI 19 = (13 : Int32) by decide), if_neg (show ¬ nI 19 = (14 : Int32) by decide)]
    by_cases d : nI (z 9) ≤ nI (z 11)
    · rw [if_pos d]
      exact L_hear 97 (by omega) hM h
    · have d2 : z 11 < z 9 := by
        rcases Nat.lt_or_ge (z 11) (z 9) with y | y
        · exact y
        · exact absurd (nI_le y (by omega)) d
      rw [if_neg d, T_w0 hI d2, Option.bind_some]
      exact L_hear _ (by omega) hM h
  · rw [if_neg (show ¬ nI 20 = (0 : Int32) by decide), if_neg (show ¬ nI 20 = (1 : Int32) by decide), if_neg (show ¬ nI 20 = (2 : Int32) by decide), if_neg (show ¬ nI 20 = (3 : Int32) by decide), if_neg (show ¬ nI 20 = (4 : Int32) by decide), if_neg (show ¬ nI 20 = (5 : Int32) by decide), if_neg (show ¬ nI 20 = (6 : Int32) by decide), if_neg (show ¬ nI 20 = (7 : Int32) by decide), if_neg (show ¬ nI 20 = (8 : Int32) by decide), if_neg (show ¬ nI 20 = (9 : Int32) by decide), if_neg (show ¬ nI 20 = (10 : Int32) by decide), if_neg (show ¬ nI 20 = (11 : Int32) by decide), if_neg (show ¬ nI 20 = (12 : Int32) by decide), if_neg (show ¬ nI 20 = (13 : Int32) by decide), if_neg (show ¬ nI 20 = (14 : Int32) by decide)]
    by_cases d : nI (z 9) ≤ nI (z 11)
    · rw [if_pos d]
      exact L_hear 97 (by omega) hM h
    · have d2 : z 11 < z 9 := by
        rcases Nat.lt_or_ge (z 11) (z 9) with y | y
        · exact y
        · exact absurd (nI_le y (by omega)) d
      rw [if_neg d, T_w0 hI d2, Option.bind_some]
      exact L_hear _ (by omega) hM h
  · rw [if_neg (show ¬ nI 21 = (0 : Int32) by decide), if_neg (show ¬ nI 21 = (1 : Int32) by decide), if_neg (show ¬ nI 21 = (2 : Int32) by decide), if_neg (show ¬ nI 21 = (3 : Int32) by decide), if_neg (show ¬ nI 21 = (4 : Int32) by decide), if_neg (show ¬ nI 21 = (5 : Int32) by decide), if_neg (show ¬ nI 21 = (6 : Int32) by decide), if_neg (show ¬ nI 21 = (7 : Int32) by decide), if_neg (show ¬ nI 21 = (8 : Int32) by decide), if_neg (show ¬ nI 21 = (9 : Int32) by decide), if_neg (show ¬ nI 21 = (10 : Int32) by decide), if_neg (show ¬ nI 21 = (11 : Int32) by decide), if_neg (show ¬ nI 21 = (12 : Int32) by decide), if_neg (show ¬ nI 21 = (13 : Int32) by decide), if_neg (show ¬ nI 21 = (14 : Int32) by decide)]
    by_cases d : nI (z 9) ≤ nI (z 11)
    · rw [if_pos d]
      exact L_hear 97 (by omega) hM h
    · have d2 : z 11 < z 9 := by
        rcases Nat.lt_or_ge (z 11) (z 9) with y | y
        · exact y
        · exact absurd (nI_le y (by omega)) d
      rw [if_neg d, T_w0 hI d2, Option.bind_some]
      exact L_hear _ (by omega) hM h
  · rw [if_neg (show ¬ nI 22 = (0 : Int32) by decide), if_neg (show ¬ nI 22 = (1 : Int32) by decide), if_neg (show ¬ nI 22 = (2 : Int32) by decide), if_neg (show ¬ nI 22 = (3 : Int32) by decide), if_neg (show ¬ nI 22 = (4 : Int32) by decide), if_neg (show ¬ nI 22 = (5 : Int32) by decide), if_neg (show ¬ nI 22 = (6 : Int32) by decide), if_neg (show ¬ nI 22 = (7 : Int32) by decide), if_neg (show ¬ nI 22 = (8 : Int32) by decide), if_neg (show ¬ nI 22 = (9 : Int32) by decide), if_neg (show ¬ nI 22 = (10 : Int32) by decide), if_neg (show ¬ nI 22 = (11 : Int32) by decide), if_neg (show ¬ nI 22 = (12 : Int32) by decide), if_neg (show ¬ nI 22 = (13 : Int32) by decide), if_neg (show ¬ nI 22 = (14 : Int32) by decide)]
    by_cases d : nI (z 9) ≤ nI (z 11)
    · rw [if_pos d]
      exact L_hear 97 (by omega) hM h
    · have d2 : z 11 < z 9 := by
        rcases Nat.lt_or_ge (z 11) (z 9) with y | y
        · exact y
        · exact absurd (nI_le y (by omega)) d
      rw [if_neg d, T_w0 hI d2, Option.bind_some]
      exact L_hear _ (by omega) hM h
  · rw [if_neg (show ¬ nI 23 = (0 : Int32) by decide), if_neg (show ¬ nI 23 = (1 : Int32) by decide), if_neg (show ¬ nI 23 = (2 : Int32) by decide), if_neg (show ¬ nI 23 = (3 : Int32) by decide), if_neg (show ¬ nI 23 = (4 : Int32) by decide), if_neg (show ¬ nI 23 = (5 : Int32) by decide), if_neg (show ¬ nI 23 = (6 : Int32) by decide), if_neg (show ¬ nI 23 = (7 : Int32) by decide), if_neg (show ¬ nI 23 = (8 : Int32) by decide), if_neg (show ¬ nI 23 = (9 : Int32) by decide), if_neg (show ¬ nI 23 = (10 : Int32) by decide), if_neg (show ¬ nI 23 = (11 : Int32) by decide), if_neg (show ¬ nI 23 = (12 : Int32) by decide), if_neg (show ¬ nI 23 = (13 : Int32) by decide), if_neg (show ¬ nI 23 = (14 : Int32) by decide)]
    by_cases d : nI (z 9) ≤ nI (z 11)
    · rw [if_pos d]
      exact L_hear 97 (by omega) hM h
    · have d2 : z 11 < z 9 := by
        rcases Nat.lt_or_ge (z 11) (z 9) with y | y
        · exact y
        · exact absurd (nI_le y (by omega)) d
      rw [if_neg d, T_w0 hI d2, Option.bind_some]
      exact L_hear _ (by omega) hM h
