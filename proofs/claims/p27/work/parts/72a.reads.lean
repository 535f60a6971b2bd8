/-! what a ghost tells -/
theorem lay_eq {M : Nat} {w : Nat → Int32} {z : Nat → Nat} (hI : MI M w z) : ∃ ro fi, lay0 w = some (ro, nI (stR (pasW w) (z 0) (z 9)).2) ∧ laidR (pasW w) (z 0) (z 9) ro fi := by
  obtain ⟨hS, hN, hw, h20, h25, T, P, hT, hTP, hX⟩ := hI
  obtain ⟨ro', fi', m1, m2⟩ := P_layM (n := z 9) (wd := z 0) hN.1.2 hS.1 w (hw 9 (by omega)) (hw 0 (by omega)) O0 O0 0
  exact ⟨ro', fi', m1, m2⟩
theorem T_t0 {g : GS} {M : Nat} {z : Nat → Nat} (hM : M ≤ 90000) (hI : MI M g.1 z) : g_told 0 g = some (nI (z 9)) := by
  obtain ⟨ro, fi, l1, l2⟩ := lay_eq hI
  obtain ⟨hS, hN, hw, h20, h25, T, P, hT, hTP, hX⟩ := id hI
  obtain ⟨n9, n10, n11, n12, n13, n14, n20⟩ := id hN
  obtain ⟨s0, s1, s2, s3, s4, s5, s6, s7, s8⟩ := id hS
  unfold g_told
  rw [if_neg (show ¬ (0 : Int32) = 18 by decide), l1, Option.bind_some]
  unfold f_X4_told
  rw [if_pos (show (0 : Int32) = 0 from rfl)]
  rw [hw 9 (by omega)]
theorem T_t1 {g : GS} {M : Nat} {z : Nat → Nat} (hM : M ≤ 90000) (hI : MI M g.1 z) : g_told 1 g = some (nI (stR (pasW g.1) (z 0) (z 9)).2) := by
  obtain ⟨ro, fi, l1, l2⟩ := lay_eq hI
  obtain ⟨hS, hN, hw, h20, h25, T, P, hT, hTP, hX⟩ := id hI
  obtain ⟨n9, n10, n11, n12, n13, n14, n20⟩ := id hN
  obtain ⟨s0, s1, s2, s3, s4, s5, s6, s7, s8⟩ := id hS
  unfold g_told
  rw [if_neg (show ¬ (1 : Int32) = 18 by decide), l1, Option.bind_some]
  unfold f_X4_told
  rw [if_neg (show ¬ (1 : Int32) = 0 by decide), if_pos (show (1 : Int32) = 1 from rfl)]
theorem T_t2 {g : GS} {M : Nat} {z : Nat → Nat} (hM : M ≤ 90000) (hI : MI M g.1 z) : g_told 2 g = some (g.1 (390 + (z 9 - 1)) + 1) := by
  obtain ⟨ro, fi, l1, l2⟩ := lay_eq hI
  obtain ⟨hS, hN, hw, h20, h25, T, P, hT, hTP, hX⟩ := id hI
  obtain ⟨n9, n10, n11, n12, n13, n14, n20⟩ := id hN
  obtain ⟨s0, s1, s2, s3, s4, s5, s6, s7, s8⟩ := id hS
  unfold g_told
  rw [if_neg (show ¬ (2 : Int32) = 18 by decide), l1, Option.bind_some]
  unfold f_X4_told
  rw [if_neg (show ¬ (2 : Int32) = 0 by decide), if_neg (show ¬ (2 : Int32) = 1 by decide), if_pos (show (2 : Int32) = 2 from rfl)]
  rw [hw 9 (by omega), show (390 : Int32) = nI 390 from rfl, show (1 : Int32) = nI 1 from rfl, nI_add, pk_sub (by omega), if_neg (ixN (by omega) (by omega)), nI_clamp (by omega), show 390 + z 9 - 1 = 390 + (z 9 - 1) by omega]
theorem T_t3 {g : GS} {M : Nat} {z : Nat → Nat} (hM : M ≤ 90000) (hI : MI M g.1 z) : g_told 3 g = some (nI (cuN (cueW g.1) (z 9) 0)) := by
  obtain ⟨ro, fi, l1, l2⟩ := lay_eq hI
  obtain ⟨hS, hN, hw, h20, h25, T, P, hT, hTP, hX⟩ := id hI
  obtain ⟨n9, n10, n11, n12, n13, n14, n20⟩ := id hN
  obtain ⟨s0, s1, s2, s3, s4, s5, s6, s7, s8⟩ := id hS
  unfold g_told
  rw [if_neg (show ¬ (3 : Int32) = 18 by decide), l1, Option.bind_some]
  unfold f_X4_told
  rw [if_neg (show ¬ (3 : Int32) = 0 by decide), if_neg (show ¬ (3 : Int32) = 1 by decide), if_neg (show ¬ (3 : Int32) = 2 by decide), if_pos (show (3 : Int32) = 3 from rfl)]
  rw [P_cuesM n9.2 g.1 (hw 9 (by omega)), Option.bind_some]
  rfl
theorem T_t4 {g : GS} {M : Nat} {z : Nat → Nat} (hM : M ≤ 90000) (hI : MI M g.1 z) : g_told 4 g = some (nI (z 10)) := by
  obtain ⟨ro, fi, l1, l2⟩ := lay_eq hI
  obtain ⟨hS, hN, hw, h20, h25, T, P, hT, hTP, hX⟩ := id hI
  obtain ⟨n9, n10, n11, n12, n13, n14, n20⟩ := id hN
  obtain ⟨s0, s1, s2, s3, s4, s5, s6, s7, s8⟩ := id hS
  unfold g_told
  rw [if_neg (show ¬ (4 : Int32) = 18 by decide), l1, Option.bind_some]
  unfold f_X4_told
  rw [if_neg (show ¬ (4 : Int32) = 0 by decide), if_neg (show ¬ (4 : Int32) = 1 by decide), if_neg (show ¬ (4 : Int32) = 2 by decide), if_neg (show ¬ (4 : Int32) = 3 by decide), if_pos (show (4 : Int32) = 4 from rfl)]
  rw [hw 10 (by omega)]
theorem T_t5 {g : GS} {M : Nat} {z : Nat → Nat} (hM : M ≤ 90000) (hI : MI M g.1 z) : g_told 5 g = some (nI (z 11)) := by
  obtain ⟨ro, fi, l1, l2⟩ := lay_eq hI
  obtain ⟨hS, hN, hw, h20, h25, T, P, hT, hTP, hX⟩ := id hI
  obtain ⟨n9, n10, n11, n12, n13, n14, n20⟩ := id hN
  obtain ⟨s0, s1, s2, s3, s4, s5, s6, s7, s8⟩ := id hS
  unfold g_told
  rw [if_neg (show ¬ (5 : Int32) = 18 by decide), l1, Option.bind_some]
  unfold f_X4_told
  rw [if_neg (show ¬ (5 : Int32) = 0 by decide), if_neg (show ¬ (5 : Int32) = 1 by decide), if_neg (show ¬ (5 : Int32) = 2 by decide), if_neg (show ¬ (5 : Int32) = 3 by decide), if_neg (show ¬ (5 : Int32) = 4 by decide), if_pos (show (5 : Int32) = 5 from rfl)]
  rw [hw 11 (by omega)]
theorem T_t6 {g : GS} {M : Nat} {z : Nat → Nat} (hM : M ≤ 90000) (hI : MI M g.1 z) : g_told 6 g = some (nI (z 12)) := by
  obtain ⟨ro, fi, l1, l2⟩ := lay_eq hI
  obtain ⟨hS, hN, hw, h20, h25, T, P, hT, hTP, hX⟩ := id hI
  obtain ⟨n9, n10, n11, n12, n13, n14, n20⟩ := id hN
  obtain ⟨s0, s1, s2, s3, s4, s5, s6, s7, s8⟩ := id hS
  unfold g_told
  rw [if_neg (show ¬ (6 : Int32) = 18 by decide), l1, Option.bind_some]
  unfold f_X4_told
  rw [if_neg (show ¬ (6 : Int32) = 0 by decide), if_neg (show ¬ (6 : Int32) = 1 by decide), if_neg (show ¬ (6 : Int32) = 2 by decide), if_neg (show ¬ (6 : Int32) = 3 by decide), if_neg (show ¬ (6 : Int32) = 4 by decide), if_neg (show ¬ (6 : Int32) = 5 by decide), if_pos (show (6 : Int32) = 6 from rfl)]
  rw [hw 12 (by omega)]
theorem T_t7 {g : GS} {M : Nat} {z : Nat → Nat} (hM : M ≤ 90000) (hI : MI M g.1 z) : g_told 7 g = some (nI (esW g.1 z)) := by
  obtain ⟨ro, fi, l1, l2⟩ := lay_eq hI
  obtain ⟨hS, hN, hw, h20, h25, T, P, hT, hTP, hX⟩ := id hI
  obtain ⟨n9, n10, n11, n12, n13, n14, n20⟩ := id hN
  obtain ⟨s0, s1, s2, s3, s4, s5, s6, s7, s8⟩ := id hS
  unfold g_told
  rw [if_neg (show ¬ (7 : Int32) = 18 by decide), l1, Option.bind_some]
  unfold f_X4_told
  rw [if_neg (show ¬ (7 : Int32) = 0 by decide), if_neg (show ¬ (7 : Int32) = 1 by decide), if_neg (show ¬ (7 : Int32) = 2 by decide), if_neg (show ¬ (7 : Int32) = 3 by decide), if_neg (show ¬ (7 : Int32) = 4 by decide), if_neg (show ¬ (7 : Int32) = 5 by decide), if_neg (show ¬ (7 : Int32) = 6 by decide), if_pos (show (7 : Int32) = 7 from rfl)]
  rw [P_estM (n := z 9) (p := z 11) (sp := z 12) (t := z 10) (h := z 13) (lg := z 8) n9 (by omega) n12 (by omega) n13 s8 g.1 (hw 9 (by omega)) (hw 10 (by omega)) (hw 11 (by omega)) (hw 12 (by omega)) (hw 13 (by omega)) (hw 8 (by omega)), Option.bind_some]
  rfl
theorem T_t8 {g : GS} {M : Nat} {z : Nat → Nat} (hM : M ≤ 90000) (hI : MI M g.1 z) : g_told 8 g = some (nI (z 14)) := by
  obtain ⟨ro, fi, l1, l2⟩ := lay_eq hI
  obtain ⟨hS, hN, hw, h20, h25, T, P, hT, hTP, hX⟩ := id hI
  obtain ⟨n9, n10, n11, n12, n13, n14, n20⟩ := id hN
  obtain ⟨s0, s1, s2, s3, s4, s5, s6, s7, s8⟩ := id hS
  unfold g_told
  rw [if_neg (show ¬ (8 : Int32) = 18 by decide), l1, Option.bind_some]
  unfold f_X4_told
  rw [if_neg (show ¬ (8 : Int32) = 0 by decide), if_neg (show ¬ (8 : Int32) = 1 by decide), if_neg (show ¬ (8 : Int32) = 2 by decide), if_neg (show ¬ (8 : Int32) = 3 by decide), if_neg (show ¬ (8 : Int32) = 4 by decide), if_neg (show ¬ (8 : Int32) = 5 by decide), if_neg (show ¬ (8 : Int32) = 6 by decide), if_neg (show ¬ (8 : Int32) = 7 by decide), if_pos (show (8 : Int32) = 8 from rfl)]
  rw [hw 14 (by omega)]
theorem T_t9 {g : GS} {M : Nat} {z : Nat → Nat} (hM : M ≤ 90000) (hI : MI M g.1 z) : g_told 9 g = some (iI (desI (rwR (pasW g.1) (z 0) (esW g.1 z)) (z 1) (z 2) (stR (pasW g.1) (z 0) (z 9)).2)) := by
  obtain ⟨ro, fi, l1, l2⟩ := lay_eq hI
  obtain ⟨hS, hN, hw, h20, h25, T, P, hT, hTP, hX⟩ := id hI
  obtain ⟨n9, n10, n11, n12, n13, n14, n20⟩ := id hN
  obtain ⟨s0, s1, s2, s3, s4, s5, s6, s7, s8⟩ := id hS
  unfold g_told
  rw [if_neg (show ¬ (9 : Int32) = 18 by decide), l1, Option.bind_some]
  unfold f_X4_told
  rw [if_neg (show ¬ (9 : Int32) = 0 by decide), if_neg (show ¬ (9 : Int32) = 1 by decide), if_neg (show ¬ (9 : Int32) = 2 by decide), if_neg (show ¬ (9 : Int32) = 3 by decide), if_neg (show ¬ (9 : Int32) = 4 by decide), if_neg (show ¬ (9 : Int32) = 5 by decide), if_neg (show ¬ (9 : Int32) = 6 by decide), if_neg (show ¬ (9 : Int32) = 7 by decide), if_neg (show ¬ (9 : Int32) = 8 by decide), if_pos (show (9 : Int32) = 9 from rfl)]
  have hE := estN_le (z 11) (z 12) (z 10) (z 13) 0 (z 8) (holdN (nxO (cueW g.1) (z 9) 0) (z 9))
  have hL := holdN_lt (c := cueW g.1) n9.1
  have hle := (stR_fact (pasW g.1) s0.1 (z 9)).2.1
  rw [P_desM (n := z 9) (p := z 11) (sp := z 12) (t := z 10) (h := z 13) (lg := z 8) (H := z 1) (lead := z 2) (rows := (stR (pasW g.1) (z 0) (z 9)).2) (r := rwR (pasW g.1) (z 0) (esW g.1 z)) n9 (by omega) n12 (by omega) n13 s8 s1 s2 (by omega) (rwR_le s0.1 (by unfold esW; omega)) g.1 ro (hw 9 (by omega)) (hw 10 (by omega)) (hw 11 (by omega)) (hw 12 (by omega)) (hw 13 (by omega)) (hw 8 (by omega)) (hw 1 (by omega)) (hw 2 (by omega)) (l2.1 _ (by show estN (z 11) (z 12) (z 10) (z 13) 0 (z 8) (holdN (nxO (cueW g.1) (z 9) 0) (z 9)) < z 9; omega)), Option.bind_some]
theorem T_t10 {g : GS} {M : Nat} {z : Nat → Nat} (hM : M ≤ 90000) (hI : MI M g.1 z) : g_told 10 g = some (g.1 15) := by
  obtain ⟨ro, fi, l1, l2⟩ := lay_eq hI
  obtain ⟨hS, hN, hw, h20, h25, T, P, hT, hTP, hX⟩ := id hI
  obtain ⟨n9, n10, n11, n12, n13, n14, n20⟩ := id hN
  obtain ⟨s0, s1, s2, s3, s4, s5, s6, s7, s8⟩ := id hS
  unfold g_told
  rw [if_neg (show ¬ (10 : Int32) = 18 by decide), l1, Option.bind_some]
  unfold f_X4_told
  rw [if_neg (show ¬ (10 : Int32) = 0 by decide), if_neg (show ¬ (10 : Int32) = 1 by decide), if_neg (show ¬ (10 : Int32) = 2 by decide), if_neg (show ¬ (10 : Int32) = 3 by decide), if_neg (show ¬ (10 : Int32) = 4 by decide), if_neg (show ¬ (10 : Int32) = 5 by decide), if_neg (show ¬ (10 : Int32) = 6 by decide), if_neg (show ¬ (10 : Int32) = 7 by decide), if_neg (show ¬ (10 : Int32) = 8 by decide), if_neg (show ¬ (10 : Int32) = 9 by decide), if_pos (show (10 : Int32) = 10 from rfl)]
  rw [if_neg (show ¬ ((((15 : Int32) + 10) - 10) < 0 ∨ 510 ≤ (((15 : Int32) + 10) - 10).toNatClampNeg) by decide)]
  rfl
theorem T_t11 {g : GS} {M : Nat} {z : Nat → Nat} (hM : M ≤ 90000) (hI : MI M g.1 z) : g_told 11 g = some (g.1 16) := by
  obtain ⟨ro, fi, l1, l2⟩ := lay_eq hI
  obtain ⟨hS, hN, hw, h20, h25, T, P, hT, hTP, hX⟩ := id hI
  obtain ⟨n9, n10, n11, n12, n13, n14, n20⟩ := id hN
  obtain ⟨s0, s1, s2, s3, s4, s5, s6, s7, s8⟩ := id hS
  unfold g_told
  rw [if_neg (show ¬ (11 : Int32) = 18 by decide), l1, Option.bind_some]
  unfold f_X4_told
  rw [if_neg (show ¬ (11 : Int32) = 0 by decide), if_neg (show ¬ (11 : Int32) = 1 by decide), if_neg (show ¬ (11 : Int32) = 2 by decide), if_neg (show ¬ (11 : Int32) = 3 by decide), if_neg (show ¬ (11 : Int32) = 4 by decide), if_neg (show ¬ (11 : Int32) = 5 by decide), if_neg (show ¬ (11 : Int32) = 6 by decide), if_neg (show ¬ (11 : Int32) = 7 by decide), if_neg (show ¬ (11 : Int32) = 8 by decide), if_neg (show ¬ (11 : Int32) = 9 by decide), if_neg (show ¬ (11 : Int32) = 10 by decide), if_pos (show (11 : Int32) = 11 from rfl)]
  rw [if_neg (show ¬ ((((15 : Int32) + 11) - 10) < 0 ∨ 510 ≤ (((15 : Int32) + 11) - 10).toNatClampNeg) by decide)]
  rfl
theorem T_t12 {g : GS} {M : Nat} {z : Nat → Nat} (hM : M ≤ 90000) (hI : MI M g.1 z) : g_told 12 g = some (g.1 17) := by
  obtain ⟨ro, fi, l1, l2⟩ := lay_eq hI
  obtain ⟨hS, hN, hw, h20, h25, T, P, hT, hTP, hX⟩ := id hI
  obtain ⟨n9, n10, n11, n12, n13, n14, n20⟩ := id hN
  obtain ⟨s0, s1, s2, s3, s4, s5, s6, s7, s8⟩ := id hS
  unfold g_told
  rw [if_neg (show ¬ (12 : Int32) = 18 by decide), l1, Option.bind_some]
  unfold f_X4_told
  rw [if_neg (show ¬ (12 : Int32) = 0 by decide), if_neg (show ¬ (12 : Int32) = 1 by decide), if_neg (show ¬ (12 : Int32) = 2 by decide), if_neg (show ¬ (12 : Int32) = 3 by decide), if_neg (show ¬ (12 : Int32) = 4 by decide), if_neg (show ¬ (12 : Int32) = 5 by decide), if_neg (show ¬ (12 : Int32) = 6 by decide), if_neg (show ¬ (12 : Int32) = 7 by decide), if_neg (show ¬ (12 : Int32) = 8 by decide), if_neg (show ¬ (12 : Int32) = 9 by decide), if_neg (show ¬ (12 : Int32) = 10 by decide), if_neg (show ¬ (12 : Int32) = 11 by decide), if_pos (show (12 : Int32) = 12 from rfl)]
  rw [if_neg (show ¬ ((((15 : Int32) + 12) - 10) < 0 ∨ 510 ≤ (((15 : Int32) + 12) - 10).toNatClampNeg) by decide)]
  rfl
theorem T_t13 {g : GS} {M : Nat} {z : Nat → Nat} (hM : M ≤ 90000) (hI : MI M g.1 z) : g_told 13 g = some (g.1 18) := by
  obtain ⟨ro, fi, l1, l2⟩ := lay_eq hI
  obtain ⟨hS, hN, hw, h20, h25, T, P, hT, hTP, hX⟩ := id hI
  obtain ⟨n9, n10, n11, n12, n13, n14, n20⟩ := id hN
  obtain ⟨s0, s1, s2, s3, s4, s5, s6, s7, s8⟩ := id hS
  unfold g_told
  rw [if_neg (show ¬ (13 : Int32) = 18 by decide), l1, Option.bind_some]
  unfold f_X4_told
  rw [if_neg (show ¬ (13 : Int32) = 0 by decide), if_neg (show ¬ (13 : Int32) = 1 by decide), if_neg (show ¬ (13 : Int32) = 2 by decide), if_neg (show ¬ (13 : Int32) = 3 by decide), if_neg (show ¬ (13 : Int32) = 4 by decide), if_neg (show ¬ (13 : Int32) = 5 by decide), if_neg (show ¬ (13 : Int32) = 6 by decide), if_neg (show ¬ (13 : Int32) = 7 by decide), if_neg (show ¬ (13 : Int32) = 8 by decide), if_neg (show ¬ (13 : Int32) = 9 by decide), if_neg (show ¬ (13 : Int32) = 10 by decide), if_neg (show ¬ (13 : Int32) = 11 by decide), if_neg (show ¬ (13 : Int32) = 12 by decide), if_pos (show (13 : Int32) = 13 from rfl)]
  rw [if_neg (show ¬ ((((15 : Int32) + 13) - 10) < 0 ∨ 510 ≤ (((15 : Int32) + 13) - 10).toNatClampNeg) by decide)]
  rfl
theorem T_t15 {g : GS} {M : Nat} {z : Nat → Nat} (hM : M ≤ 90000) (hI : MI M g.1 z) : g_told 15 g = some (nI (z 25)) := by
  obtain ⟨ro, fi, l1, l2⟩ := lay_eq hI
  obtain ⟨hS, hN, hw, h20, h25, T, P, hT, hTP, hX⟩ := id hI
  obtain ⟨n9, n10, n11, n12, n13, n14, n20⟩ := id hN
  obtain ⟨s0, s1, s2, s3, s4, s5, s6, s7, s8⟩ := id hS
  unfold g_told
  rw [if_neg (show ¬ (15 : Int32) = 18 by decide), l1, Option.bind_some]
  unfold f_X4_told
  rw [if_neg (show ¬ (15 : Int32) = 0 by decide), if_neg (show ¬ (15 : Int32) = 1 by decide), if_neg (show ¬ (15 : Int32) = 2 by decide), if_neg (show ¬ (15 : Int32) = 3 by decide), if_neg (show ¬ (15 : Int32) = 4 by decide), if_neg (show ¬ (15 : Int32) = 5 by decide), if_neg (show ¬ (15 : Int32) = 6 by decide), if_neg (show ¬ (15 : Int32) = 7 by decide), if_neg (show ¬ (15 : Int32) = 8 by decide), if_neg (show ¬ (15 : Int32) = 9 by decide), if_neg (show ¬ (15 : Int32) = 10 by decide), if_neg (show ¬ (15 : Int32) = 11 by decide), if_neg (show ¬ (15 : Int32) = 12 by decide), if_neg (show ¬ (15 : Int32) = 13 by decide), if_neg (show ¬ (15 : Int32) = 14 by decide), if_pos (show (15 : Int32) = 15 from rfl)]
  rw [h25]
theorem T_t16 {g : GS} {M : Nat} {z : Nat → Nat} (hM : M ≤ 90000) (hI : MI M g.1 z) : g_told 16 g = some (oI (nxO (cueW g.1) (z 9) 0)) := by
  obtain ⟨ro, fi, l1, l2⟩ := lay_eq hI
  obtain ⟨hS, hN, hw, h20, h25, T, P, hT, hTP, hX⟩ := id hI
  obtain ⟨n9, n10, n11, n12, n13, n14, n20⟩ := id hN
  obtain ⟨s0, s1, s2, s3, s4, s5, s6, s7, s8⟩ := id hS
  unfold g_told
  rw [if_neg (show ¬ (16 : Int32) = 18 by decide), l1, Option.bind_some]
  unfold f_X4_told
  rw [if_neg (show ¬ (16 : Int32) = 0 by decide), if_neg (show ¬ (16 : Int32) = 1 by decide), if_neg (show ¬ (16 : Int32) = 2 by decide), if_neg (show ¬ (16 : Int32) = 3 by decide), if_neg (show ¬ (16 : Int32) = 4 by decide), if_neg (show ¬ (16 : Int32) = 5 by decide), if_neg (show ¬ (16 : Int32) = 6 by decide), if_neg (show ¬ (16 : Int32) = 7 by decide), if_neg (show ¬ (16 : Int32) = 8 by decide), if_neg (show ¬ (16 : Int32) = 9 by decide), if_neg (show ¬ (16 : Int32) = 10 by decide), if_neg (show ¬ (16 : Int32) = 11 by decide), if_neg (show ¬ (16 : Int32) = 12 by decide), if_neg (show ¬ (16 : Int32) = 13 by decide), if_neg (show ¬ (16 : Int32) = 14 by decide), if_neg (show ¬ (16 : Int32) = 15 by decide), if_pos (show (16 : Int32) = 16 from rfl)]
  rw [P_nextCueM n9.2 g.1 (hw 9 (by omega)), Option.bind_some, nxt_oI]
  rfl
theorem T_t17 {g : GS} {M : Nat} {z : Nat → Nat} (hM : M ≤ 90000) (hI : MI M g.1 z) : g_told 17 g = some (nI (z 20)) := by
  obtain ⟨ro, fi, l1, l2⟩ := lay_eq hI
  obtain ⟨hS, hN, hw, h20, h25, T, P, hT, hTP, hX⟩ := id hI
  obtain ⟨n9, n10, n11, n12, n13, n14, n20⟩ := id hN
  obtain ⟨s0, s1, s2, s3, s4, s5, s6, s7, s8⟩ := id hS
  unfold g_told
  rw [if_neg (show ¬ (17 : Int32) = 18 by decide), l1, Option.bind_some]
  unfold f_X4_told
  rw [if_neg (show ¬ (17 : Int32) = 0 by decide), if_neg (show ¬ (17 : Int32) = 1 by decide), if_neg (show ¬ (17 : Int32) = 2 by decide), if_neg (show ¬ (17 : Int32) = 3 by decide), if_neg (show ¬ (17 : Int32) = 4 by decide), if_neg (show ¬ (17 : Int32) = 5 by decide), if_neg (show ¬ (17 : Int32) = 6 by decide), if_neg (show ¬ (17 : Int32) = 7 by decide), if_neg (show ¬ (17 : Int32) = 8 by decide), if_neg (show ¬ (17 : Int32) = 9 by decide), if_neg (show ¬ (17 : Int32) = 10 by decide), if_neg (show ¬ (17 : Int32) = 11 by decide), if_neg (show ¬ (17 : Int32) = 12 by decide), if_neg (show ¬ (17 : Int32) = 13 by decide), if_neg (show ¬ (17 : Int32) = 14 by decide), if_neg (show ¬ (17 : Int32) = 15 by decide), if_neg (show ¬ (17 : Int32) = 16 by decide), if_pos (show (17 : Int32) = 17 from rfl)]
  rw [h20]
theorem T_isW {g : GS} {M : Nat} {z : Nat → Nat} (hI : MI M g.1 z) {k : Nat} (hk : k < z 9) : f_X4_isWord (nI k) g.1 = some 1 := by
  obtain ⟨hS, hN, hw, h20, h25, T, P, hT, hTP, hX⟩ := id hI
  obtain ⟨n9, n10, n11, n12, n13, n14, n20⟩ := id hN
  obtain ⟨s0, s1, s2, s3, s4, s5, s6, s7, s8⟩ := id hS
  unfold f_X4_isWord
  rw [P_isIn, P_bool, hw 9 (by omega), show (1 : Int32) = nI 1 from rfl, pk_sub n9.1, if_pos ⟨nI_pos' (by omega), nI_le (by omega) (by omega)⟩]
theorem T_w0 {g : GS} {M : Nat} {z : Nat → Nat} (hI : MI M g.1 z) {k : Nat} (hk : k < z 9) : g_word (nI k) 0 g = some (g.1 (150 + k)) := by
  obtain ⟨ro, fi, l1, l2⟩ := lay_eq hI
  obtain ⟨hS, hN, hw, h20, h25, T, P, hT, hTP, hX⟩ := id hI
  obtain ⟨n9, n10, n11, n12, n13, n14, n20⟩ := id hN
  obtain ⟨s0, s1, s2, s3, s4, s5, s6, s7, s8⟩ := id hS
  unfold g_word
  rw [l1, Option.bind_some]
  unfold f_X4_word
  rw [T_isW hI hk, Option.bind_some, if_neg (show ¬ (1 : Int32) = 0 by decide), if_pos (show (0 : Int32) = 0 from rfl), show (150 : Int32) = nI 150 from rfl, nI_add, if_neg (ixN (by omega) (by omega)), nI_clamp (by omega)]
theorem T_w2 {g : GS} {M : Nat} {z : Nat → Nat} (hI : MI M g.1 z) {k : Nat} (hk : k < z 9) : g_word (nI k) 2 g = some (g.1 (390 + k)) := by
  obtain ⟨ro, fi, l1, l2⟩ := lay_eq hI
  obtain ⟨hS, hN, hw, h20, h25, T, P, hT, hTP, hX⟩ := id hI
  obtain ⟨n9, n10, n11, n12, n13, n14, n20⟩ := id hN
  obtain ⟨s0, s1, s2, s3, s4, s5, s6, s7, s8⟩ := id hS
  unfold g_word
  rw [l1, Option.bind_some]
  unfold f_X4_word
  rw [T_isW hI hk, Option.bind_some, if_neg (show ¬ (1 : Int32) = 0 by decide), if_neg (show ¬ (2 : Int32) = 0 by decide), if_neg (show ¬ (2 : Int32) = 1 by decide), if_pos (show (2 : Int32) = 2 from rfl), show (390 : Int32) = nI 390 from rfl, nI_add, if_neg (ixN (by omega) (by omega)), nI_clamp (by omega)]
theorem T_w3 {g : GS} {M : Nat} {z : Nat → Nat} (hI : MI M g.1 z) {k : Nat} (hk : k < z 9) : g_word (nI k) 3 g = some (g.1 (270 + k)) := by
  obtain ⟨ro, fi, l1, l2⟩ := lay_eq hI
  obtain ⟨hS, hN, hw, h20, h25, T, P, hT, hTP, hX⟩ := id hI
  obtain ⟨n9, n10, n11, n12, n13, n14, n20⟩ := id hN
  obtain ⟨s0, s1, s2, s3, s4, s5, s6, s7, s8⟩ := id hS
  unfold g_word
  rw [l1, Option.bind_some]
  unfold f_X4_word
  rw [T_isW hI hk, Option.bind_some, if_neg (show ¬ (1 : Int32) = 0 by decide), if_neg (show ¬ (3 : Int32) = 0 by decide), if_neg (show ¬ (3 : Int32) = 1 by decide), if_neg (show ¬ (3 : Int32) = 2 by decide), if_pos (show (3 : Int32) = 3 from rfl), show (270 : Int32) = nI 270 from rfl, nI_add, if_neg (ixN (by omega) (by omega)), nI_clamp (by omega)]
theorem T_w1 {g : GS} {M : Nat} {z : Nat → Nat} (hI : MI M g.1 z) {k : Nat} (hk : k < z 9) : g_word (nI k) 1 g = some (nI (rwR (pasW g.1) (z 0) k)) := by
  obtain ⟨ro, fi, l1, l2⟩ := lay_eq hI
  obtain ⟨hS, hN, hw, h20, h25, T, P, hT, hTP, hX⟩ := id hI
  obtain ⟨n9, n10, n11, n12, n13, n14, n20⟩ := id hN
  obtain ⟨s0, s1, s2, s3, s4, s5, s6, s7, s8⟩ := id hS
  unfold g_word
  rw [l1, Option.bind_some]
  unfold f_X4_word
  rw [T_isW hI hk, Option.bind_some, if_neg (show ¬ (1 : Int32) = 0 by decide), if_neg (show ¬ (1 : Int32) = 0 by decide), if_pos (show (1 : Int32) = 1 from rfl), if_neg (ixN (by omega) (by omega)), nI_clamp (by omega)]
  exact congrArg some (l2.1 k hk)
theorem T_w4 {g : GS} {M : Nat} {z : Nat → Nat} (hI : MI M g.1 z) {k : Nat} (hk : k < z 9) : g_word (nI k) 4 g = some (if z 14 ≤ 100 * rwR (pasW g.1) (z 0) k ∧ 100 * rwR (pasW g.1) (z 0) k ≤ z 14 + 100 * (z 1 - 1) then 1 else 0) := by
  obtain ⟨ro, fi, l1, l2⟩ := lay_eq hI
  obtain ⟨hS, hN, hw, h20, h25, T, P, hT, hTP, hX⟩ := id hI
  obtain ⟨n9, n10, n11, n12, n13, n14, n20⟩ := id hN
  obtain ⟨s0, s1, s2, s3, s4, s5, s6, s7, s8⟩ := id hS
  have hr := rwR_le (pas := pasW g.1) s0.1 (show k < 120 by omega)
  have s2' := P_shownM (H := z 1) (r := rwR (pasW g.1) (z 0) k) (top := (z 14 : Int)) s1 hr (by omega) g.1 (hw 1 (by omega)) (by rw [hw 14 (by omega), nI_iI])
  unfold g_word
  rw [l1, Option.bind_some]
  unfold f_X4_word
  rw [T_isW hI hk, Option.bind_some, if_neg (show ¬ (1 : Int32) = 0 by decide), if_neg (show ¬ (4 : Int32) = 0 by decide), if_neg (show ¬ (4 : Int32) = 1 by decide), if_neg (show ¬ (4 : Int32) = 2 by decide), if_neg (show ¬ (4 : Int32) = 3 by decide), if_pos (show (4 : Int32) = 4 from rfl), if_neg (ixN (by omega) (by omega)), nI_clamp (by omega)]
  show (f_X4_isShown (ro k) g.1).bind _ = _
  rw [l2.1 k hk, s2', Option.bind_some]
  by_cases y : 100 * (rwR (pasW g.1) (z 0) k : Int) < (z 14 : Int) ∨ (z 14 : Int) + 100 * ((z 1 : Int) - 1) < 100 * (rwR (pasW g.1) (z 0) k : Int)
  · rw [if_pos y, if_pos rfl, if_neg (by omega)]
  · rw [if_neg y, if_neg (show ¬ (1 : Int32) = 0 by decide), if_pos (by omega)]
theorem T_s {g : GS} {M : Nat} {z : Nat → Nat} (hI : MI M g.1 z) {k : Nat} (hk : k < 9) : g_setting (nI k) g = some (nI (z k)) := by
  obtain ⟨hS, hN, hw, h20, h25, T, P, hT, hTP, hX⟩ := id hI
  obtain ⟨n9, n10, n11, n12, n13, n14, n20⟩ := id hN
  obtain ⟨s0, s1, s2, s3, s4, s5, s6, s7, s8⟩ := id hS
  unfold g_setting f_X4_setting
  rw [P_isIn, Option.bind_some, if_neg (by rw [if_pos ⟨nI_pos' (by omega), nI_le (b := 8) (by omega) (by omega)⟩]; decide), if_neg (ixN (by omega) (by omega)), nI_clamp (by omega), hw k (by omega)]
theorem T_h {g : GS} {M : Nat} {z : Nat → Nat} (hI : MI M g.1 z) {k : Nat} (hk : k < z 20) : g_heard (nI k) g = some (g.1 (21 + k)) := by
  obtain ⟨hS, hN, hw, h20, h25, T, P, hT, hTP, hX⟩ := id hI
  obtain ⟨n9, n10, n11, n12, n13, n14, n20⟩ := id hN
  obtain ⟨s0, s1, s2, s3, s4, s5, s6, s7, s8⟩ := id hS
  unfold g_heard f_X4_heard
  rw [if_pos (nI_pos' (by omega)), h20, if_neg (nI_ge (by omega) (by omega)), show (21 : Int32) = nI 21 from rfl, nI_add, if_neg (ixN (by omega) (by omega)), nI_clamp (by omega)]
theorem T_hN {g : GS} {M : Nat} {z : Nat → Nat} (hI : MI M g.1 z) : g_heard (nI (z 20)) g = some (-9) := by
  obtain ⟨hS, hN, hw, h20, h25, T, P, hT, hTP, hX⟩ := id hI
  obtain ⟨n9, n10, n11, n12, n13, n14, n20⟩ := id hN
  obtain ⟨s0, s1, s2, s3, s4, s5, s6, s7, s8⟩ := id hS
  unfold g_heard f_X4_heard
  rw [if_pos (nI_pos' (by omega)), h20, if_pos (nI_le (Nat.le_refl _) (by omega))]
theorem T_r0 {g : GS} {M : Nat} {z : Nat → Nat} (hI : MI M g.1 z) {k : Nat} (hk : k < z 25) : g_trail (nI k) 0 g = some (g.1 (26 + 2 * k)) := by
  obtain ⟨hS, hN, hw, h20, h25, T, P, hT, hTP, hX⟩ := id hI
  obtain ⟨n9, n10, n11, n12, n13, n14, n20⟩ := id hN
  obtain ⟨s0, s1, s2, s3, s4, s5, s6, s7, s8⟩ := id hS
  have hT1 := hT.1
  unfold g_trail f_X4_trail
  rw [P_isIn, Option.bind_some, if_neg (nI_pos (by omega)), if_neg (show ¬ (if (0 : Int32) ≤ 0 ∧ (0 : Int32) ≤ 1 then (1 : Int32) else 0) = 0 by decide), h25, if_neg (nI_ge (by omega) (by omega)), show (26 : Int32) = nI 26 from rfl, show (2 : Int32) = nI 2 from rfl, nI_mul, nI_add, show nI (26 + 2 * k) + 0 = nI (26 + 2 * k) from nI_add _ 0, if_neg (ixN (by omega) (by omega)), nI_clamp (by omega)]
theorem T_r1 {g : GS} {M : Nat} {z : Nat → Nat} (hI : MI M g.1 z) {k : Nat} (hk : k < z 25) : g_trail (nI k) 1 g = some (g.1 (27 + 2 * k)) := by
  obtain ⟨hS, hN, hw, h20, h25, T, P, hT, hTP, hX⟩ := id hI
  obtain ⟨n9, n10, n11, n12, n13, n14, n20⟩ := id hN
  obtain ⟨s0, s1, s2, s3, s4, s5, s6, s7, s8⟩ := id hS
  have hT1 := hT.1
  unfold g_trail f_X4_trail
  rw [P_isIn, Option.bind_some, if_neg (nI_pos (by omega)), if_neg (show ¬ (if (0 : Int32) ≤ 1 ∧ (1 : Int32) ≤ 1 then (1 : Int32) else 0) = 0 by decide), h25, if_neg (nI_ge (by omega) (by omega)), show (26 : Int32) = nI 26 from rfl, show (2 : Int32) = nI 2 from rfl, nI_mul, nI_add, show nI (26 + 2 * k) + 1 = nI (26 + 2 * k + 1) from nI_1 _, if_neg (ixN (by omega) (by omega)), nI_clamp (by omega), show 26 + 2 * k + 1 = 27 + 2 * k by omega]
theorem T_rN {g : GS} {M : Nat} {z : Nat → Nat} (hI : MI M g.1 z) : g_trail (nI (z 25)) 0 g = some (-9) := by
  obtain ⟨hS, hN, hw, h20, h25, T, P, hT, hTP, hX⟩ := id hI
  obtain ⟨n9, n10, n11, n12, n13, n14, n20⟩ := id hN
  obtain ⟨s0, s1, s2, s3, s4, s5, s6, s7, s8⟩ := id hS
  have hT1 := hT.1
  unfold g_trail f_X4_trail
  rw [P_isIn, Option.bind_some, if_neg (nI_pos (by omega)), if_neg (show ¬ (if (0 : Int32) ≤ 0 ∧ (0 : Int32) ≤ 1 then (1 : Int32) else 0) = 0 by decide), h25, if_pos (nI_le (Nat.le_refl _) (by omega))]
theorem T_sc {g : GS} {M : Nat} {z : Nat → Nat} (hI : MI M g.1 z) {k : Nat} (hk : k < z 9) : g_score (nI k) g = some (nI (sc (letW g.1) (kepW g.1) (z 20) k)) := by
  obtain ⟨hS, hN, hw, h20, h25, T, P, hT, hTP, hX⟩ := id hI
  obtain ⟨n9, n10, n11, n12, n13, n14, n20⟩ := id hN
  obtain ⟨s0, s1, s2, s3, s4, s5, s6, s7, s8⟩ := id hS
  unfold g_score f_X4_score
  rw [T_isW hI hk, Option.bind_some, if_neg (show ¬ (1 : Int32) = 0 by decide), P_score n20 (by omega) g.1 h20, Option.bind_some]
  rfl
theorem T_bo {g : GS} {M : Nat} {z : Nat → Nat} (hI : MI M g.1 z) (x : Int32) : f_X4_bestOf x g.1 = some (oI (bW g.1 z x)) := by
  obtain ⟨hS, hN, hw, h20, h25, T, P, hT, hTP, hX⟩ := id hI
  obtain ⟨n9, n10, n11, n12, n13, n14, n20⟩ := id hN
  obtain ⟨s0, s1, s2, s3, s4, s5, s6, s7, s8⟩ := id hS
  exact P_bestM (kc := z 20) (p := z 11) (n := z 9) (bk := z 3) (ah := z 4) n20 n11 n9 s3 s4 g.1 (hw 9 (by omega)) h20 (hw 11 (by omega)) (hw 3 (by omega)) (hw 4 (by omega)) x
theorem bW_lt {g : GS} {M : Nat} {z : Nat → Nat} (hI : MI M g.1 z) {x : Int32} {j : Nat} (h : bW g.1 z x = some j) : j < z 9 := by
  obtain ⟨hS, hN, hw, h20, h25, T, P, hT, hTP, hX⟩ := id hI
  obtain ⟨n9, n10, n11, n12, n13, n14, n20⟩ := id hN
  obtain ⟨s0, s1, s2, s3, s4, s5, s6, s7, s8⟩ := id hS
  exact bestN_lt n9.1 n11 s4.1 h
theorem T_b {g : GS} {M : Nat} {z : Nat → Nat} (hI : MI M g.1 z) {x : Int32} (hx : f_X3_isLetter x = some 1) : g_best x 0 g = some (oI (bW g.1 z x)) ∧ (bW g.1 z x = none → g_best x 1 g = some (-9) ∧ g_best x 2 g = some (-9)) ∧ ∀ j, bW g.1 z x = some j → g_best x 1 g = some (nI (sc (letW g.1) (kepW g.1) (z 20) j)) ∧ g_best x 2 g = some (if aW g.1 z j = true then 1 else 0) := by
  obtain ⟨hS, hN, hw, h20, h25, T, P, hT, hTP, hX⟩ := id hI
  obtain ⟨n9, n10, n11, n12, n13, n14, n20⟩ := id hN
  obtain ⟨s0, s1, s2, s3, s4, s5, s6, s7, s8⟩ := id hS
  have hb := T_bo hI x
  have k0 : g_best x 0 g = some (oI (bW g.1 z x)) := by
    unfold g_best f_X4_best
    rw [P_isLet, hx, Option.bind_some, if_neg (show ¬ (1 : Int32) = 0 by decide), P_isIn, Option.bind_some, if_neg (show ¬ (if (0 : Int32) ≤ 0 ∧ (0 : Int32) ≤ 2 then (1 : Int32) else 0) = 0 by decide), hb, Option.bind_some]
    by_cases c : oI (bW g.1 z x) = -9
    · rw [if_pos c, c]
    · rw [if_neg c, if_pos rfl]
  refine ⟨k0, fun h => ?_, fun j h => ?_⟩
  · rw [h] at hb
    constructor
    · unfold g_best f_X4_best
      rw [P_isLet, hx, Option.bind_some, if_neg (show ¬ (1 : Int32) = 0 by decide), P_isIn, Option.bind_some, if_neg (show ¬ (if (0 : Int32) ≤ 1 ∧ (1 : Int32) ≤ 2 then (1 : Int32) else 0) = 0 by decide), hb, Option.bind_some, show oI none = (-9 : Int32) from m9.symm, if_pos rfl]
    · unfold g_best f_X4_best
      rw [P_isLet, hx, Option.bind_some, if_neg (show ¬ (1 : Int32) = 0 by decide), P_isIn, Option.bind_some, if_neg (show ¬ (if (0 : Int32) ≤ 2 ∧ (2 : Int32) ≤ 2 then (1 : Int32) else 0) = 0 by decide), hb, Option.bind_some, show oI none = (-9 : Int32) from m9.symm, if_pos rfl]
  · have hj := bW_lt hI h
    have hne : ¬ nI j = (-9 : Int32) := by rw [m9]; exact oI_n j (by omega)
    have a2 := P_acceptsM (kc := z 20) (p := z 11) (j := j) (nd := z 5) n20 (by omega) (by omega) s5.2 g.1 h20 (hw 11 (by omega)) (hw 5 (by omega))
    rw [h] at hb
    constructor
    · unfold g_best f_X4_best
      rw [P_isLet, hx, Option.bind_some, if_neg (show ¬ (1 : Int32) = 0 by decide), P_isIn, Option.bind_some, if_neg (show ¬ (if (0 : Int32) ≤ 1 ∧ (1 : Int32) ≤ 2 then (1 : Int32) else 0) = 0 by decide), hb, Option.bind_some, show oI (some j) = nI j from rfl, if_neg hne, if_neg (show ¬ (1 : Int32) = 0 by decide), if_pos (show (1 : Int32) = 1 from rfl), P_score n20 (by omega) g.1 h20, Option.bind_some]
      rfl
    · unfold g_best f_X4_best
      rw [P_isLet, hx, Option.bind_some, if_neg (show ¬ (1 : Int32) = 0 by decide), P_isIn, Option.bind_some, if_neg (show ¬ (if (0 : Int32) ≤ 2 ∧ (2 : Int32) ≤ 2 then (1 : Int32) else 0) = 0 by decide), hb, Option.bind_some, show oI (some j) = nI j from rfl, if_neg hne, if_neg (show ¬ (2 : Int32) = 0 by decide), if_neg (show ¬ (2 : Int32) = 1 by decide), a2, Option.bind_some]
      show (if (if aW g.1 z j = true then (1 : Int32) else 0) = 0 then some (0 : Int32) else some 1) = _
      by_cases c : aW g.1 z j = true
      · rw [if_pos c, if_neg (show ¬ (1 : Int32) = 0 by decide)]
      · rw [if_neg c, if_pos rfl]
/-- a row's span, and what row() tells of it -/
theorem T_row {g : GS} {M : Nat} {z : Nat → Nat} (hI : MI M g.1 z) {r : Nat} (hr : r < (stR (pasW g.1) (z 0) (z 9)).2) : ∃ s e, s < e ∧ e ≤ z 9 ∧ (∀ j, j < s → rwR (pasW g.1) (z 0) j < r) ∧ (∀ j, s ≤ j → j < e → rwR (pasW g.1) (z 0) j = r) ∧ (∀ j, e ≤ j → j < z 9 → r < rwR (pasW g.1) (z 0) j) ∧ g_row (nI r) 0 g = some (nI s) ∧ g_row (nI r) 1 g = some (nI (e - s)) := by
  obtain ⟨ro, fi, l1, l2⟩ := lay_eq hI
  obtain ⟨hS, hN, hw, h20, h25, T, P, hT, hTP, hX⟩ := id hI
  obtain ⟨n9, n10, n11, n12, n13, n14, n20⟩ := id hN
  obtain ⟨s0, s1, s2, s3, s4, s5, s6, s7, s8⟩ := id hS
  have hle := (stR_fact (pasW g.1) s0.1 (z 9)).2.1
  obtain ⟨s, e, r1, r2, r3, r4, r5, r6, r7⟩ := rowSpan (r := r) s0.1 l2 hr
  have hx := fun q => P_row34 (n := z 9) (r := r) (s := s) (e := e) n9.2 (by omega) r1 r2 (rwR (pasW g.1) (z 0)) (fun j hj => rwR_le s0.1 (by omega)) r3 r4 r5 g.1 ro (hw 9 (by omega)) (fun j hj => l2.1 j hj) q (z 9) 0 gas (by omega) (by unfold gas; omega)
  rw [if_pos (Nat.zero_le _), show min 0 e - s = 0 by omega] at hx
  have k : ∀ q : Int32, (q = 0 ∨ q = 1) → g_row (nI r) q g = some (if q = 0 then nI s else nI (e - s)) := fun q hq => by
    unfold g_row
    rw [l1, Option.bind_some]
    unfold f_X4_row
    rw [P_isIn, P_isIn, Option.bind_some, Option.bind_some]
    show (if (if (0 : Int32) ≤ nI r ∧ nI r ≤ nI (stR (pasW g.1) (z 0) (z 9)).2 - 1 then (1 : Int32) else 0) = 0 then _ else _) = _
    rw [show (1 : Int32) = nI 1 from rfl, pk_sub (by omega), if_neg (show ¬ (if (0 : Int32) ≤ nI r ∧ nI r ≤ nI ((stR (pasW g.1) (z 0) (z 9)).2 - 1) then nI 1 else 0) = 0 by rw [if_pos ⟨nI_pos' (by omega), nI_le (by omega) (by omega)⟩]; decide), if_neg (show ¬ (if (0 : Int32) ≤ q ∧ q ≤ nI 1 then nI 1 else 0) = 0 by rcases hq with rfl | rfl <;> decide)]
    exact hx q
  exact ⟨s, e, r1, r2, r3, r4, r5, by rw [k 0 (Or.inl rfl), if_pos rfl], by rw [k 1 (Or.inr rfl), if_neg (show ¬ (1 : Int32) = 0 by decide)]⟩
theorem T_rowN {g : GS} {M : Nat} {z : Nat → Nat} (hI : MI M g.1 z) : g_row (nI (stR (pasW g.1) (z 0) (z 9)).2) 0 g = some (-1) := by
  obtain ⟨ro, fi, l1, l2⟩ := lay_eq hI
  obtain ⟨hS, hN, hw, h20, h25, T, P, hT, hTP, hX⟩ := id hI
  obtain ⟨n9, n10, n11, n12, n13, n14, n20⟩ := id hN
  obtain ⟨s0, s1, s2, s3, s4, s5, s6, s7, s8⟩ := id hS
  have hle := (stR_fact (pasW g.1) s0.1 (z 9)).2.1
  have hpos := stR_pos (pasW g.1) s0.1 n9.1
  unfold g_row
  rw [l1, Option.bind_some]
  unfold f_X4_row
  rw [P_isIn, Option.bind_some]
  show (if (if (0 : Int32) ≤ nI (stR (pasW g.1) (z 0) (z 9)).2 ∧ nI (stR (pasW g.1) (z 0) (z 9)).2 ≤ nI (stR (pasW g.1) (z 0) (z 9)).2 - 1 then (1 : Int32) else 0) = 0 then _ else _) = _
  rw [show (1 : Int32) = nI 1 from rfl, pk_sub (by omega), if_pos (show (if (0 : Int32) ≤ nI (stR (pasW g.1) (z 0) (z 9)).2 ∧ nI (stR (pasW g.1) (z 0) (z 9)).2 ≤ nI ((stR (pasW g.1) (z 0) (z 9)).2 - 1) then nI 1 else 0) = 0 by rw [if_neg (fun y => nI_ge (show (stR (pasW g.1) (z 0) (z 9)).2 - 1 < (stR (pasW g.1) (z 0) (z 9)).2 by omega) (by omega) y.2)])]
