/-! settings -/
theorem P_isIn (x lo hi : Int32) : f_X4_isIn x lo hi = some (if lo ≤ x ∧ x ≤ hi then 1 else 0) := by
  unfold f_X4_isIn
  by_cases a : x < lo
  · rw [if_pos a, if_neg (fun q => absurd a (Int32.not_lt.mpr q.1))]
  · rw [if_neg a]
    by_cases b : hi < x
    · rw [if_pos b, if_neg (fun q => absurd b (Int32.not_lt.mpr q.2))]
    · rw [if_neg b, if_pos ⟨Int32.not_lt.mp a, Int32.not_lt.mp b⟩]
theorem P_bool (c : Prop) [Decidable c] : ((some (if c then (1 : Int32) else 0)).bind fun q => if q &&& 1 = q then some q else none) = some (if c then 1 else 0) := by
  rw [Option.bind_some]
  by_cases h : c
  · rw [if_pos h, if_pos (by decide)]
  · rw [if_neg h, if_pos (by decide)]
theorem P_isOf {k : Nat} (hk : k < 9) (v : Int32) : f_X4_isOf (nI k) v = some (if F_LEAST k ≤ v ∧ v ≤ F_MOST k then 1 else 0) := by
  unfold f_X4_isOf
  rcases (show k = 0 ∨ k = 1 ∨ k = 2 ∨ k = 3 ∨ k = 4 ∨ k = 5 ∨ k = 6 ∨ k = 7 ∨ k = 8 by omega) with rfl | rfl | rfl | rfl | rfl | rfl | rfl | rfl | rfl
  · rw [if_pos (show nI 0 = (0 : Int32) by decide), P_isIn]
    exact P_bool _
  · rw [if_neg (show ¬ nI 1 = (0 : Int32) by decide), if_pos (show nI 1 = (1 : Int32) by decide), P_isIn]
    exact P_bool _
  · rw [if_neg (show ¬ nI 2 = (0 : Int32) by decide), if_neg (show ¬ nI 2 = (1 : Int32) by decide), if_pos (show nI 2 = (2 : Int32) by decide), P_isIn]
    exact P_bool _
  · rw [if_neg (show ¬ nI 3 = (0 : Int32) by decide), if_neg (show ¬ nI 3 = (1 : Int32) by decide), if_neg (show ¬ nI 3 = (2 : Int32) by decide), if_pos (show nI 3 = (3 : Int32) by decide), P_isIn]
    exact P_bool _
  · rw [if_neg (show ¬ nI 4 = (0 : Int32) by decide), if_neg (show ¬ nI 4 = (1 : Int32) by decide), if_neg (show ¬ nI 4 = (2 : Int32) by decide), if_neg (show ¬ nI 4 = (3 : Int32) by decide), if_pos (show nI 4 = (4 : Int32) by decide), P_isIn]
    exact P_bool _
  · rw [if_neg (show ¬ nI 5 = (0 : Int32) by decide), if_neg (show ¬ nI 5 = (1 : Int32) by decide), if_neg (show ¬ nI 5 = (2 : Int32) by decide), if_neg (show ¬ nI 5 = (3 : Int32) by decide), if_neg (show ¬ nI 5 = (4 : Int32) by decide), if_pos (show nI 5 = (5 : Int32) by decide), P_isIn]
    exact P_bool _
  · rw [if_neg (show ¬ nI 6 = (0 : Int32) by decide), if_neg (show ¬ nI 6 = (1 : Int32) by decide), if_neg (show ¬ nI 6 = (2 : Int32) by decide), if_neg (show ¬ nI 6 = (3 : Int32) by decide), if_neg (show ¬ nI 6 = (4 : Int32) by decide), if_neg (show ¬ nI 6 = (5 : Int32) by decide), if_pos (show nI 6 = (6 : Int32) by decide), P_isIn]
    exact P_bool _
  · rw [if_neg (show ¬ nI 7 = (0 : Int32) by decide), if_neg (show ¬ nI 7 = (1 : Int32) by decide), if_neg (show ¬ nI 7 = (2 : Int32) by decide), if_neg (show ¬ nI 7 = (3 : Int32) by decide), if_neg (show ¬ nI 7 = (4 : Int32) by decide), if_neg (show ¬ nI 7 = (5 : Int32) by decide), if_neg (show ¬ nI 7 = (6 : Int32) by decide), if_pos (show nI 7 = (7 : Int32) by decide), P_isIn]
    exact P_bool _
  · rw [if_neg (show ¬ nI 8 = (0 : Int32) by decide), if_neg (show ¬ nI 8 = (1 : Int32) by decide), if_neg (show ¬ nI 8 = (2 : Int32) by decide), if_neg (show ¬ nI 8 = (3 : Int32) by decide), if_neg (show ¬ nI 8 = (4 : Int32) by decide), if_neg (show ¬ nI 8 = (5 : Int32) by decide), if_neg (show ¬ nI 8 = (6 : Int32) by decide), if_neg (show ¬ nI 8 = (7 : Int32) by decide), if_pos (show nI 8 = (8 : Int32) by decide), P_isIn, Option.bind_some]
    show _ = some (if (0 : Int32) ≤ v ∧ v ≤ 10 then 1 else 0)
    by_cases h : (0 : Int32) ≤ v ∧ v ≤ 10
    · rw [if_pos h, if_neg (by decide)]
    · rw [if_neg h, if_pos rfl]
theorem P_isOf_no {x : Int32} (h : x < 0 ∨ 9 ≤ x) (v : Int32) : f_X4_isOf x v = some 0 := by
  unfold f_X4_isOf
  rw [if_neg (show ¬ x = 0 from fun e => by rw [e] at h; revert h; decide), if_neg (show ¬ x = 1 from fun e => by rw [e] at h; revert h; decide), if_neg (show ¬ x = 2 from fun e => by rw [e] at h; revert h; decide), if_neg (show ¬ x = 3 from fun e => by rw [e] at h; revert h; decide), if_neg (show ¬ x = 4 from fun e => by rw [e] at h; revert h; decide), if_neg (show ¬ x = 5 from fun e => by rw [e] at h; revert h; decide), if_neg (show ¬ x = 6 from fun e => by rw [e] at h; revert h; decide), if_neg (show ¬ x = 7 from fun e => by rw [e] at h; revert h; decide), if_neg (show ¬ x = 8 from fun e => by rw [e] at h; revert h; decide)]
theorem nbS_set {z : Nat → Nat} {k x : Nat} (hS : nbS z) (hk : k < 9) (hx : x < 2 ^ 31) (h1 : F_LEAST k ≤ nI x) (h2 : nI x ≤ F_MOST k) : nbS (zN z k x) := by
  obtain ⟨s0, s1, s2, s3, s4, s5, s6, s7, s8⟩ := hS
  rcases (show k = 0 ∨ k = 1 ∨ k = 2 ∨ k = 3 ∨ k = 4 ∨ k = 5 ∨ k = 6 ∨ k = 7 ∨ k = 8 by omega) with rfl | rfl | rfl | rfl | rfl | rfl | rfl | rfl | rfl
  · exact ⟨⟨(nI_leI (a := 1) (by omega) hx).mp h1, (nI_leI (b := 12) hx (by omega)).mp h2⟩, s1, s2, s3, s4, s5, s6, s7, s8⟩
  · exact ⟨s0, ⟨(nI_leI (a := 1) (by omega) hx).mp h1, (nI_leI (b := 8) hx (by omega)).mp h2⟩, s2, s3, s4, s5, s6, s7, s8⟩
  · exact ⟨s0, s1, (nI_leI (b := 7) hx (by omega)).mp h2, s3, s4, s5, s6, s7, s8⟩
  · exact ⟨s0, s1, s2, (nI_leI (b := 30) hx (by omega)).mp h2, s4, s5, s6, s7, s8⟩
  · exact ⟨s0, s1, s2, s3, ⟨(nI_leI (a := 1) (by omega) hx).mp h1, (nI_leI (b := 60) hx (by omega)).mp h2⟩, s5, s6, s7, s8⟩
  · exact ⟨s0, s1, s2, s3, s4, ⟨(nI_leI (a := 1) (by omega) hx).mp h1, (nI_leI (b := 4) hx (by omega)).mp h2⟩, s6, s7, s8⟩
  · exact ⟨s0, s1, s2, s3, s4, s5, ⟨(nI_leI (a := 1) (by omega) hx).mp h1, (nI_leI (b := 60) hx (by omega)).mp h2⟩, s7, s8⟩
  · exact ⟨s0, s1, s2, s3, s4, s5, s6, ⟨(nI_leI (a := 1) (by omega) hx).mp h1, (nI_leI (b := 100) hx (by omega)).mp h2⟩, s8⟩
  · exact ⟨s0, s1, s2, s3, s4, s5, s6, s7, (nI_leI (b := 10) hx (by omega)).mp h2⟩
theorem nbS_14 {z : Nat → Nat} {t : Nat} (h : nbS z) : nbS (zN z 14 t) := h
theorem P_change {M k x : Nat} {w : Nat → Int32} {st : Nat → Int32} {wo pg wip rows : Int32} {le pa cu ro fi : Nat → Int32} {pr : Int32} {ti po ke : Nat → Int32} {kc ps sp tm hd top sk rp ms je ov : Int32} (r : REL M w st wo pg wip rows le pa cu ro fi pr ti po ke kc ps sp tm hd top sk rp ms je ov) (hk : k < 9) (hx : x < 2 ^ 31) (h1 : F_LEAST k ≤ nI x) (h2 : nI x ≤ F_MOST k) (roM : Nat → Int32) (rowsM : Int32) :
    ∃ rows' ro' fi' top' roM' rowsM', f_X1_change (nI k) (nI x) st wo rows pa ro fi top = some (upd st k (nI x), rows', ro', fi', top') ∧ f_X4_layRows (upd w k (nI x)) roM rowsM = some (roM', rowsM') ∧ f_X4_limited (upd w k (nI x) 14) (upd w k (nI x)) rowsM' = some top' ∧ st k = w k ∧ REL M (upd (upd w k (nI x)) 14 top') (upd st k (nI x)) wo pg wip rows' le pa cu ro' fi' pr ti po ke kc ps sp tm hd top' sk rp ms je ov ∧ LR wo rows' ro' roM' rowsM' := by
  obtain ⟨z, ⟨hS, hN, hw, h20, h25, T, P, hT, hTP, hX⟩, e1, e2, e3, e4, e5, e6, e7, e8, e9, e10, e11, e12, e13, e14, e15, e16, e17, e18, e19, e20, e21, e22⟩ := r
  obtain ⟨n9, n10, n11, n12, n13, n14, n20⟩ := id hN
  have hS' := nbS_set hS hk hx h1 h2
  have hz9 : zN z k x 9 = z 9 := zN_ne _ _ (by omega)
  have hz14 : zN z k x 14 = z 14 := zN_ne _ _ (by omega)
  have hst : ∀ i, i < 9 → upd st k (nI x) i = nI (zN z k x i) := fun i hi => by
    by_cases a : i = k
    · rw [a, upd_eq, zN_eq]
    · rw [upd_ne _ _ a, zN_ne _ _ a, e1 i hi]; exact hw i (by omega)
  have hwk : ∀ i, i ≤ 14 → upd w k (nI x) i = nI (zN z k x i) := fun i hi => by
    by_cases a : i = k
    · rw [a, upd_eq, zN_eq]
    · rw [upd_ne _ _ a, zN_ne _ _ a]; exact hw i hi
  obtain ⟨ro', fi', l1, l2⟩ := P_lay (n := z 9) (wd := zN z k x 0) n9.2 hS'.1 pa ro fi rows
  obtain ⟨roM', fiM', m1, m2⟩ := P_layM (n := z 9) (wd := zN z k x 0) n9.2 hS'.1 (upd w k (nI x)) (by rw [hwk 9 (by omega), hz9]) (hwk 0 (by omega)) roM fi rowsM
  have hpw : ∀ j, j < z 9 → (fun j => upd w k (nI x) (390 + j)) j = pa j := fun j hj => by
    show upd w k (nI x) (390 + j) = pa j
    rw [upd_ne _ _ (by omega), e6 j hj]
  have hrows := (stR_fact pa hS'.1.1 (z 9)).2.1
  have hH := hS'.2.1
  have es : stR (fun j => upd w k (nI x) (390 + j)) (zN z k x 0) (z 9) = stR pa (zN z k x 0) (z 9) := stR_congr _ hpw
  have m2' := laidR_congr hpw m2
  rw [es] at m1
  have t1 := P_highest (H := zN z k x 1) (rows := (stR pa (zN z k x 0) (z 9)).2) hH.2 (by omega) (upd st k (nI x)) (hst 1 (by omega))
  have t2 := P_lim (a := (z 14 : Int)) (b := 0) (c := max 0 (100 * (((stR pa (zN z k x 0) (z 9)).2 : Nat) - ((zN z k x 1 : Nat) : Int)))) (by omega)
  have t3 := P_limM (H := zN z k x 1) (rows := (stR pa (zN z k x 0) (z 9)).2) (x := (z 14 : Int)) hH.2 (by omega) (by omega) (upd w k (nI x)) (hwk 1 (by omega))
  obtain ⟨tp, htp⟩ : ∃ tp : Nat, max 0 (min (z 14 : Int) (max 0 (100 * (((stR pa (zN z k x 0) (z 9)).2 : Nat) - ((zN z k x 1 : Nat) : Int))))) = (tp : Int) := ⟨(max 0 (min (z 14 : Int) (max 0 (100 * (((stR pa (zN z k x 0) (z 9)).2 : Nat) - ((zN z k x 1 : Nat) : Int)))))).toNat, by omega⟩
  have htp' : tp ≤ 12000 := by omega
  rw [htp, ← nI_iI tp, ← nI_iI (z 14)] at t2 t3
  have hnew : ∀ i, ¬ i = k → ¬ i = 14 → upd (upd w k (nI x)) 14 (nI tp) i = w i := fun i a b => by rw [upd_ne _ _ b, upd_ne _ _ a]
  refine ⟨_, ro', fi', nI tp, roM', _, ?_, m1, ?_, e1 k hk, ⟨zN (zN z k x) 14 tp, ⟨?_, ⟨?_, ?_, ?_, ?_, ?_, ?_, ?_⟩, fun i hi => ?_, ?_, ?_, T, P, ?_, fun i hi => ?_, ?_⟩, ?_⟩, rfl, fun j hj hlt => ?_⟩
  · unfold f_X1_change
    rw [P_put hk (by omega), Option.bind_some, show f_X3_at 9 0 (upd st k (nI x)) = some (upd st k (nI x) 0) from P_at (k := 0) (by omega) (by omega), Option.bind_some, hst 0 (by omega), e2, hw 9 (by omega), l1, Option.bind_some, t1, Option.bind_some, e17, hw 14 (by omega), show (0 : Int32) = iI 0 by decide, t2, Option.bind_some]
  · rw [hwk 14 (by omega), hz14]; exact t3
  · exact nbS_14 hS'
  · show 1 ≤ zN (zN z k x) 14 tp 9 ∧ zN (zN z k x) 14 tp 9 ≤ 120
    rw [zN_ne _ _ (by decide), hz9]; exact n9
  · rw [zN_ne _ _ (by decide), zN_ne _ _ (by omega)]; exact n10
  · rw [zN_ne _ _ (by decide), zN_ne _ _ (by omega), zN_ne _ _ (by decide), hz9]; exact n11
  · rw [zN_ne _ _ (by decide), zN_ne _ _ (by omega)]; exact n12
  · rw [zN_ne _ _ (by decide), zN_ne _ _ (by omega), zN_ne _ _ (by decide), zN_ne _ _ (by omega)]; exact n13
  · rw [zN_eq]; exact htp'
  · rw [zN_ne _ _ (by decide), zN_ne _ _ (by omega)]; exact n20
  · by_cases a : i = 14
    · rw [a, upd_eq, zN_eq]
    · rw [upd_ne _ _ a, zN_ne _ _ a]; exact hwk i hi
  · rw [hnew 20 (by omega) (by omega), zN_ne _ _ (by decide), zN_ne _ _ (by omega)]; exact h20
  · rw [hnew 25 (by omega) (by omega), zN_ne _ _ (by decide), zN_ne _ _ (by omega)]; exact h25
  · rw [zN_ne _ _ (show ¬ 25 = 14 by decide), zN_ne _ _ (show ¬ 25 = k by omega), zN_ne _ _ (show ¬ 10 = 14 by decide), zN_ne _ _ (show ¬ 10 = k by omega), zN_ne _ _ (show ¬ 11 = 14 by decide), zN_ne _ _ (show ¬ 11 = k by omega)]; exact hT
  · rw [zN_ne _ _ (show ¬ 25 = 14 by decide), zN_ne _ _ (show ¬ 25 = k by omega)] at hi
    rw [hnew _ (by omega) (by omega), hnew _ (by omega) (by omega)]
    exact hTP i hi
  · obtain ⟨x1, x2, x3, x4, x5, x6⟩ := hX
    have hpn : ∀ j, j < z 9 → pasW (upd (upd w k (nI x)) 14 (nI tp)) j = pasW w j := fun j hj => hnew _ (by omega) (by omega)
    have q (i : Nat) (h : 9 ≤ i) (h' : ¬ i = 14) : zN (zN z k x) 14 tp i = z i := by rw [zN_ne _ _ h', zN_ne _ _ (by omega)]
    have q0 (i : Nat) (h : i < 9) : zN (zN z k x) 14 tp i = zN z k x i := zN_ne _ _ (by omega)
    unfold EX
    rw [q0 0 (by omega), q0 1 (by omega), q 9 (by omega) (by omega), q 10 (by omega) (by omega), q 11 (by omega) (by omega), q 12 (by omega) (by omega), q 25 (by omega) (by omega), zN_eq]
    refine ⟨?_, ?_, fun i hi => ?_, pasO_congr hpn x4, x5, x6⟩
    · rw [stR_congr (pas := pasW (upd (upd w k (nI x)) 14 (nI tp))) (pas' := pa) (z 9) (fun j hj => by rw [e6 j hj]; exact hpn j hj)]
      omega
    · rw [hnew 18 (by omega) (by omega)]; exact x2
    · rw [hnew _ (by omega) (by omega)]; exact x3 i hi
  · have q0 : zN (zN z k x) 14 tp 0 = zN z k x 0 := zN_ne _ _ (by decide)
    have q9 : zN (zN z k x) 14 tp 9 = z 9 := by rw [zN_ne _ _ (by decide), hz9]
    have q20 : zN (zN z k x) 14 tp 20 = z 20 := by rw [zN_ne _ _ (by decide), zN_ne _ _ (by omega)]
    have q25 : zN (zN z k x) 14 tp 25 = z 25 := by rw [zN_ne _ _ (by decide), zN_ne _ _ (by omega)]
    have hpn : ∀ j, j < z 9 → pa j = pasW (upd (upd w k (nI x)) 14 (nI tp)) j := fun j hj => by
      show pa j = upd (upd w k (nI x)) 14 (nI tp) (390 + j)
      rw [hnew _ (by omega) (by omega), e6 j hj]
    unfold EQ
    rw [q0, q9, q20, q25]
    refine ⟨fun i hi => ?_, by rw [hnew 9 (by omega) (by omega)]; exact e2, by rw [hnew _ (by omega) (by omega)]; exact e3, by rw [stR_congr (pas := pasW (upd (upd w k (nI x)) 14 (nI tp))) (pas' := pa) (z 9) (fun j hj => (hpn j hj).symm)], fun i hi => by rw [hnew _ (by omega) (by omega)]; exact e5 i hi, fun i hi => by rw [hnew _ (by omega) (by omega)]; exact e6 i hi, fun i hi => by rw [hnew _ (by omega) (by omega)]; exact e7 i hi, laidR_congr hpn l2, by rw [hnew 25 (by omega) (by omega)]; exact e9, fun i hi => by rw [hnew _ (by omega) (by omega), hnew _ (by omega) (by omega)]; exact e10 i hi, fun i hi => by rw [hnew _ (by omega) (by omega)]; exact e11 i hi, by rw [hnew 20 (by omega) (by omega)]; exact e12, by rw [hnew 11 (by omega) (by omega)]; exact e13, by rw [hnew 12 (by omega) (by omega)]; exact e14, by rw [hnew 10 (by omega) (by omega)]; exact e15, by rw [hnew 13 (by omega) (by omega)]; exact e16, by rw [upd_eq], by rw [hnew 15 (by omega) (by omega)]; exact e18, by rw [hnew 16 (by omega) (by omega)]; exact e19, by rw [hnew 17 (by omega) (by omega)]; exact e20, by rw [hnew 18 (by omega) (by omega)]; exact e21, by rw [hnew 19 (by omega) (by omega)]; exact e22⟩
    by_cases a : i = k
    · rw [a, upd_eq, upd_ne _ _ (by omega), upd_eq]
    · rw [upd_ne _ _ a, hnew i a (by omega)]; exact e1 i hi
  · have hj' : j < z 9 := by
      rw [e2, hw 9 (by omega)] at hlt
      exact (nI_ltI (by omega) (by omega)).mp hlt
    rw [m2'.1 j hj', l2.1 j hj']
/-! place -/
theorem P_jump {M s : Nat} {w : Nat → Int32} {st : Nat → Int32} {wo pg wip rows : Int32} {le pa cu ro fi : Nat → Int32} {pr : Int32} {ti po ke : Nat → Int32} {kc ps sp tm hd top sk rp ms je ov : Int32} (r : REL M w st wo pg wip rows le pa cu ro fi pr ti po ke kc ps sp tm hd top sk rp ms je ov) (hs : s < 120) (hs2 : nI s < wo) (past : Nat → Int32) (pm : Int32) :
    ∃ cu' w', f_X1_jump (nI s) wo cu pr kc ps tm hd = some (cu', 0, 0, nI s, tm) ∧ f_X4_place_62 (nI s) (w 11) past pm gas 0 (upd (upd (upd (upd w 11 (nI s)) 20 0) 25 0) 13 (w 10)) = some (ps, w', past, pm) ∧ REL M w' st wo pg wip rows le pa cu' ro fi 0 ti po ke 0 (nI s) sp tm tm top sk rp ms je ov := by
  obtain ⟨z, ⟨hS, hN, hw, h20, h25, T, P, hT, hTP, hX⟩, e1, e2, e3, e4, e5, e6, e7, e8, e9, e10, e11, e12, e13, e14, e15, e16, e17, e18, e19, e20, e21, e22⟩ := r
  obtain ⟨n9, n10, n11, n12, n13, n14, n20⟩ := id hN
  have hs9 : s < z 9 := by
    rw [e2, hw 9 (by omega)] at hs2
    exact (nI_ltI (by omega) (by omega)).mp hs2
  have hA : ∀ i, ¬ i = 11 → ¬ i = 20 → ¬ i = 25 → ¬ i = 13 → upd (upd (upd (upd w 11 (nI s)) 20 0) 25 0) 13 (w 10) i = w i := fun i a b c d => by rw [upd_ne _ _ d, upd_ne _ _ c, upd_ne _ _ b, upd_ne _ _ a]
  have hA11 : upd (upd (upd (upd w 11 (nI s)) 20 0) 25 0) 13 (w 10) 11 = nI s := by rw [upd_ne _ _ (by decide), upd_ne _ _ (by decide), upd_ne _ _ (by decide), upd_eq]
  have hA20 : upd (upd (upd (upd w 11 (nI s)) 20 0) 25 0) 13 (w 10) 20 = 0 := by rw [upd_ne _ _ (by decide), upd_ne _ _ (by decide), upd_eq]
  have hA25 : upd (upd (upd (upd w 11 (nI s)) 20 0) 25 0) 13 (w 10) 25 = 0 := by rw [upd_ne _ _ (by decide), upd_eq]
  have hA13 : upd (upd (upd (upd w 11 (nI s)) 20 0) 25 0) 13 (w 10) 13 = w 10 := upd_eq _ _ _
  generalize upd (upd (upd (upd w 11 (nI s)) 20 0) 25 0) 13 (w 10) = v at hA hA11 hA20 hA25 hA13
  have hp := P_placeM_l (n := z 9) (s := s) n9.2 hs9 v (by rw [hA 9 (by omega) (by omega) (by omega) (by omega)]; exact hw 9 (by omega)) (w 11) past pm (z 9) 0 gas (by omega) (by unfold gas; omega)
  rw [blk_0] at hp
  generalize hv' : blkW 270 v (z 9) (setC (fun j => v (270 + j)) s (z 9)) = v' at hp
  have hC : ∀ i, i < z 9 → v' (270 + i) = setC cu s (z 9) i := fun i hi => by
    rw [← hv', blk_in _ _ hi]
    unfold setC
    rw [show (fun j => v (270 + j)) i = cu i by show v (270 + i) = cu i; rw [hA _ (by omega) (by omega) (by omega) (by omega), e7 i hi]]
  have hB : ∀ i, (i < 270 ∨ 390 ≤ i) → ¬ i = 11 → ¬ i = 20 → ¬ i = 25 → ¬ i = 13 → v' i = w i := fun i a b c d e => by
    rw [← hv', blk_out _ _ (by omega), hA i b c d e]
  have hB2 : ∀ i, i < 270 → v' i = v i := fun i a => by rw [← hv', blk_out _ _ (by omega)]
  refine ⟨setC cu s (z 9), v', ?_, ?_, zN (zN (zN (zN z 11 s) 20 0) 25 0) 13 (z 10), ⟨hS, ⟨n9, n10, by show s ≤ z 9; omega, n12, Nat.le_refl _, n14, Nat.zero_le _⟩, fun i hi => ?_, ?_, ?_, T, P, trF_0 _ _ _ _, fun i hi => absurd hi (Nat.not_lt_zero _), ?_⟩, ?_⟩
  · unfold f_X1_jump f_X2_empty
    rw [Option.bind_some, e2, hw 9 (by omega), P_setCues n9.2 (by omega), Option.bind_some]
  · rw [e13]; exact hp
  · by_cases a : i = 11
    · rw [a, hB2 11 (by omega), hA11]; rfl
    · by_cases b : i = 13
      · rw [b, hB2 13 (by omega), hA13, hw 10 (by omega)]; rfl
      · rw [hB i (by omega) a (by omega) (by omega) b, zN_ne _ _ b, zN_ne _ _ (by omega), zN_ne _ _ (by omega), zN_ne _ _ a]; exact hw i hi
  · rw [hB2 20 (by omega), hA20]; rfl
  · rw [hB2 25 (by omega), hA25]; rfl
  · obtain ⟨x1, x2, x3, x4, x5, x6⟩ := hX
    have hpn : ∀ j, j < z 9 → pasW v' j = pasW w j := fun j hj => hB (390 + j) (by omega) (by omega) (by omega) (by omega) (by omega)
    refine ⟨?_, ?_, fun i hi => ?_, ?_, fun y => absurd y (Nat.lt_irrefl _), fun y => absurd y (show ¬ 1 < 0 by decide)⟩
    · show z 14 ≤ 100 * ((stR (pasW v') (z 0) (z 9)).2 - z 1)
      rw [stR_congr (pas := pasW v') (pas' := pasW w) (z 9) hpn]; exact x1
    · rw [hB 18 (by omega) (by omega) (by omega) (by omega) (by omega)]; exact x2
    · have hi : i < z 9 := hi
      rw [hC i hi]
      unfold setC
      by_cases y : i < z 9 ∧ ¬ cu i = 0
      · rw [if_pos y]
        by_cases y2 : s ≤ i
        · rw [if_pos y2]; exact Or.inr (Or.inl rfl)
        · rw [if_neg y2]; exact Or.inr (Or.inr (Or.inr rfl))
      · rw [if_neg y, e7 i hi]; exact x3 i hi
    · exact pasO_congr (n := z 9) hpn x4
  · have hpn : ∀ j, j < z 9 → pasW w j = pasW v' j := fun j hj => (hB (390 + j) (by omega) (by omega) (by omega) (by omega) (by omega)).symm
    refine ⟨fun i hi => by rw [hB i (by omega) (by omega) (by omega) (by omega) (by omega)]; exact e1 i hi, by rw [hB 9 (by omega) (by omega) (by omega) (by omega) (by omega)]; exact e2, ?_, ?_, fun i hi => ?_, fun i hi => ?_, fun i hi => (hC i hi).symm, laidR_congr hpn e8, by rw [hB2 25 (by omega), hA25], fun i hi => absurd hi (Nat.not_lt_zero _), fun i hi => absurd hi (Nat.not_lt_zero _), by rw [hB2 20 (by omega), hA20], by rw [hB2 11 (by omega), hA11], by rw [hB 12 (by omega) (by omega) (by omega) (by omega) (by omega)]; exact e14, by rw [hB 10 (by omega) (by omega) (by omega) (by omega) (by omega)]; exact e15, by rw [hB2 13 (by omega), hA13]; exact e15, by rw [hB 14 (by omega) (by omega) (by omega) (by omega) (by omega)]; exact e17, by rw [hB 15 (by omega) (by omega) (by omega) (by omega) (by omega)]; exact e18, by rw [hB 16 (by omega) (by omega) (by omega) (by omega) (by omega)]; exact e19, by rw [hB 17 (by omega) (by omega) (by omega) (by omega) (by omega)]; exact e20, by rw [hB 18 (by omega) (by omega) (by omega) (by omega) (by omega)]; exact e21, by rw [hB 19 (by omega) (by omega) (by omega) (by omega) (by omega)]; exact e22⟩
    · show pg = v' (390 + (z 9 - 1)) + 1
      rw [hB _ (by omega) (by omega) (by omega) (by omega) (by omega)]; exact e3
    · show rows = nI (stR (pasW v') (z 0) (z 9)).2
      rw [← stR_congr (pas := pasW w) (pas' := pasW v') (z 9) hpn]; exact e4
    · have hi : i < z 9 := hi
      rw [hB _ (by omega) (by omega) (by omega) (by omega) (by omega)]; exact e5 i hi
    · have hi : i < z 9 := hi
      rw [hB _ (by omega) (by omega) (by omega) (by omega) (by omega)]; exact e6 i hi
