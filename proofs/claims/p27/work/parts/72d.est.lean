/-! isEstimate, of a ghost -/
theorem nI_m1 {a : Nat} (h : a < 2 ^ 31) : ¬ nI a ≤ (-1 : Int32) := by
  rw [m1, nI_iI, iI_le (by omega)]
  omega
theorem esW_f {M : Nat} {w : Nat → Int32} {z : Nat → Nat} (hI : MI M w z) : esW w z < z 9 ∧ (∀ k, nxO (cueW w) (z 9) 0 = some k → esW w z ≤ k) ∧ (z 11 ≤ esW w z ∨ (nxO (cueW w) (z 9) 0 = none ∧ esW w z = z 9 - 1) ∨ nxO (cueW w) (z 9) 0 = some (esW w z)) := by
  have n9 := hI.2.1.1
  have hL := holdN_lt (c := cueW w) n9.1
  have hE := estN_le (z 11) (z 12) (z 10) (z 13) 0 (z 8) (holdN (nxO (cueW w) (z 9) 0) (z 9))
  have hd : z 11 ≤ esW w z ∨ esW w z = holdN (nxO (cueW w) (z 9) 0) (z 9) := by
    unfold esW estN
    by_cases c : holdN (nxO (cueW w) (z 9) 0) (z 9) < (100 * z 11 + z 12 * (z 10 - z 13 + 0 + z 8)) / 100
    · rw [if_pos c]; exact Or.inr rfl
    · rw [if_neg c]
      refine Or.inl ?_
      generalize z 12 * (z 10 - z 13 + 0 + z 8) = Y
      omega
  have hE' : esW w z ≤ holdN (nxO (cueW w) (z 9) 0) (z 9) := hE
  refine ⟨by omega, fun k hk => ?_, ?_⟩
  · rw [hk] at hE'
    exact hE'
  · cases ho : nxO (cueW w) (z 9) 0 with
    | none =>
      rw [ho] at hd
      rcases hd with a | a
      · exact Or.inl a
      · exact Or.inr (Or.inl ⟨rfl, a⟩)
    | some k =>
      rw [ho] at hd
      rcases hd with a | a
      · exact Or.inl a
      · have a' : esW w z = k := a
        exact Or.inr (Or.inr (by rw [a']))
theorem E_261 {g : GS} {M : Nat} {z T P : Nat → Nat} (hM : M ≤ 80000) (hI : MI M g.1 z) (hT : trF (z 25) T P (z 10) (z 11)) (hTP : ∀ i, i < z 25 → g.1 (26 + 2 * i) = nI (T i) ∧ g.1 (27 + 2 * i) = nI (P i)) (hX : EX g.1 z T P) {X : Int32} (hx : 0 < z 25 → X = nI (T (z 25 - 1))) : f_L_isEstimate_261 g (nI (z 11)) (nI (z 25)) X 1 = some 1 := by
  have n10 := hI.2.1.2.1
  have n11 := hI.2.1.2.2.1
  have n9 := hI.2.1.1
  have hc := hT.1
  unfold f_L_isEstimate_261
  rw [if_neg (show ¬ (1 : Int32) = 0 by decide)]
  by_cases c : z 25 < 2
  · rw [if_pos (show nI (z 25) < 2 from nI_lt (b := 2) c (by omega))]
  · have t1 : g_trail 0 1 g = some (nI (P 0)) := by
      have := T_r1 hI (k := 0) (by omega)
      rw [(hTP 0 (by omega)).2] at this
      exact this
    have t0 : g_trail 0 0 g = some (nI (T 0)) := by
      have := T_r0 hI (k := 0) (by omega)
      rw [(hTP 0 (by omega)).1] at this
      exact this
    have hlt := (hT.2.1 0 (z 25 - 1) (by omega) (by omega)).1
    have hb0 := hT.2.2 0 (by omega)
    have hb1 := hT.2.2 (z 25 - 1) (by omega)
    obtain ⟨q1, q2, q3⟩ := spI (a := z 11) (b := P 0) (x := T (z 25 - 1)) (y := T 0) hb0.2 (by omega) hlt (by omega)
    rw [if_neg (show ¬ nI (z 25) < 2 from nI_nlt (b := 2) (by omega) (by omega)), T_t6 (by omega) hI, Option.bind_some, t1, Option.bind_some, t0, Option.bind_some, hx (by omega), if_neg q2, q1, if_pos (by rw [hX.2.2.2.2.2 (by omega)])]
theorem E_219 {g : GS} {M : Nat} {z T P : Nat → Nat} (hM : M ≤ 80000) (hI : MI M g.1 z) (hT : trF (z 25) T P (z 10) (z 11)) (hTP : ∀ i, i < z 25 → g.1 (26 + 2 * i) = nI (T i) ∧ g.1 (27 + 2 * i) = nI (P i)) (hX : EX g.1 z T P) {X : Int32} (hx : 0 < z 25 → X = nI (T (z 25 - 1))) : f_L_isEstimate_219 g (nI (z 11)) (nI (z 25)) X = some 1 := by
  have n20 := hI.2.1.2.2.2.2.2.2
  unfold f_L_isEstimate_219
  rw [T_rN hI, Option.bind_some, if_pos rfl, T_t17 (by omega) hI, Option.bind_some, T_hN hI, Option.bind_some, if_pos rfl, Option.bind_some, if_neg (show ¬ (4 : Int32) < nI (z 20) from nI_nlt (a := 4) n20 (by omega))]
  exact E_261 hM hI hT hTP hX hx
theorem E_121 {g : GS} {M : Nat} {z T P : Nat → Nat} (hM : M ≤ 80000) (hI : MI M g.1 z) (hT : trF (z 25) T P (z 10) (z 11)) (hTP : ∀ i, i < z 25 → g.1 (26 + 2 * i) = nI (T i) ∧ g.1 (27 + 2 * i) = nI (P i)) (hX : EX g.1 z T P) : ∀ m k f, k + m = z 25 → m < f → f_L_isEstimate_121 g (nI (z 11)) (nI (z 25)) f 1 (if k = 0 then -1 else nI (T (k - 1))) (if k = 0 then -1 else nI (P (k - 1))) (nI k) = some 1 := by
  have n10 := hI.2.1.2.1
  have n11 := hI.2.1.2.2.1
  have n9 := hI.2.1.1
  have hc := hT.1
  intro m
  induction m with
  | zero =>
    intro k f hk hf
    obtain ⟨f, rfl⟩ : ∃ y, f = y + 1 := ⟨f - 1, by omega⟩
    have hk' : k = z 25 := by omega
    have fin := E_219 (X := if k = 0 then -1 else nI (T (k - 1))) hM hI hT hTP hX (fun q => by rw [if_neg (by omega), hk'])
    rw [f_L_isEstimate_121, if_pos (nI_le (by omega) (by omega)), if_neg (show ¬ (1 : Int32) = 0 by decide)]
    by_cases c : z 25 = 0
    · rw [if_pos (show nI (z 25) = 0 by rw [c]; rfl)]
      exact fin
    · rw [if_neg (nI_ne0 (by omega) (by omega)), if_pos (show (if k = 0 then (-1 : Int32) else nI (P (k - 1))) = nI (z 11) by rw [if_neg (by omega), hk', hX.2.2.2.2.1 (by omega)])]
      exact fin
  | succ m ih =>
    intro k f hk hf
    obtain ⟨f, rfl⟩ : ∃ y, f = y + 1 := ⟨f - 1, by omega⟩
    have hb := hT.2.2 k (by omega)
    have a1 : ¬ nI (T k) ≤ (if k = 0 then (-1 : Int32) else nI (T (k - 1))) := by
      by_cases q : k = 0
      · rw [if_pos q]; exact nI_m1 (by omega)
      · rw [if_neg q]; exact nI_ge (hT.2.1 (k - 1) k (by omega) (by omega)).1 (by omega)
    have a2 : ¬ nI (P k) ≤ (if k = 0 then (-1 : Int32) else nI (P (k - 1))) := by
      by_cases q : k = 0
      · rw [if_pos q]; exact nI_m1 (by omega)
      · rw [if_neg q]; exact nI_ge (hT.2.1 (k - 1) k (by omega) (by omega)).2 (by omega)
    have t0 := T_r0 hI (k := k) (by omega)
    have t1 := T_r1 hI (k := k) (by omega)
    rw [(hTP k (by omega)).1] at t0
    rw [(hTP k (by omega)).2] at t1
    rw [f_L_isEstimate_121, if_neg (nI_ge (by omega) (by omega)), if_neg (show ¬ (1 : Int32) = 0 by decide), t0, Option.bind_some, if_neg a1, t1, Option.bind_some, if_neg a2, Option.bind_some, T_t4 (by omega) hI, Option.bind_some, if_neg (nI_nlt hb.1 (by omega))]
    unfold f_L_isEstimate_177
    rw [t0, Option.bind_some, t1, Option.bind_some, nI_1]
    have := ih (k + 1) f (by omega) (by omega)
    rw [if_neg (Nat.succ_ne_zero k), if_neg (Nat.succ_ne_zero k), Nat.add_sub_cancel] at this
    exact this
theorem L_isEst {g : GS} {M : Nat} {z : Nat → Nat} (hM : M ≤ 80000) (hI : MI M g.1 z) : f_L_isEstimate g = some 1 := by
  obtain ⟨hS, hN, hw, h20, h25, T, P, hT, hTP, hX⟩ := id hI
  obtain ⟨n9, n10, n11, n12, n13, n14, n20⟩ := id hN
  obtain ⟨s0, s1, s2, s3, s4, s5, s6, s7, s8⟩ := id hS
  obtain ⟨e1, e2, e3⟩ := esW_f hI
  have hT1 := hT.1
  have l0 : f_L_isEstimate_121 g (nI (z 11)) (nI (z 25)) gas 1 (-1) (-1) 0 = some 1 := by
    have := E_121 hM hI hT hTP hX (z 25) 0 gas (by omega) (by unfold gas; omega)
    rw [if_pos rfl, if_pos rfl] at this
    exact this
  have f66 : f_L_isEstimate_66 g (nI (esW g.1 z)) (nI (z 9)) (nI (z 11)) (oI (nxO (cueW g.1) (z 9) 0)) (nI (z 25)) = some 1 := by
    unfold f_L_isEstimate_66
    rw [T_t6 (by omega) hI, Option.bind_some, if_neg (nI_pos (by omega))]
    unfold f_L_isEstimate_80
    rw [if_neg (show ¬ (1 : Int32) = 0 by decide)]
    by_cases c : z 11 ≤ esW g.1 z
    · rw [if_pos (nI_le c (by omega))]
      exact l0
    · rw [if_neg (nI_ge (by omega) (by omega)), show (1 : Int32) = nI 1 from rfl, pk_sub n9.1]
      by_cases d : nI (esW g.1 z) = nI (z 9 - 1)
      · rw [if_pos d]; exact l0
      · rw [if_neg d]
        rcases e3 with q | ⟨q1, q2⟩ | q
        · exact absurd q c
        · exact absurd (by rw [q2]) d
        · rw [q, if_pos (show nI (esW g.1 z) = oI (some (esW g.1 z)) from rfl)]; exact l0
  unfold f_L_isEstimate
  rw [T_t7 (by omega) hI, Option.bind_some, T_t0 (by omega) hI, Option.bind_some, T_t5 (by omega) hI, Option.bind_some, T_t16 (by omega) hI, Option.bind_some, T_t15 (by omega) hI, Option.bind_some, if_neg (nI_pos (by omega)), if_neg (nI_nlt n11 (by omega)), if_neg (nI_pos (by omega)), if_neg (nI_ge e1 (by omega))]
  by_cases c : oI (nxO (cueW g.1) (z 9) 0) = -9
  · rw [if_pos c]; exact f66
  · rw [if_neg c]
    cases ho : nxO (cueW g.1) (z 9) 0 with
    | none => rw [ho] at c; exact absurd m9.symm c
    | some k =>
      have := e2 k ho
      have hk := nxO_some _ _ _ ho
      rw [ho] at f66
      rw [show oI (some k) = nI k from rfl, if_neg (nI_nlt this (by omega))]
      exact f66
