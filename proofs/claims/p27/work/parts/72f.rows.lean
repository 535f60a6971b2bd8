/-! areRows, of a ghost -/
theorem cuN_s (c : Nat → Int32) : ∀ m k, cuN c (m + 1) k = cuN c m k + (if c (k + m) = 0 then 0 else 1) := by
  intro m
  induction m with
  | zero =>
    intro k
    show (if c k = 0 then 0 else 1) + 0 = 0 + (if c (k + 0) = 0 then 0 else 1)
    rw [Nat.add_zero, Nat.add_zero, Nat.zero_add]
  | succ m ih =>
    intro k
    have := ih (k + 1)
    show (if c k = 0 then 0 else 1) + cuN c (m + 1) (k + 1) = ((if c k = 0 then 0 else 1) + cuN c m (k + 1)) + _
    rw [this, show k + 1 + m = k + (m + 1) by omega, Nat.add_assoc]
theorem nxO_s (c : Nat → Int32) : ∀ m k, nxO c (m + 1) k = (match nxO c m k with | some j => some j | none => if c (k + m) = 1 then some (k + m) else none) := by
  intro m
  induction m with
  | zero => intro k; rfl
  | succ m ih =>
    intro k
    show (if c k = 1 then some k else nxO c (m + 1) (k + 1)) = (match (if c k = 1 then some k else nxO c m (k + 1)) with | some j => some j | none => if c (k + (m + 1)) = 1 then some (k + (m + 1)) else none)
    by_cases a : c k = 1
    · rw [if_pos a, if_pos a]
    · rw [if_neg a, if_neg a, ih (k + 1), show k + 1 + m = k + (m + 1) by omega]
theorem rw_same {pas : Nat → Int32} {wd j : Nat} (hw : 1 ≤ wd) (hj : 0 < j) (h : rwR pas wd j = rwR pas wd (j - 1)) : ¬ nwR pas wd (stR pas wd j) j = true := by
  intro q
  have e := stR_new q
  have f := ((stR_fact pas hw j).2.2 hj).2
  have a : rwR pas wd j = (stR pas wd j).2 := by unfold rwR; rw [e]; rfl
  have b : rwR pas wd (j - 1) = (stR pas wd j).2 - 1 := by unfold rwR; rw [show j - 1 + 1 = j by omega]
  omega
theorem rw_pas {pas : Nat → Int32} {wd j : Nat} (hw : 1 ≤ wd) (hj : 0 < j) (h : rwR pas wd j = rwR pas wd (j - 1)) : pas j = pas (j - 1) := by
  have q := rw_same hw hj h
  by_cases c : pas j = pas (j - 1)
  · exact c
  · exfalso
    refine q ?_
    unfold nwR
    rw [decide_eq_false c]
    simp
theorem rw_len {pas : Nat → Int32} {wd s e r : Nat} (hw : 1 ≤ wd) (h2 : ∀ j, s ≤ j → j < e → rwR pas wd j = r) : ∀ t, 1 ≤ t → s + t ≤ e → t ≤ (stR pas wd (s + t)).1 := by
  intro t
  induction t with
  | zero => intro h _; omega
  | succ t ih =>
    intro _ h
    rcases Nat.eq_zero_or_pos t with q | q
    · subst q
      exact ((stR_fact pas hw (s + 1)).2.2 (by omega)).1
    · have a := ih q (by omega)
      have n := rw_same (pas := pas) (wd := wd) (j := s + t) hw (by omega) (by rw [h2 (s + t) (by omega) (by omega), h2 (s + t - 1) (by omega) (by omega)])
      have b := stR_old n
      rw [show s + (t + 1) = s + t + 1 by omega, b]
      show t + 1 ≤ (stR pas wd (s + t)).1 + 1
      omega
def PA (w : Nat → Int32) (k : Nat) : Int32 := if k = 0 then 0 else w (390 + (k - 1))
theorem E_r94 {g : GS} {M : Nat} {z : Nat → Nat} (hM : M ≤ 80000) (hI : MI M g.1 z) {r s e : Nat} (hse : s < e) (hen : e ≤ z 9) (h1 : ∀ j, j < s → rwR (pasW g.1) (z 0) j < r) (h2 : ∀ j, s ≤ j → j < e → rwR (pasW g.1) (z 0) j = r) (K : Int32 → Int32 → Int32 → Int32 → Int32 → Option Int32) (x3 : Int32) : ∀ m k f, k + m = e → s ≤ k → m < f → f_L_areRows_94 K g x3 (nI (z 1)) (nI (z 14)) (nI r) (nI s) (nI (e - s)) f (PA g.1 k) (nI (cuN (cueW g.1) k 0)) (oI (nxO (cueW g.1) k 0)) (nI k) = K (x3 + nI (e - s)) (PA g.1 e) (nI (cuN (cueW g.1) e 0)) (oI (nxO (cueW g.1) e 0)) (nI (r + 1)) := by
  obtain ⟨hS, hN, hw, h20, h25, T, P, hT, hTP, hX⟩ := id hI
  obtain ⟨n9, n10, n11, n12, n13, n14, n20⟩ := id hN
  obtain ⟨s0, s1, s2, s3, s4, s5, s6, s7, s8⟩ := id hS
  have hr : r ≤ 120 := by
    have := h2 s (Nat.le_refl _) hse
    have := rwR_le (pas := pasW g.1) s0.1 (show s < 120 by omega)
    omega
  intro m
  induction m with
  | zero =>
    intro k f hk hs hf
    obtain ⟨f, rfl⟩ : ∃ y, f = y + 1 := ⟨f - 1, by omega⟩
    obtain rfl : k = e := by omega
    rw [f_L_areRows_94, nI_add, show s + (k - s) = k by omega, if_pos (nI_le (Nat.le_refl _) (by omega)), nI_1]
  | succ m ih =>
    intro k f hk hs hf
    obtain ⟨f, rfl⟩ : ∃ y, f = y + 1 := ⟨f - 1, by omega⟩
    have nx := ih (k + 1) f (by omega) (by omega) (by omega)
    have hrk := h2 k hs (by omega)
    have hcue := hX.2.2.1 k (by omega)
    have hcn : cueW g.1 k = g.1 (270 + k) := rfl
    have epa : PA g.1 (k + 1) = g.1 (390 + k) := by unfold PA; rw [if_neg (Nat.succ_ne_zero k), Nat.add_sub_cancel]
    have ecu := cuN_s (cueW g.1) k 0
    rw [Nat.zero_add, hcn] at ecu
    have enx := nxO_s (cueW g.1) k 0
    rw [Nat.zero_add, hcn] at enx
    have hck : cuN (cueW g.1) k 0 ≤ k := by
      have : ∀ m k, cuN (cueW g.1) m k ≤ m := by
        intro m
        induction m with
        | zero => intro k; exact Nat.le_refl _
        | succ m ih =>
          intro k
          have := ih (k + 1)
          show (if cueW g.1 k = 0 then 0 else 1) + cuN (cueW g.1) m (k + 1) ≤ m + 1
          split <;> omega
      exact this k 0
    -- behind a good word
    have f244 : ∀ x5 : Int32, x5 = nI (cuN (cueW g.1) (k + 1) 0) → f_L_areRows_244 K (f_L_areRows_94 K g x3 (nI (z 1)) (nI (z 14)) (nI r) (nI s) (nI (e - s)) f) (g.1 (390 + k)) (oI (nxO (cueW g.1) k 0)) (nI k) (g.1 (270 + k)) x5 = K (x3 + nI (e - s)) (PA g.1 e) (nI (cuN (cueW g.1) e 0)) (oI (nxO (cueW g.1) e 0)) (nI (r + 1)) := by
      intro x5 h5
      unfold f_L_areRows_244
      rw [h5, nI_1, ← epa]
      by_cases c : g.1 (270 + k) = 1
      · rw [if_pos c]
        cases ho : nxO (cueW g.1) k 0 with
        | none =>
          rw [ho, if_pos c] at enx
          rw [show oI none = (-9 : Int32) from m9.symm, if_neg (show ¬ (0 : Int32) ≤ -9 by decide)]
          have enx : nxO (cueW g.1) (k + 1) 0 = some k := enx
          rw [enx] at nx
          exact nx
        | some j =>
          rw [ho] at enx
          have enx : nxO (cueW g.1) (k + 1) 0 = some j := enx
          have hj := nxO_some _ _ _ ho
          rw [enx] at nx
          rw [show oI (some j) = nI j from rfl, if_pos (nI_pos' (by omega))]
          exact nx
      · rw [if_neg c]
        have e0 : nxO (cueW g.1) (k + 1) 0 = nxO (cueW g.1) k 0 := by
          rw [enx, if_neg c]
          cases nxO (cueW g.1) k 0 <;> rfl
        rw [e0] at nx
        exact nx
    have f217 : f_L_areRows_217 K (f_L_areRows_94 K g x3 (nI (z 1)) (nI (z 14)) (nI r) (nI s) (nI (e - s)) f) (nI (cuN (cueW g.1) k 0)) (oI (nxO (cueW g.1) k 0)) (nI k) (g.1 (390 + k)) (g.1 (270 + k)) 1 = K (x3 + nI (e - s)) (PA g.1 e) (nI (cuN (cueW g.1) e 0)) (oI (nxO (cueW g.1) e 0)) (nI (r + 1)) := by
      unfold f_L_areRows_217
      rw [if_neg (show ¬ (1 : Int32) = 0 by decide)]
      rcases hcue with q | q | q | q
      · rw [if_pos (show g.1 (270 + k) ≤ 0 by rw [q]; decide)]
        exact f244 _ (by rw [ecu, if_pos q, Nat.add_zero])
      · rw [if_neg (show ¬ g.1 (270 + k) ≤ 0 by rw [q]; decide)]
        exact f244 _ (by rw [ecu, if_neg (by rw [q]; decide), nI_1])
      · rw [if_neg (show ¬ g.1 (270 + k) ≤ 0 by rw [q]; decide)]
        exact f244 _ (by rw [ecu, if_neg (by rw [q]; decide), nI_1])
      · rw [if_neg (show ¬ g.1 (270 + k) ≤ 0 by rw [q]; decide)]
        exact f244 _ (by rw [ecu, if_neg (by rw [q]; decide), nI_1])
    have f192 : ∀ b : Bool, b = decide (z 14 ≤ 100 * r ∧ 100 * r ≤ z 14 + 100 * (z 1 - 1)) → f_L_areRows_192 K (f_L_areRows_94 K g x3 (nI (z 1)) (nI (z 14)) (nI r) (nI s) (nI (e - s)) f) g (nI (cuN (cueW g.1) k 0)) (oI (nxO (cueW g.1) k 0)) (nI k) (g.1 (390 + k)) (g.1 (270 + k)) (if b = true then 1 else 0) = K (x3 + nI (e - s)) (PA g.1 e) (nI (cuN (cueW g.1) e 0)) (oI (nxO (cueW g.1) e 0)) (nI (r + 1)) := by
      intro b hb
      unfold f_L_areRows_192
      rw [T_w4 hI (show k < z 9 by omega), Option.bind_some, hrk]
      unfold f_L_areRows_209
      by_cases c : z 14 ≤ 100 * r ∧ 100 * r ≤ z 14 + 100 * (z 1 - 1)
      · rw [if_pos c, hb, decide_eq_true c, if_pos rfl, if_neg (show ¬ (1 : Int32) = 0 by decide), if_pos rfl]
        exact f217
      · rw [if_neg c, hb, decide_eq_false c, if_neg (show ¬ false = true by decide), if_pos rfl, if_pos rfl]
        exact f217
    have f155 : ∀ b : Bool, b = decide (z 14 ≤ 100 * r ∧ 100 * r ≤ z 14 + 100 * (z 1 - 1)) → f_L_areRows_155 K (f_L_areRows_94 K g x3 (nI (z 1)) (nI (z 14)) (nI r) (nI s) (nI (e - s)) f) g (PA g.1 k) (nI (cuN (cueW g.1) k 0)) (oI (nxO (cueW g.1) k 0)) (nI r) (nI s) (nI k) (g.1 (390 + k)) (g.1 (270 + k)) (if b = true then 1 else 0) = K (x3 + nI (e - s)) (PA g.1 e) (nI (cuN (cueW g.1) e 0)) (oI (nxO (cueW g.1) e 0)) (nI (r + 1)) := by
      intro b hb
      unfold f_L_areRows_155
      rw [T_w1 hI (show k < z 9 by omega), Option.bind_some, hrk, if_pos rfl]
      by_cases c : g.1 (390 + k) = PA g.1 k
      · rw [if_pos c]; exact f192 b hb
      · have c2 : k = s ∧ g.1 (390 + k) = PA g.1 k + 1 := by
          rcases Nat.eq_zero_or_pos k with q | q
          · exfalso
            refine c ?_
            unfold PA
            rw [if_pos q, q]
            exact hX.2.2.2.1.1 (by omega)
          · have epk : PA g.1 k = pasW g.1 (k - 1) := by unfold PA; rw [if_neg (by omega)]; rfl
            rcases Nat.lt_or_ge s k with y | y
            · exfalso
              refine c ?_
              rw [epk]
              exact rw_pas (pas := pasW g.1) (wd := z 0) s0.1 q (by rw [hrk, h2 (k - 1) (by omega) (by omega)])
            · refine ⟨by omega, ?_⟩
              have st := hX.2.2.2.1.2 (k - 1) (by omega)
              rw [show k - 1 + 1 = k by omega] at st
              rcases st with st | st
              · exact absurd (by rw [epk]; exact st) c
              · rw [epk]; exact st
        rw [if_neg c, if_pos c2.2, if_pos (show nI k = nI s by rw [c2.1])]
        exact f192 b hb
    rw [f_L_areRows_94, nI_add, show s + (e - s) = e by omega, if_neg (nI_ge (show k < e by omega) (by omega)), T_w2 hI (by omega), Option.bind_some, T_w3 hI (by omega), Option.bind_some, show (100 : Int32) = nI 100 from rfl, show (1 : Int32) = nI 1 from rfl, nI_mul, pk_sub s1.1, nI_mul, nI_add]
    by_cases c1 : 100 * r < z 14
    · rw [if_pos (nI_lt c1 (by omega))]
      unfold f_L_areRows_154
      have := f155 false (decide_eq_false (by omega)).symm
      exact this
    · rw [if_neg (nI_nlt (by omega) (by omega))]
      by_cases c2 : z 14 + 100 * (z 1 - 1) < 100 * r
      · rw [if_pos (nI_lt c2 (by omega))]
        unfold f_L_areRows_154
        have := f155 false (decide_eq_false (by omega)).symm
        exact this
      · rw [if_neg (nI_nlt (by omega) (by omega))]
        have := f155 true (decide_eq_true (by omega)).symm
        exact this
theorem E_300 {g : GS} {M : Nat} {z : Nat → Nat} (hM : M ≤ 80000) (hI : MI M g.1 z) : f_L_areRows_300 g (nI (stR (pasW g.1) (z 0) (z 9)).2) (nI (z 9)) (nI (z 9)) (PA g.1 (z 9)) (nI (cuN (cueW g.1) (z 9) 0)) (oI (nxO (cueW g.1) (z 9) 0)) (nI (z 14)) (nI (100 * ((stR (pasW g.1) (z 0) (z 9)).2 - z 1))) = some 1 := by
  obtain ⟨hS, hN, hw, h20, h25, T, P, hT, hTP, hX⟩ := id hI
  obtain ⟨n9, n10, n11, n12, n13, n14, n20⟩ := id hN
  obtain ⟨s0, s1, s2, s3, s4, s5, s6, s7, s8⟩ := id hS
  have hle := (stR_fact (pasW g.1) s0.1 (z 9)).2.1
  have e1 := hX.1
  have epa : PA g.1 (z 9) = g.1 (390 + (z 9 - 1)) := by unfold PA; rw [if_neg (by omega)]
  have d1 : 0 ≤ desI (rwR (pasW g.1) (z 0) (esW g.1 z)) (z 1) (z 2) (stR (pasW g.1) (z 0) (z 9)).2 := by unfold desI; omega
  have d2 : desI (rwR (pasW g.1) (z 0) (esW g.1 z)) (z 1) (z 2) (stR (pasW g.1) (z 0) (z 9)).2 ≤ ((100 * ((stR (pasW g.1) (z 0) (z 9)).2 - z 1) : Nat) : Int) := by unfold desI; omega
  have t9 := T_t9 (by omega) hI
  generalize desI (rwR (pasW g.1) (z 0) (esW g.1 z)) (z 1) (z 2) (stR (pasW g.1) (z 0) (z 9)).2 = D at d1 d2 t9
  unfold f_L_areRows_300
  rw [if_pos rfl, T_t2 (by omega) hI, Option.bind_some, epa, Int32.add_sub_cancel, if_pos rfl, T_t3 (by omega) hI, Option.bind_some, if_pos rfl, T_t16 (by omega) hI, Option.bind_some, if_pos rfl, if_neg (nI_pos (by omega)), if_neg (nI_nlt e1 (by omega)), t9, Option.bind_some, if_neg (show ¬ iI D < 0 by rw [show (0 : Int32) = iI 0 by decide, iI_lt (by omega)]; omega), Option.bind_some, if_neg (show ¬ nI (100 * ((stR (pasW g.1) (z 0) (z 9)).2 - z 1)) < iI D by rw [nI_iI, iI_lt (by omega)]; omega), T_rowN hI, Option.bind_some, if_pos rfl]
theorem E_r42 {g : GS} {M : Nat} {z : Nat → Nat} (hM : M ≤ 80000) (hI : MI M g.1 z) : ∀ m r s f, r + m = (stR (pasW g.1) (z 0) (z 9)).2 → m < f → s ≤ z 9 → (∀ j, j < s → rwR (pasW g.1) (z 0) j < r) → (∀ j, s ≤ j → j < z 9 → r ≤ rwR (pasW g.1) (z 0) j) → f_L_areRows_42 g (nI (stR (pasW g.1) (z 0) (z 9)).2) (nI (z 9)) (nI (z 1)) (nI (z 14)) f (nI s) (PA g.1 s) (nI (cuN (cueW g.1) s 0)) (oI (nxO (cueW g.1) s 0)) (nI r) = some 1 := by
  obtain ⟨hS, hN, hw, h20, h25, T, P, hT, hTP, hX⟩ := id hI
  obtain ⟨n9, n10, n11, n12, n13, n14, n20⟩ := id hN
  obtain ⟨s0, s1, s2, s3, s4, s5, s6, s7, s8⟩ := id hS
  have hle := (stR_fact (pasW g.1) s0.1 (z 9)).2.1
  intro m
  induction m with
  | zero =>
    intro r s f hr hf hs a1 a2
    obtain ⟨f, rfl⟩ : ∃ y, f = y + 1 := ⟨f - 1, by omega⟩
    have hs9 : s = z 9 := by
      rcases Nat.lt_or_ge s (z 9) with y | y
      · have b1 := a2 s (Nat.le_refl _) y
        have b2 := rwR_lt (pas := pasW g.1) s0.1 y
        omega
      · omega
    subst hs9
    have fin := E_300 hM hI
    rw [f_L_areRows_42, if_pos (nI_le (by omega) (by omega))]
    by_cases c : z 1 ≤ (stR (pasW g.1) (z 0) (z 9)).2
    · rw [if_pos (nI_le c (by omega)), pk_sub c, show (100 : Int32) = nI 100 from rfl, nI_mul]
      exact fin
    · rw [if_neg (nI_ge (by omega) (by omega))]
      rw [show 100 * ((stR (pasW g.1) (z 0) (z 9)).2 - z 1) = 0 by omega] at fin
      exact fin
  | succ m ih =>
    intro r s f hr hf hs a1 a2
    obtain ⟨f, rfl⟩ : ∃ y, f = y + 1 := ⟨f - 1, by omega⟩
    obtain ⟨s', e, b1, b2, b3, b4, b5, b6, b7⟩ := T_row hI (r := r) (by omega)
    have hss : s' = s := by
      rcases Nat.lt_or_ge s' s with y | y
      · have q1 := a1 s' y
        have q2 := b4 s' (Nat.le_refl _) b1
        omega
      · rcases Nat.lt_or_ge s s' with y2 | y2
        · have q1 := b3 s y2
          have q2 := a2 s (Nat.le_refl _) (by omega)
          omega
        · omega
    subst hss
    have hlen := rw_len (pas := pasW g.1) (wd := z 0) s0.1 b4 (e - s') (by omega) (by omega)
    rw [show s' + (e - s') = e by omega] at hlen
    have hwd := (stR_fact (pasW g.1) s0.1 e).1
    have ts : g_setting 0 g = some (nI (z 0)) := T_s hI (k := 0) (by omega)
    have nx := ih (r + 1) e f (by omega) (by omega) b2 (fun j hj => by
      rcases Nat.lt_or_ge j s' with y | y
      · have := b3 j y; omega
      · have := b4 j y hj; omega) (fun j hj hj2 => by have := b5 j hj hj2; omega)
    rw [f_L_areRows_42, if_neg (nI_ge (by omega) (by omega)), b6, Option.bind_some, b7, Option.bind_some, if_pos rfl, if_neg (show ¬ nI (e - s') < 1 from nI_nlt (b := 1) (by omega) (by omega)), ts, Option.bind_some, if_pos (nI_le (by omega) (by omega))]
    have k := E_r94 hM hI b1 b2 b3 b4 (f_L_areRows_42 g (nI (stR (pasW g.1) (z 0) (z 9)).2) (nI (z 9)) (nI (z 1)) (nI (z 14)) f) (nI s') (e - s') s' gas (by omega) (Nat.le_refl _) (by unfold gas; omega)
    rw [k, nI_add, show s' + (e - s') = e by omega]
    exact nx
theorem L_areRows {g : GS} {M : Nat} {z : Nat → Nat} (hM : M ≤ 80000) (hI : MI M g.1 z) : f_L_areRows g = some 1 := by
  obtain ⟨hS, hN, hw, h20, h25, T, P, hT, hTP, hX⟩ := id hI
  obtain ⟨n9, n10, n11, n12, n13, n14, n20⟩ := id hN
  obtain ⟨s0, s1, s2, s3, s4, s5, s6, s7, s8⟩ := id hS
  have hle := (stR_fact (pasW g.1) s0.1 (z 9)).2.1
  have ts : g_setting 1 g = some (nI (z 1)) := T_s hI (k := 1) (by omega)
  unfold f_L_areRows
  rw [T_t1 (by omega) hI, Option.bind_some, T_t0 (by omega) hI, Option.bind_some, ts, Option.bind_some, T_t8 (by omega) hI, Option.bind_some]
  have := E_r42 hM hI (stR (pasW g.1) (z 0) (z 9)).2 0 0 gas (by omega) (by unfold gas; omega) (Nat.zero_le _) (fun j hj => absurd hj (Nat.not_lt_zero _)) (fun j _ _ => Nat.zero_le _)
  rw [show oI (nxO (cueW g.1) 0 0) = (-9 : Int32) from m9.symm] at this
  exact this
