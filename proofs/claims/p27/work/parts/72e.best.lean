/-! isBest, of a ghost -/
theorem btr_i {L K : Nat → Int32} {kc p j b : Nat} : btr L K kc p j b = true ↔ (sc L K kc b < sc L K kc j ∨ (sc L K kc j = sc L K kc b ∧ dst p j < dst p b)) := by
  unfold btr
  rw [Bool.or_eq_true, Bool.and_eq_true, decide_eq_true_eq, decide_eq_true_eq, decide_eq_true_eq]
def cnd (L : Nat → Int32) (p bk ah : Nat) (x : Int32) (j : Nat) : Prop := L j = x ∧ p ≤ j + bk ∧ j ≤ p + ah
def bsI (L K : Nat → Int32) (kc p bk ah : Nat) (x : Int32) (k : Nat) (b : Option Nat) : Prop := (b = none → ∀ j, j < k → ¬ cnd L p bk ah x j) ∧ ∀ i, b = some i → i < k ∧ cnd L p bk ah x i ∧ ∀ j, j < k → cnd L p bk ah x j → sc L K kc j < sc L K kc i ∨ (sc L K kc j = sc L K kc i ∧ (dst p i < dst p j ∨ (dst p i = dst p j ∧ i ≤ j)))
theorem bsM_I (L K : Nat → Int32) (kc p bk ah : Nat) (x : Int32) : ∀ m k b, bsI L K kc p bk ah x k b → bsI L K kc p bk ah x (k + m) (bsM L K kc p bk ah x m k b) := by
  intro m
  induction m with
  | zero => intro k b h; exact h
  | succ m ih =>
    intro k b h
    show bsI L K kc p bk ah x (k + (m + 1)) (bsM L K kc p bk ah x m (k + 1) (if L k = x ∧ p ≤ k + bk ∧ k ≤ p + ah then bst L K kc p k b else b))
    rw [show k + (m + 1) = k + 1 + m by omega]
    refine ih (k + 1) _ ?_
    obtain ⟨h1, h2⟩ := h
    by_cases c : L k = x ∧ p ≤ k + bk ∧ k ≤ p + ah
    · rw [if_pos c]
      have hk : cnd L p bk ah x k := c
      cases b with
      | none =>
        refine ⟨fun q => (by cases q), fun i hi => ?_⟩
        have hi : some k = some i := hi
        cases hi
        refine ⟨by omega, hk, fun j hj hc => ?_⟩
        rcases Nat.lt_or_ge j k with y | y
        · exact absurd hc (h1 rfl j y)
        · rw [show j = k by omega]; exact Or.inr ⟨rfl, Or.inr ⟨rfl, Nat.le_refl _⟩⟩
      | some b =>
        obtain ⟨g1, g2, g3⟩ := h2 b rfl
        by_cases d : btr L K kc p k b = true
        · rw [bst_yes d]
          refine ⟨fun q => (by cases q), fun i hi => ?_⟩
          cases hi
          have d := btr_i.mp d
          refine ⟨by omega, hk, fun j hj hc => ?_⟩
          rcases Nat.lt_or_ge j k with y | y
          · have := g3 j y hc
            omega
          · rw [show j = k by omega]; exact Or.inr ⟨rfl, Or.inr ⟨rfl, Nat.le_refl _⟩⟩
        · rw [bst_no d]
          refine ⟨fun q => (by cases q), fun i hi => ?_⟩
          cases hi
          have d : ¬ (sc L K kc b < sc L K kc k ∨ (sc L K kc k = sc L K kc b ∧ dst p k < dst p b)) := fun q => d (btr_i.mpr q)
          refine ⟨by omega, g2, fun j hj hc => ?_⟩
          rcases Nat.lt_or_ge j k with y | y
          · exact g3 j y hc
          · rw [show j = k by omega]; omega
    · rw [if_neg c]
      refine ⟨fun q j hj hc => ?_, fun i hi => ?_⟩
      · rcases Nat.lt_or_ge j k with y | y
        · exact h1 q j y hc
        · rw [show j = k by omega] at hc; exact c hc
      · obtain ⟨g1, g2, g3⟩ := h2 i hi
        refine ⟨by omega, g2, fun j hj hc => ?_⟩
        rcases Nat.lt_or_ge j k with y | y
        · exact g3 j y hc
        · rw [show j = k by omega] at hc; exact absurd hc c
theorem bW_I {M : Nat} {w : Nat → Int32} {z : Nat → Nat} (hI : MI M w z) (x : Int32) : bsI (letW w) (kepW w) (z 20) (z 11) (z 3) (z 4) x (z 9) (bW w z x) := by
  obtain ⟨hS, hN, hw, h20, h25, T, P, hT, hTP, hX⟩ := id hI
  obtain ⟨n9, n10, n11, n12, n13, n14, n20⟩ := id hN
  obtain ⟨s0, s1, s2, s3, s4, s5, s6, s7, s8⟩ := id hS
  unfold bW
  rw [← bsM_all (letW w) (kepW w) (kc := z 20) (bk := z 3) x n11 n9 s4.1]
  have := bsM_I (letW w) (kepW w) (z 20) (z 11) (z 3) (z 4) x (z 9) 0 none ⟨fun _ j hj => absurd hj (Nat.not_lt_zero _), fun i hi => (by cases hi)⟩
  rw [Nat.zero_add] at this
  exact this
theorem B_hear {g : GS} (hM : gM g ≤ 80000) (h : GI g) {x : Int32} (hx : f_X3_isLetter x = some 1) : ∃ v w' z z', g_hear x g = some (v, gW g w' (gM g) (some g.1)) ∧ MI (gM g) g.1 z ∧ MI (gM g) w' z' ∧ HF g.1 z x v (g.1 11) (w' 11) (g.1 15) (w' 15) (g.1 16) (w' 16) (g.1 17) (w' 17) ∧ 0 < z' 20 ∧ w' 21 = x := by
  obtain ⟨S, hS⟩ := h.1
  obtain ⟨v, cu', pr', ti', po', ke', kc', ps', sp', hd', sk', rp', ms', ov', u', hr', PS', w', past', m', a, b, c, d, e, ⟨z, f1, f2⟩, l1, k, l2, l3⟩ := P_hearG (by omega) hS (HISE0 _ (fun _ _ _ => 0)) x hx
  obtain ⟨y, -, e1, e2, e3, e4, e5, e6, e7, e8, e9, e10, e11, e12, e13, e14, e15, e16, e17, e18, e19, e20, e21, e22⟩ := hS
  obtain ⟨z', i1, j1, j2, j3, j4, j5, j6, j7, j8, j9, j10, j11, j12, j13, j14, j15, j16, j17, j18, j19, j20, j21, j22⟩ := c
  have h20 := i1.2.2.2.1
  have h4 := i1.2.1.2.2.2.2.2.2
  have hz : z' 20 = k + 1 := by
    have q : nI (z' 20) = nI (k + 1) := by rw [← h20, ← j12, l2]
    exact (nI_eq (by omega) (by omega)).mp q
  refine ⟨v, w', z, z', ?_, f1, i1, ?_, by omega, ?_⟩
  · unfold g_hear
    rw [if_pos hx, b, Option.bind_some]
  · rw [← e13, ← e18, ← e19, ← e20, ← j13, ← j18, ← j19, ← j20]
    exact f2
  · have := j11 0 (by omega)
    rw [← l1]
    exact this.symm
def hcN (L : Nat → Int32) (p bk ah : Nat) (x : Int32) : Nat → Bool
  | 0 => false
  | k + 1 => hcN L p bk ah x k || (decide (L k = x) && (decide (p ≤ k + bk) && decide (k ≤ p + ah)))
theorem hcN_i {L : Nat → Int32} {p bk ah : Nat} {x : Int32} : ∀ k, hcN L p bk ah x k = true ↔ ∃ j, j < k ∧ cnd L p bk ah x j := by
  intro k
  induction k with
  | zero => exact ⟨fun h => (by cases h), fun ⟨j, hj, _⟩ => absurd hj (Nat.not_lt_zero _)⟩
  | succ k ih =>
    unfold hcN
    rw [Bool.or_eq_true, Bool.and_eq_true, Bool.and_eq_true, decide_eq_true_eq, decide_eq_true_eq, decide_eq_true_eq, ih]
    constructor
    · rintro (⟨j, h1, h2⟩ | h)
      · exact ⟨j, by omega, h2⟩
      · exact ⟨k, by omega, h⟩
    · rintro ⟨j, h1, h2⟩
      rcases Nat.lt_or_ge j k with y | y
      · exact Or.inl ⟨j, y, h2⟩
      · rw [show j = k by omega] at h2; exact Or.inr h2
theorem bI_eq {b : Bool} {c : Int32} (h : c = if b = true then (1 : Int32) else 0) (hb : b = true) : c = 1 := by rw [h, if_pos hb]
theorem dstS {p k : Nat} (hp : p ≤ 120) (hk : k ≤ 120) : (if nI k ≤ nI p then nI p - nI k else nI k - nI p) = nI (dst p k) := by
  unfold dst
  by_cases c : k ≤ p
  · rw [if_pos (nI_le c (by omega)), pk_sub c]
    by_cases d : p ≤ k
    · rw [if_pos d, show p - k = k - p by omega]
    · rw [if_neg d]
  · rw [if_neg (nI_ge (by omega) (by omega)), pk_sub (by omega), if_pos (by omega)]
theorem E_100 {K : Int32 → Int32 → Option (Int32 × GS)} {g : GS} {M : Nat} {z : Nat → Nat} (hI : MI M g.1 z) {x : Int32} {b k : Nat} (hb : bW g.1 z x = some b) (hk : k < z 9) (hc : cnd (letW g.1) (z 11) (z 3) (z 4) x k) (x6 : Int32) : f_L_isBest_100 K (nI (z 11)) (nI b) (nI (sc (letW g.1) (kepW g.1) (z 20) b)) x6 (nI k) (nI (dst (z 11) k)) g = K x6 (nI (k + 1)) := by
  obtain ⟨hS, hN, hw, h20, h25, T, P, hT, hTP, hX⟩ := id hI
  obtain ⟨n9, n10, n11, n12, n13, n14, n20⟩ := id hN
  obtain ⟨s0, s1, s2, s3, s4, s5, s6, s7, s8⟩ := id hS
  have hbn := bW_lt hI hb
  obtain ⟨q1, q2, q3⟩ := (bW_I hI x).2 b hb
  have q := q3 k hk hc
  have hs1 := sc_le (letW g.1) (kepW g.1) (z 20) k
  have hs2 := sc_le (letW g.1) (kepW g.1) (z 20) b
  have hdk : dst (z 11) k ≤ 120 := by unfold dst; split <;> omega
  have hdb : dst (z 11) b ≤ 120 := by unfold dst; split <;> omega
  have e116 : f_L_isBest_116 K (nI b) (nI (sc (letW g.1) (kepW g.1) (z 20) b)) x6 (nI k) (nI (dst (z 11) k)) (nI (dst (z 11) b)) g = K x6 (nI (k + 1)) := by
    unfold f_L_isBest_116
    rw [if_neg (nI_pos (by omega)), T_sc hI hk, Option.bind_some, if_neg (nI_nlt (by omega) (by omega)), Option.bind_some, nI_1]
    by_cases c : nI (sc (letW g.1) (kepW g.1) (z 20) k) = nI (sc (letW g.1) (kepW g.1) (z 20) b)
    · have c' := (nI_eq (by omega) (by omega)).mp c
      rw [if_pos c, if_neg (nI_nlt (by omega) (by omega))]
      by_cases d : nI (dst (z 11) k) = nI (dst (z 11) b)
      · have d' := (nI_eq (by omega) (by omega)).mp d
        rw [if_pos d, if_pos (nI_le (by omega) (by omega))]
      · rw [if_neg d]
    · rw [if_neg c]
  unfold f_L_isBest_100
  have := dstS (p := z 11) (k := b) (by omega) (by omega)
  by_cases c : nI b ≤ nI (z 11)
  · rw [if_pos c] at this
    rw [if_pos c, this]
    exact e116
  · rw [if_neg c] at this
    rw [if_neg c, this]
    exact e116
theorem E_35 {g : GS} {M : Nat} {z : Nat → Nat} (hM : M ≤ 80000) (hI : MI M g.1 z) {x x4 x5 : Int32} (h4 : ∀ b, bW g.1 z x = some b → x4 = nI (sc (letW g.1) (kepW g.1) (z 20) b)) : ∀ m k f, k + m = z 9 → m < f → f_L_isBest_35 x (nI (z 11)) (oI (bW g.1 z x)) x4 x5 g f (if hcN (letW g.1) (z 11) (z 3) (z 4) x k = true then 1 else 0) (nI k) = (if bW g.1 z x = none then f_L_isBest_183 x (nI (z 11)) (-9) x4 x5 0 0 0 g else f_L_isBest_183 x (nI (z 11)) (oI (bW g.1 z x)) x4 x5 1 1 1 g) := by
  obtain ⟨hS, hN, hw, h20, h25, T, P, hT, hTP, hX⟩ := id hI
  obtain ⟨n9, n10, n11, n12, n13, n14, n20⟩ := id hN
  obtain ⟨s0, s1, s2, s3, s4, s5, s6, s7, s8⟩ := id hS
  have hB := bW_I hI x
  intro m
  induction m with
  | zero =>
    intro k f hk hf
    obtain ⟨f, rfl⟩ : ∃ y, f = y + 1 := ⟨f - 1, by omega⟩
    obtain rfl : k = z 9 := by omega
    rw [f_L_isBest_35, T_t0 (by omega) hI, Option.bind_some, if_pos (nI_le (Nat.le_refl _) (by omega))]
    cases hb : bW g.1 z x with
    | none =>
      have hc : ¬ hcN (letW g.1) (z 11) (z 3) (z 4) x (z 9) = true := fun q => by
        obtain ⟨j, j1, j2⟩ := (hcN_i _).mp q
        exact hB.1 hb j j1 j2
      rw [if_neg hc, show oI none = (-9 : Int32) from m9.symm, if_pos (show (-9 : Int32) < 0 by decide), if_pos rfl]
    | some b =>
      obtain ⟨q1, q2, q3⟩ := hB.2 b hb
      have hc : hcN (letW g.1) (z 11) (z 3) (z 4) x (z 9) = true := (hcN_i _).mpr ⟨b, q1, q2⟩
      rw [if_pos hc, show oI (some b) = nI b from rfl, if_neg (nI_pos (by omega)), if_neg (show ¬ some b = none from fun q => by cases q)]
  | succ m ih =>
    intro k f hk hf
    obtain ⟨f, rfl⟩ : ∃ y, f = y + 1 := ⟨f - 1, by omega⟩
    have nx := ih (k + 1) f (by omega) (by omega)
    have skip : ¬ cnd (letW g.1) (z 11) (z 3) (z 4) x k → f_L_isBest_35 x (nI (z 11)) (oI (bW g.1 z x)) x4 x5 g f (if hcN (letW g.1) (z 11) (z 3) (z 4) x k = true then 1 else 0) (nI (k + 1)) = (if bW g.1 z x = none then f_L_isBest_183 x (nI (z 11)) (-9) x4 x5 0 0 0 g else f_L_isBest_183 x (nI (z 11)) (oI (bW g.1 z x)) x4 x5 1 1 1 g) := by
      intro hn
      have e : hcN (letW g.1) (z 11) (z 3) (z 4) x (k + 1) = hcN (letW g.1) (z 11) (z 3) (z 4) x k := by
        rw [Bool.eq_iff_iff, hcN_i, hcN_i]
        constructor
        · rintro ⟨j, h1, h2⟩
          rcases Nat.lt_or_ge j k with y | y
          · exact ⟨j, y, h2⟩
          · rw [show j = k by omega] at h2; exact absurd h2 hn
        · rintro ⟨j, h1, h2⟩; exact ⟨j, by omega, h2⟩
      rw [e] at nx
      exact nx
    rw [f_L_isBest_35, T_t0 (by omega) hI, Option.bind_some, if_neg (nI_ge (by omega) (by omega)), T_w0 hI (by omega), Option.bind_some, nI_1]
    by_cases c1 : g.1 (150 + k) = x
    · have t3 : g_setting 3 g = some (nI (z 3)) := T_s hI (k := 3) (by omega)
      have t4 : g_setting 4 g = some (nI (z 4)) := T_s hI (k := 4) (by omega)
      have cw : (nI k < nI (z 11) - nI (z 3)) ↔ (k : Int) < (z 11 : Int) - (z 3 : Int) := by
        rw [nI_iI (z 11), nI_iI (z 3), nI_iI k, iI_sub, iI_lt (by omega)]
      rw [if_pos c1, t3, Option.bind_some]
      by_cases c2 : (k : Int) < (z 11 : Int) - (z 3 : Int)
      · rw [if_pos (cw.mpr c2)]
        exact skip (fun q => by have := q.2.1; omega)
      · rw [if_neg (fun q => c2 (cw.mp q)), t4, Option.bind_some, nI_add]
        by_cases c3 : z 11 + z 4 < k
        · rw [if_pos (nI_lt c3 (by omega))]
          exact skip (fun q => by have := q.2.2; omega)
        · rw [if_neg (nI_nlt (by omega) (by omega))]
          have hc : cnd (letW g.1) (z 11) (z 3) (z 4) x k := ⟨c1, by omega, by omega⟩
          have hh : hcN (letW g.1) (z 11) (z 3) (z 4) x (k + 1) = true := (hcN_i _).mpr ⟨k, by omega, hc⟩
          rw [if_pos hh] at nx
          cases hb : bW g.1 z x with
          | none => exact absurd hc (hB.1 hb k (by omega))
          | some b =>
            have e := E_100 (K := f_L_isBest_35 x (nI (z 11)) (nI b) x4 x5 g f) hI hb (k := k) (by omega) hc 1
            rw [← h4 b hb] at e
            rw [hb] at nx
            have nx' : f_L_isBest_35 x (nI (z 11)) (nI b) x4 x5 g f 1 (nI (k + 1)) = _ := nx
            rw [nx'] at e
            have d := dstS (p := z 11) (k := k) (by omega) (by omega)
            show (if nI k ≤ nI (z 11) then f_L_isBest_100 (f_L_isBest_35 x (nI (z 11)) (nI b) x4 x5 g f) (nI (z 11)) (nI b) x4 1 (nI k) (nI (z 11) - nI k) g else f_L_isBest_100 (f_L_isBest_35 x (nI (z 11)) (nI b) x4 x5 g f) (nI (z 11)) (nI b) x4 1 (nI k) (nI k - nI (z 11)) g) = _
            by_cases c4 : nI k ≤ nI (z 11)
            · rw [if_pos c4] at d
              rw [if_pos c4, d]; exact e
            · rw [if_neg c4] at d
              rw [if_neg c4, d]; exact e
    · rw [if_neg c1]
      exact skip (fun q => c1 q.1)
theorem clr_eq {g : GS} (h : gT g = none) : clr g = g := by
  obtain ⟨w, tx, L, im, fb, M, tp⟩ := g
  have h : tp = none := h
  subst h
  rfl
theorem L_isBest {g : GS} (hM : gM g ≤ 80000) (h : GI g) {x : Int32} (hx : f_X3_isLetter x = some 1) : f_L_isBest x g = some (1, g) := by
  obtain ⟨v, w', z, z', eh, hI, hI', hF, hk, h21⟩ := B_hear hM h hx
  obtain ⟨hS, hN, hw, h20, h25, T, P, hT, hTP, hX⟩ := id hI
  obtain ⟨n9, n10, n11, n12, n13, n14, n20⟩ := id hN
  obtain ⟨s0, s1, s2, s3, s4, s5, s6, s7, s8⟩ := id hS
  obtain ⟨b0, bN, bS⟩ := T_b hI hx
  have hg0 : gW (gW g w' (gM g) (some g.1)) g.1 (gM g) none = g := clr_eq (g := g) h.2.2.2
  have fin : f_L_isBest_388 (nI (z 11)) 1 (gW g w' (gM g) (some g.1)) = some (1, g) := by
    unfold f_L_isBest_388
    rw [show g_undo (gW g w' (gM g) (some g.1)) = some (0, g) from congrArg (fun q => some ((0 : Int32), q)) hg0, Option.bind_some, if_neg (show ¬ (0 : Int32) < 0 by decide), if_neg (show ¬ (1 : Int32) = 0 by decide)]
    show (g_told 5 g).bind _ = _
    rw [T_t5 (by omega) hI, Option.bind_some, if_pos rfl]
  have hd0 : g_heard 0 (gW g w' (gM g) (some g.1)) = some x := by
    have := T_h (g := gW g w' (gM g) (some g.1)) hI' (k := 0) hk
    rw [show (gW g w' (gM g) (some g.1)).1 (21 + 0) = x from h21] at this
    exact this
  have u10 : g_told 10 (gW g w' (gM g) (some g.1)) = some (w' 15) := T_t10 (by omega) hI'
  have u11 : g_told 11 (gW g w' (gM g) (some g.1)) = some (w' 16) := T_t11 (by omega) hI'
  have u12 : g_told 12 (gW g w' (gM g) (some g.1)) = some (w' 17) := T_t12 (by omega) hI'
  have f371 : ∀ s, f_L_isBest_371 x (nI (z 11)) s s (gW g w' (gM g) (some g.1)) = some (1, g) := fun s => by
    unfold f_L_isBest_371
    rw [if_pos rfl, hd0, Option.bind_some, if_pos rfl]
    exact fin
  -- not accepted, or no candidate
  have no : ∀ b x5 : Int32, v = -9 → w' 15 = g.1 15 → w' 16 = g.1 16 → w' 17 = g.1 17 + 1 → f_L_isBest_274 x (nI (z 11)) b (g.1 15) (g.1 16) (g.1 17) v (gW g w' (gM g) (some g.1)) = some (1, g) := by
    intro b x5 hv a1 a2 a3
    unfold f_L_isBest_274 f_L_isBest_275
    rw [if_pos rfl]
    unfold f_L_isBest_292
    rw [if_pos hv, u12, Option.bind_some, if_pos rfl]
    unfold f_L_isBest_315
    rw [if_pos a3, u10, Option.bind_some, if_pos rfl]
    unfold f_L_isBest_341 f_L_isBest_343
    rw [if_pos a1, u11, Option.bind_some, if_pos rfl]
    unfold f_L_isBest_369
    rw [a2]
    exact f371 _
  have t10 := T_t10 (by omega) hI
  have t11 := T_t11 (by omega) hI
  have t12 := T_t12 (by omega) hI
  unfold f_L_isBest
  rw [T_t5 (by omega) hI, Option.bind_some, b0, Option.bind_some]
  cases hb : bW g.1 z x with
  | none =>
    obtain ⟨c1, c2⟩ := bN hb
    have l := E_35 (x := x) (x4 := -9) (x5 := -9) hM hI (fun b q => by rw [hb] at q; cases q) (z 9) 0 gas (by omega) (by unfold gas; omega)
    rw [hb, if_pos rfl] at l
    rw [c1, Option.bind_some, c2, Option.bind_some]
    have l' : f_L_isBest_35 x (nI (z 11)) (oI none) (-9) (-9) g gas 0 0 = _ := l
    rw [l']
    unfold f_L_isBest_183
    rw [if_pos rfl, if_pos rfl]
    unfold f_L_isBest_228
    rw [t10, Option.bind_some, t11, Option.bind_some, t12, Option.bind_some, eh, Option.bind_some, if_pos rfl]
    rcases hF with ⟨q0, q1, q2, q3, q4, q5⟩ | ⟨j, q0, q1⟩
    · exact no _ 0 q1 q3 q4 q5
    · rw [hb] at q0; cases q0
  | some b =>
    obtain ⟨c1, c2⟩ := bS b hb
    have hbn := bW_lt hI hb
    have hs := sc_le (letW g.1) (kepW g.1) (z 20) b
    have l := E_35 (x := x) (x4 := nI (sc (letW g.1) (kepW g.1) (z 20) b)) (x5 := if aW g.1 z b = true then 1 else 0) hM hI (fun b' q => by rw [hb] at q; cases q; rfl) (z 9) 0 gas (by omega) (by unfold gas; omega)
    rw [hb, if_neg (show ¬ some b = none from fun q => by cases q)] at l
    rw [c1, Option.bind_some, c2, Option.bind_some]
    have l' : f_L_isBest_35 x (nI (z 11)) (oI (some b)) (nI (sc (letW g.1) (kepW g.1) (z 20) b)) (if aW g.1 z b = true then 1 else 0) g gas 0 0 = _ := l
    rw [l']
    show f_L_isBest_183 x (nI (z 11)) (nI b) (nI (sc (letW g.1) (kepW g.1) (z 20) b)) (if aW g.1 z b = true then 1 else 0) 1 1 1 g = _
    have t5 : g_setting 5 g = some (nI (z 5)) := T_s hI (k := 5) (by omega)
    have f228 : f_L_isBest_228 x (nI (z 11)) (nI b) (if aW g.1 z b = true then 1 else 0) 1 g = some (1, g) := by
      unfold f_L_isBest_228
      rw [t10, Option.bind_some, t11, Option.bind_some, t12, Option.bind_some, eh, Option.bind_some, if_neg (show ¬ (1 : Int32) = 0 by decide)]
      rcases hF with ⟨q0, q1, q2, q3, q4, q5⟩ | ⟨j, q0, qa, q1, q2, q3, q4, q5⟩
      · have na := q0 b hb
        rw [if_neg na, if_neg (show ¬ (0 : Int32) = 1 by decide)]
        exact no _ 0 q1 q3 q4 q5
      · rw [hb] at q0
        cases q0
        rw [if_pos qa, if_pos rfl]
        unfold f_L_isBest_275
        rw [if_neg (show ¬ (1 : Int32) = 0 by decide)]
        unfold f_L_isBest_292
        rw [if_pos (show v = nI b + 1 by rw [q1, nI_1]), u12, Option.bind_some, if_neg (show ¬ (1 : Int32) = 0 by decide)]
        unfold f_L_isBest_315
        rw [if_pos q5, u10, Option.bind_some, if_neg (show ¬ (1 : Int32) = 0 by decide)]
        have f343 : ∀ s, f_L_isBest_343 x (nI (z 11)) (nI b) (g.1 16) 1 s s (gW g w' (gM g) (some g.1)) = some (1, g) := by
          intro s
          unfold f_L_isBest_343
          rw [if_pos rfl, u11, Option.bind_some, if_neg (show ¬ (1 : Int32) = 0 by decide)]
          by_cases d : z 11 ≤ b
          · rw [if_pos (nI_le d (by omega))]
            unfold f_L_isBest_369
            rw [q4, if_neg (by omega)]
            exact f371 _
          · rw [if_neg (nI_ge (by omega) (by omega)), q4, if_pos (by omega)]
            exact f371 _
        by_cases d : b ≤ z 11
        · rw [if_pos (nI_le d (by omega))]
          unfold f_L_isBest_341
          rw [q3, if_neg (by omega)]
          exact f343 _
        · rw [if_neg (nI_ge (by omega) (by omega)), q3, if_pos (by omega)]
          exact f343 _
    unfold f_L_isBest_183
    rw [if_pos rfl, if_neg (show ¬ (1 : Int32) = 0 by decide), T_sc hI hbn, Option.bind_some, if_pos rfl]
    have f218 : aW g.1 z b = true → f_L_isBest_218 x (nI (z 11)) (nI b) (if aW g.1 z b = true then 1 else 0) 1 (if aW g.1 z b = true then 1 else 0) g = some (1, g) := by
      intro ha
      unfold f_L_isBest_218 f_L_isBest_223
      rw [if_pos (show (if aW g.1 z b = true then (1 : Int32) else 0) = 1 by rw [if_pos ha])]
      exact f228
    have hacc : aW g.1 z b = true ↔ (b = z 11 ∨ z 5 ≤ sc (letW g.1) (kepW g.1) (z 20) b) := by
      unfold aW acc
      rw [Bool.or_eq_true, decide_eq_true_eq, beq_iff_eq]
    by_cases d : nI b = nI (z 11)
    · rw [if_pos d]
      exact f218 (hacc.mpr (Or.inl ((nI_eq (by omega) (by omega)).mp d)))
    · rw [if_neg d, t5, Option.bind_some]
      by_cases e : sc (letW g.1) (kepW g.1) (z 20) b < z 5
      · rw [if_pos (nI_lt e (by omega))]
        unfold f_L_isBest_223
        have na : ¬ aW g.1 z b = true := fun q => by
          rcases hacc.mp q with y | y
          · exact d (by rw [y])
          · omega
        rw [if_pos (show (if aW g.1 z b = true then (1 : Int32) else 0) = 0 by rw [if_neg na])]
        exact f228
      · rw [if_neg (nI_nlt (by omega) (by omega))]
        exact f218 (hacc.mpr (Or.inr (by omega)))
