/-! the reference lays its rows -/
theorem lay59 (k9 : Int32 → Int32 → (Nat → Int32) → Int32 → Option ((Nat → Int32) × Int32)) (x1 x2 : Int32) (ro : Nat → Int32) (r : Int32) : f_X4_layRows_59 k9 x1 x2 ro r = f_X4_layRows_94 k9 x2 1 ro (r + 1) := by
  unfold f_X4_layRows_59 f_X4_layRows_64 f_X4_layRows_79
  rw [if_neg (by decide), if_neg (by decide)]
theorem lay64 (k9 : Int32 → Int32 → (Nat → Int32) → Int32 → Option ((Nat → Int32) × Int32)) (x1 x2 : Int32) (ro : Nat → Int32) (r : Int32) : f_X4_layRows_64 k9 x1 x2 0 ro r = f_X4_layRows_94 k9 x2 (x1 + 1) ro (r + 0) := by
  unfold f_X4_layRows_64 f_X4_layRows_79
  rw [if_pos rfl, if_pos rfl]
theorem P_layM_l {n wd : Nat} (hn : n ≤ 120) (hw : 1 ≤ wd ∧ wd ≤ 12) (w : Nat → Int32) (h9 : w 9 = nI n) (h0 : w 0 = nI wd) : ∀ m k g ro fi, k + m = n → m < g → laidR (fun j => w (390 + j)) wd k ro fi →
    ∃ ro' fi', f_X4_layRows_9 w g (nI (stR (fun j => w (390 + j)) wd k).1) (nI k) ro (nI (stR (fun j => w (390 + j)) wd k).2) = some (ro', nI (stR (fun j => w (390 + j)) wd n).2) ∧ laidR (fun j => w (390 + j)) wd n ro' fi' := by
  intro m
  induction m with
  | zero =>
    intro k g ro fi hk hg hl
    obtain ⟨g, rfl⟩ : ∃ z, g = z + 1 := ⟨g - 1, by omega⟩
    obtain rfl : k = n := by omega
    rw [f_X4_layRows_9, h9, if_pos (nI_le (Nat.le_refl _) (by omega))]
    exact ⟨ro, fi, rfl, hl⟩
  | succ m ih =>
    intro k g ro fi hk hg hl
    obtain ⟨g, rfl⟩ : ∃ z, g = z + 1 := ⟨g - 1, by omega⟩
    obtain ⟨f1, f2, f3⟩ := stR_fact (fun j => w (390 + j)) hw.1 k
    have hnew : nwR (fun j => w (390 + j)) wd (stR (fun j => w (390 + j)) wd k) k = true → ∃ ro' fi', f_X4_layRows_59 (f_X4_layRows_9 w g) (nI (stR (fun j => w (390 + j)) wd k).1) (nI k) ro (nI (stR (fun j => w (390 + j)) wd k).2) = some (ro', nI (stR (fun j => w (390 + j)) wd n).2) ∧ laidR (fun j => w (390 + j)) wd n ro' fi' := by
      intro h
      have e := stR_new h
      obtain ⟨ro', fi', h1, h2⟩ := ih (k + 1) g _ _ (by omega) (by omega) (laidR_new hw.1 hl h)
      refine ⟨ro', fi', ?_, h2⟩
      rw [lay59]
      unfold f_X4_layRows_94
      rw [if_neg (ixN (by omega) (by omega)), nI_clamp (by omega), nI_1, show (1 : Int32) = nI 1 from rfl, nI_add, pk_sub (by omega), Nat.add_sub_cancel]
      rw [e] at h1
      exact h1
    rw [f_X4_layRows_9, h9, if_neg (nI_ge (by omega) (by omega))]
    by_cases c1 : nI k = 0
    · rw [if_pos c1]
      refine hnew ?_
      have : k = 0 := by
        rcases Nat.eq_zero_or_pos k with z | z
        · exact z
        · exact absurd c1 (nI_ne0 z (by omega))
      unfold nwR
      rw [this]
      rfl
    · rw [if_neg c1]
      have hk0 : 0 < k := by
        rcases Nat.eq_zero_or_pos k with z | z
        · rw [z] at c1; exact absurd rfl c1
        · exact z
      rw [show (390 : Int32) = nI 390 from rfl, nI_add, if_neg (ixN (by omega) (by omega)), show (1 : Int32) = nI 1 from rfl, pk_sub (by omega), if_neg (ixN (by omega) (by omega)), nI_clamp (by omega), nI_clamp (by omega), show 390 + k - 1 = 390 + (k - 1) by omega]
      by_cases c3 : w (390 + k) = w (390 + (k - 1))
      · rw [if_pos c3, h0]
        by_cases c2 : nI (stR (fun j => w (390 + j)) wd k).1 = nI wd
        · rw [if_pos c2]
          refine hnew ?_
          have := (nI_eq (by omega) (by omega)).mp c2
          unfold nwR
          rw [this]
          simp
        · rw [if_neg c2]
          have c2' : ¬ (stR (fun j => w (390 + j)) wd k).1 = wd := fun q => c2 ((nI_eq (by omega) (by omega)).mpr q)
          have hold : ¬ nwR (fun j => w (390 + j)) wd (stR (fun j => w (390 + j)) wd k) k = true := by
            unfold nwR
            have z1 : (k == 0) = false := by simp; omega
            have z2 : ((stR (fun j => w (390 + j)) wd k).1 == wd) = false := by simp; omega
            rw [z1, z2, decide_eq_true c3]
            simp
          have e := stR_old hold
          obtain ⟨ro', fi', h1, h2⟩ := ih (k + 1) g _ _ (by omega) (by omega) (laidR_old hl hold)
          refine ⟨ro', fi', ?_, h2⟩
          have := (f3 hk0).2
          rw [show (0 : Int32) = nI 0 from rfl] at *
          rw [show nI 0 = (0 : Int32) from rfl, lay64]
          unfold f_X4_layRows_94
          rw [if_neg (ixN (by omega) (by omega)), nI_clamp (by omega), show (0 : Int32) = nI 0 from rfl, show (1 : Int32) = nI 1 from rfl, nI_add, nI_add, nI_add, Nat.add_zero, pk_sub (by omega)]
          rw [e] at h1
          exact h1
      · rw [if_neg c3]
        refine hnew ?_
        unfold nwR
        rw [decide_eq_false c3]
        simp
theorem P_layM {n wd : Nat} (hn : n ≤ 120) (hw : 1 ≤ wd ∧ wd ≤ 12) (w : Nat → Int32) (h9 : w 9 = nI n) (h0 : w 0 = nI wd) (ro fi : Nat → Int32) (r0 : Int32) : ∃ ro' fi', f_X4_layRows w ro r0 = some (ro', nI (stR (fun j => w (390 + j)) wd n).2) ∧ laidR (fun j => w (390 + j)) wd n ro' fi' := by
  unfold f_X4_layRows
  exact P_layM_l hn hw w h9 h0 n 0 gas ro fi (by omega) (by unfold gas; omega) ⟨fun j h => absurd h (Nat.not_lt_zero _), fun j h => absurd h (Nat.not_lt_zero _)⟩
/-! the score of a candidate -/
def scN (L K : Nat → Int32) (kc j : Nat) : Nat → Nat → Nat
  | 0, t => t
  | m + 1, t => if t ≤ kc ∧ t ≤ j ∧ K (t - 1) = L (j - t) then scN L K kc j m (t + 1) else t
theorem scN_le (L K : Nat → Int32) (kc j : Nat) : ∀ m t, t ≤ scN L K kc j m t ∧ scN L K kc j m t ≤ t + m := by
  intro m
  induction m with
  | zero => intro t; exact ⟨Nat.le_refl _, Nat.le_refl _⟩
  | succ m ih =>
    intro t
    unfold scN
    by_cases h : t ≤ kc ∧ t ≤ j ∧ K (t - 1) = L (j - t)
    · rw [if_pos h]
      have := ih (t + 1)
      omega
    · rw [if_neg h]
      omega
theorem scN_congr {L K L' K' : Nat → Int32} {kc j : Nat} (hL : ∀ i, i < j → L i = L' i) (hK : ∀ i, i < kc → K i = K' i) : ∀ m t, 1 ≤ t → scN L K kc j m t = scN L' K' kc j m t := by
  intro m
  induction m with
  | zero => intro t _; rfl
  | succ m ih =>
    intro t ht
    unfold scN
    by_cases h : t ≤ kc ∧ t ≤ j
    · rw [hL (j - t) (by omega), hK (t - 1) (by omega), ih (t + 1) (by omega)]
    · rw [if_neg (fun q => h ⟨q.1, q.2.1⟩), if_neg (fun q => h ⟨q.1, q.2.1⟩)]
def sc (L K : Nat → Int32) (kc j : Nat) : Nat := scN L K kc j 3 1
theorem sc_le (L K : Nat → Int32) (kc j : Nat) : 1 ≤ sc L K kc j ∧ sc L K kc j ≤ 4 := scN_le L K kc j 3 1
theorem P_points_l {kc j : Nat} (hkc : kc ≤ 4) (hj : j < 120) (L K : Nat → Int32) : ∀ m t g, t + m = 4 → 1 ≤ t → m < g → f_X1_points_2 L K (nI kc) (nI j) g (nI t) = some (nI (scN L K kc j m t)) := by
  intro m
  induction m with
  | zero =>
    intro t g ht h1 hg
    obtain ⟨g, rfl⟩ : ∃ z, g = z + 1 := ⟨g - 1, by omega⟩
    rw [f_X1_points_2, show (4 : Int32) = nI 4 from rfl, if_pos (nI_le (by omega) (by omega))]
    rfl
  | succ m ih =>
    intro t g ht h1 hg
    obtain ⟨g, rfl⟩ : ∃ z, g = z + 1 := ⟨g - 1, by omega⟩
    rw [f_X1_points_2, show (4 : Int32) = nI 4 from rfl, if_neg (nI_ge (by omega) (by omega))]
    unfold scN
    by_cases c1 : kc < t
    · rw [if_pos (nI_lt c1 (by omega)), if_neg (by omega)]
    · rw [if_neg (nI_nlt (by omega) (by omega))]
      by_cases c2 : j < t
      · rw [if_pos (nI_lt c2 (by omega)), if_neg (by omega)]
      · rw [if_neg (nI_nlt (by omega) (by omega)), show (1 : Int32) = nI 1 from rfl, pk_sub (by omega), P_at (by omega) (by omega), Option.bind_some, pk_sub (by omega), P_at (by omega) (by omega), Option.bind_some]
        by_cases c3 : K (t - 1) = L (j - t)
        · rw [if_pos c3, if_pos ⟨by omega, by omega, c3⟩, nI_add]
          exact ih (t + 1) g (by omega) (by omega) (by omega)
        · rw [if_neg c3, if_neg (fun q => c3 q.2.2)]
theorem P_points {kc j : Nat} (hkc : kc ≤ 4) (hj : j < 120) (L K : Nat → Int32) : f_X1_points (nI j) L K (nI kc) = some (nI (sc L K kc j)) := by
  unfold f_X1_points
  exact P_points_l hkc hj L K 3 1 gas (by omega) (by omega) (by unfold gas; omega)
theorem P_score_l {kc j : Nat} (hkc : kc ≤ 4) (hj : j < 120) (w : Nat → Int32) (h20 : w 20 = nI kc) : ∀ m t g, t + m = 4 → 1 ≤ t → m < g → f_X4_scoreOf_2 w (nI j) g (nI t) = some (nI (scN (fun i => w (150 + i)) (fun i => w (21 + i)) kc j m t)) := by
  intro m
  induction m with
  | zero =>
    intro t g ht h1 hg
    obtain ⟨g, rfl⟩ : ∃ z, g = z + 1 := ⟨g - 1, by omega⟩
    rw [f_X4_scoreOf_2, show (3 : Int32) = nI 3 from rfl, if_pos (nI_lt (by omega) (by omega))]
    rfl
  | succ m ih =>
    intro t g ht h1 hg
    obtain ⟨g, rfl⟩ : ∃ z, g = z + 1 := ⟨g - 1, by omega⟩
    rw [f_X4_scoreOf_2, show (3 : Int32) = nI 3 from rfl, if_neg (nI_nlt (by omega) (by omega)), h20]
    unfold scN
    by_cases c1 : kc < t
    · rw [if_pos (nI_lt c1 (by omega)), if_neg (by omega)]
    · rw [if_neg (nI_nlt (by omega) (by omega))]
      by_cases c2 : j < t
      · rw [if_pos (pk_sneg (by omega) c2), if_neg (by omega)]
      · rw [pk_sub (show t ≤ j by omega), if_neg (nI_pos (by omega)), show (150 : Int32) = nI 150 from rfl, show (21 : Int32) = nI 21 from rfl, show (1 : Int32) = nI 1 from rfl, nI_add, nI_add, pk_sub (by omega), pk_sub (by omega), if_neg (ixN (by omega) (by omega)), if_neg (ixN (by omega) (by omega)), nI_clamp (by omega), nI_clamp (by omega), show 150 + j - t = 150 + (j - t) by omega, show 21 + t - 1 = 21 + (t - 1) by omega]
        by_cases c3 : w (21 + (t - 1)) = w (150 + (j - t))
        · rw [if_pos c3.symm, if_pos ⟨by omega, by omega, c3⟩, nI_add]
          exact ih (t + 1) g (by omega) (by omega) (by omega)
        · rw [if_neg (fun q => c3 q.symm), if_neg (fun q => c3 q.2.2)]
theorem P_score {kc j : Nat} (hkc : kc ≤ 4) (hj : j < 120) (w : Nat → Int32) (h20 : w 20 = nI kc) : f_X4_scoreOf (nI j) w = some (nI (sc (fun i => w (150 + i)) (fun i => w (21 + i)) kc j)) := by
  unfold f_X4_scoreOf
  exact P_score_l hkc hj w h20 3 1 gas (by omega) (by omega) (by unfold gas; omega)
