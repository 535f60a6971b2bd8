/-! rows: what laying them gives -/
def nwR (pas : Nat → Int32) (wd : Nat) (s : Nat × Nat) (k : Nat) : Bool := k == 0 || (!(decide (pas k = pas (k - 1))) || s.1 == wd)
def stR (pas : Nat → Int32) (wd : Nat) : Nat → Nat × Nat
  | 0 => (0, 0)
  | k + 1 => if nwR pas wd (stR pas wd k) k = true then (1, (stR pas wd k).2 + 1) else ((stR pas wd k).1 + 1, (stR pas wd k).2)
def rwR (pas : Nat → Int32) (wd : Nat) (k : Nat) : Nat := (stR pas wd (k + 1)).2 - 1
theorem stR_fact (pas : Nat → Int32) {wd : Nat} (hw : 1 ≤ wd) : ∀ k, (stR pas wd k).1 ≤ wd ∧ (stR pas wd k).2 ≤ k ∧ (0 < k → 1 ≤ (stR pas wd k).1 ∧ 1 ≤ (stR pas wd k).2) := by
  intro k
  induction k with
  | zero => exact ⟨Nat.zero_le _, Nat.le_refl _, fun h => absurd h (Nat.lt_irrefl _)⟩
  | succ k ih =>
    obtain ⟨h1, h2, h3⟩ := ih
    unfold stR
    by_cases h : nwR pas wd (stR pas wd k) k = true
    · rw [if_pos h]
      exact ⟨hw, by show (stR pas wd k).2 + 1 ≤ k + 1; omega, fun _ => ⟨Nat.le_refl _, by show 1 ≤ (stR pas wd k).2 + 1; omega⟩⟩
    · rw [if_neg h]
      have hk : 0 < k := by
        rcases Nat.eq_zero_or_pos k with z | z
        · exact absurd (by unfold nwR; rw [z]; rfl) h
        · exact z
      have hne : ¬ (stR pas wd k).1 = wd := fun e => h (by unfold nwR; rw [e]; simp)
      obtain ⟨a, b⟩ := h3 hk
      refine ⟨?_, ?_, fun _ => ⟨?_, ?_⟩⟩
      · show (stR pas wd k).1 + 1 ≤ wd; omega
      · show (stR pas wd k).2 ≤ k + 1; omega
      · show 1 ≤ (stR pas wd k).1 + 1; omega
      · exact b
theorem stR_step (pas : Nat → Int32) (wd k : Nat) : (stR pas wd k).2 ≤ (stR pas wd (k + 1)).2 := by
  show _ ≤ (if nwR pas wd (stR pas wd k) k = true then (1, (stR pas wd k).2 + 1) else ((stR pas wd k).1 + 1, (stR pas wd k).2)).2
  by_cases h : nwR pas wd (stR pas wd k) k = true
  · rw [if_pos h]; exact Nat.le_succ _
  · rw [if_neg h]; exact Nat.le_refl _
theorem stR_mono (pas : Nat → Int32) (wd j : Nat) : ∀ k, j ≤ k → (stR pas wd j).2 ≤ (stR pas wd k).2 := by
  intro k
  induction k with
  | zero => intro h; rw [show j = 0 by omega]; exact Nat.le_refl _
  | succ k ih =>
    intro h
    rcases Nat.lt_or_ge k j with z | z
    · rw [show j = k + 1 by omega]; exact Nat.le_refl _
    · exact Nat.le_trans (ih z) (stR_step pas wd k)
theorem stR_new {pas : Nat → Int32} {wd k : Nat} (h : nwR pas wd (stR pas wd k) k = true) : stR pas wd (k + 1) = (1, (stR pas wd k).2 + 1) := by
  show (if nwR pas wd (stR pas wd k) k = true then _ else _) = _
  rw [if_pos h]
theorem stR_old {pas : Nat → Int32} {wd k : Nat} (h : ¬ nwR pas wd (stR pas wd k) k = true) : stR pas wd (k + 1) = ((stR pas wd k).1 + 1, (stR pas wd k).2) := by
  show (if nwR pas wd (stR pas wd k) k = true then _ else _) = _
  rw [if_neg h]
theorem rwR_lt {pas : Nat → Int32} {wd j k : Nat} (hw : 1 ≤ wd) (h : j < k) : rwR pas wd j < (stR pas wd k).2 := by
  have h1 := ((stR_fact pas hw (j + 1)).2.2 (by omega)).2
  have h2 := stR_mono pas wd (j + 1) k (by omega)
  unfold rwR
  omega
theorem stR_congr {pas pas' : Nat → Int32} {wd : Nat} : ∀ n, (∀ j, j < n → pas j = pas' j) → stR pas wd n = stR pas' wd n := by
  intro n
  induction n with
  | zero => intro _; rfl
  | succ n ih =>
    intro h
    have e := ih (fun j hj => h j (by omega))
    have en : nwR pas wd (stR pas wd n) n = nwR pas' wd (stR pas' wd n) n := by
      unfold nwR
      rw [e, h n (by omega)]
      rcases Nat.eq_zero_or_pos n with z | z
      · rw [z]; rfl
      · rw [h (n - 1) (by omega)]
    show (if nwR pas wd (stR pas wd n) n = true then _ else _) = (if nwR pas' wd (stR pas' wd n) n = true then _ else _)
    rw [en, e]
/-- what the rows' rows hold when the words up to k are laid -/
def laidR (pas : Nat → Int32) (wd k : Nat) (ro fi : Nat → Int32) : Prop := (∀ j, j < k → ro j = nI (rwR pas wd j)) ∧ ∀ j, j < k → nwR pas wd (stR pas wd j) j = true → fi (rwR pas wd j) = nI j
theorem laidR_congr {pas pas' : Nat → Int32} {wd k : Nat} {ro fi : Nat → Int32} (h : ∀ j, j < k → pas j = pas' j) (l : laidR pas wd k ro fi) : laidR pas' wd k ro fi := by
  have e : ∀ m, m ≤ k → stR pas wd m = stR pas' wd m := fun m hm => stR_congr m (fun j hj => h j (by omega))
  have er : ∀ m, m < k → rwR pas wd m = rwR pas' wd m := fun m hm => by unfold rwR; rw [e (m + 1) (by omega)]
  have en : ∀ m, m < k → nwR pas wd (stR pas wd m) m = nwR pas' wd (stR pas' wd m) m := by
    intro m hm
    unfold nwR
    rw [e m (by omega), h m hm]
    rcases Nat.eq_zero_or_pos m with z | z
    · rw [z]; rfl
    · rw [h (m - 1) (by omega)]
  refine ⟨fun j hj => ?_, fun j hj hn => ?_⟩
  · rw [← er j hj]; exact l.1 j hj
  · rw [← er j hj]
    exact l.2 j hj (by rw [en j hj]; exact hn)
theorem laidR_new {pas : Nat → Int32} {wd k : Nat} {ro fi : Nat → Int32} (hw : 1 ≤ wd) (h : laidR pas wd k ro fi) (hn : nwR pas wd (stR pas wd k) k = true) : laidR pas wd (k + 1) (upd ro k (nI (stR pas wd k).2)) (upd fi (stR pas wd k).2 (nI k)) := by
  have e : rwR pas wd k = (stR pas wd k).2 := by unfold rwR; rw [stR_new hn]; rfl
  refine ⟨fun j hj => ?_, fun j hj hnw => ?_⟩
  · unfold upd
    by_cases z : j = k
    · rw [if_pos z, z, e]
    · rw [if_neg z]; exact h.1 j (by omega)
  · unfold upd
    by_cases z : j = k
    · rw [z, e, if_pos rfl]
    · have := rwR_lt (pas := pas) hw (show j < k by omega)
      rw [if_neg (by omega)]
      exact h.2 j (by omega) hnw
theorem laidR_old {pas : Nat → Int32} {wd k : Nat} {ro fi : Nat → Int32} (h : laidR pas wd k ro fi) (hn : ¬ nwR pas wd (stR pas wd k) k = true) : laidR pas wd (k + 1) (upd ro k (nI ((stR pas wd k).2 - 1))) fi := by
  have e : rwR pas wd k = (stR pas wd k).2 - 1 := by unfold rwR; rw [stR_old hn]
  refine ⟨fun j hj => ?_, fun j hj hnw => ?_⟩
  · unfold upd
    by_cases z : j = k
    · rw [if_pos z, z, e]
    · rw [if_neg z]; exact h.1 j (by omega)
  · by_cases z : j = k
    · exact absurd (by rw [← z]; exact hnw) hn
    · exact h.2 j (by omega) hnw
theorem P_lay_l {n wd : Nat} (hn : n ≤ 120) (hw : 1 ≤ wd ∧ wd ≤ 12) (pas : Nat → Int32) : ∀ m k g ro fi, k + m = n → m < g → laidR pas wd k ro fi →
    ∃ ro' fi', f_X0_lay_9 (nI n) pas (nI wd) g (nI (stR pas wd k).1) (nI k) (nI (stR pas wd k).2) ro fi = some (nI (stR pas wd n).2, ro', fi') ∧ laidR pas wd n ro' fi' := by
  intro m
  induction m with
  | zero =>
    intro k g ro fi hk hg hl
    obtain ⟨g, rfl⟩ : ∃ z, g = z + 1 := ⟨g - 1, by omega⟩
    obtain rfl : k = n := by omega
    rw [f_X0_lay_9, if_pos (nI_le (Nat.le_refl _) (by omega))]
    exact ⟨ro, fi, rfl, hl⟩
  | succ m ih =>
    intro k g ro fi hk hg hl
    obtain ⟨g, rfl⟩ : ∃ z, g = z + 1 := ⟨g - 1, by omega⟩
    obtain ⟨f1, f2, f3⟩ := stR_fact pas hw.1 k
    have hnew : nwR pas wd (stR pas wd k) k = true → ∃ ro' fi', f_X0_lay_47 (f_X0_lay_9 (nI n) pas (nI wd) g) (nI k) (nI (stR pas wd k).2) ro fi = some (nI (stR pas wd n).2, ro', fi') ∧ laidR pas wd n ro' fi' := by
      intro h
      have e := stR_new h
      obtain ⟨ro', fi', h1, h2⟩ := ih (k + 1) g _ _ (by omega) (by omega) (laidR_new hw.1 hl h)
      refine ⟨ro', fi', ?_, h2⟩
      unfold f_X0_lay_47 f_X0_lay_71
      rw [P_put (by omega) (by omega), Option.bind_some, nI_1, show (1 : Int32) = nI 1 from rfl, pk_sub (by omega), Nat.add_sub_cancel, P_put (by omega) (by omega), Option.bind_some]
      rw [e] at h1
      rw [show (0 : Int32) + nI 1 = nI 1 from rfl, nI_add]
      exact h1
    rw [f_X0_lay_9, if_neg (nI_ge (by omega) (by omega))]
    by_cases c1 : nI (stR pas wd k).1 = 0
    · rw [if_pos c1]
      refine hnew ?_
      have : k = 0 := by
        rcases Nat.eq_zero_or_pos k with z | z
        · exact z
        · exact absurd c1 (nI_ne0 (f3 z).1 (by omega))
      unfold nwR
      rw [this]
      rfl
    · rw [if_neg c1]
      by_cases c2 : nI wd ≤ nI (stR pas wd k).1
      · rw [if_pos c2]
        refine hnew ?_
        have := (nI_leI (by omega) (by omega)).mp c2
        unfold nwR
        rw [show (stR pas wd k).1 = wd by omega]
        simp
      · rw [if_neg c2]
        have hk0 : 0 < k := by
          rcases Nat.eq_zero_or_pos k with z | z
          · rw [z] at c1; exact absurd rfl c1
          · exact z
        have c2' : ¬ wd ≤ (stR pas wd k).1 := fun q => c2 ((nI_leI (by omega) (by omega)).mpr q)
        rw [P_at (by omega) (by omega), Option.bind_some, show (1 : Int32) = nI 1 from rfl, pk_sub (by omega), P_at (by omega) (by omega), Option.bind_some]
        by_cases c3 : pas k = pas (k - 1)
        · rw [if_pos c3]
          have hold : ¬ nwR pas wd (stR pas wd k) k = true := by
            unfold nwR
            rw [c3]
            have z1 : (k == 0) = false := by simp; omega
            have z2 : ((stR pas wd k).1 == wd) = false := by simp; omega
            rw [z1, z2]
            simp
          have e := stR_old hold
          obtain ⟨ro', fi', h1, h2⟩ := ih (k + 1) g _ _ (by omega) (by omega) (laidR_old hl hold)
          refine ⟨ro', fi', ?_, h2⟩
          have := (f3 hk0).2
          unfold f_X0_lay_71
          rw [show (1 : Int32) = nI 1 from rfl, pk_sub (by omega), P_put (by omega) (by omega), Option.bind_some, nI_add, nI_add]
          rw [e] at h1
          exact h1
        · rw [if_neg c3]
          refine hnew ?_
          unfold nwR
          rw [decide_eq_false c3]
          simp
theorem P_lay {n wd : Nat} (hn : n ≤ 120) (hw : 1 ≤ wd ∧ wd ≤ 12) (pas ro fi : Nat → Int32) (r0 : Int32) : ∃ ro' fi', f_X0_lay (nI wd) (nI n) r0 pas ro fi = some (nI (stR pas wd n).2, ro', fi') ∧ laidR pas wd n ro' fi' := by
  unfold f_X0_lay
  exact P_lay_l hn hw pas n 0 gas ro fi (by omega) (by unfold gas; omega) ⟨fun j h => absurd h (Nat.not_lt_zero _), fun j h => absurd h (Nat.not_lt_zero _)⟩
