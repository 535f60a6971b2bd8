/-! reading the text -/
theorem P_isLet (x : Int32) : f_X4_isLetter x = f_X3_isLetter x := by
  unfold f_X4_isLetter f_X4_isIn f_X3_isLetter
  by_cases a : x < 97
  · rw [if_pos a, Option.bind_some, if_pos (by decide)]
  · rw [if_neg a]
    by_cases b : 122 < x
    · rw [if_pos b, Option.bind_some, if_pos (by decide)]
    · rw [if_neg b, Option.bind_some, if_pos (by decide)]
theorem isLet_2 (x : Int32) : f_X3_isLetter x = some 0 ∨ f_X3_isLetter x = some 1 := by
  unfold f_X3_isLetter
  by_cases a : x < 97
  · exact Or.inl (by rw [if_pos a])
  · by_cases b : 122 < x
    · exact Or.inl (by rw [if_neg a, if_pos b])
    · exact Or.inr (by rw [if_neg a, if_neg b])
def RX (m P c : Nat) (rc rp : Nat → Int32) : Prop := (∀ i, i < m → cuO (rc i)) ∧ pasO m rp ∧ (m = 0 → P = 0) ∧ (c = 0 → 0 < m → 0 < P ∧ rp (m - 1) = nI (P - 1))
def RI (x m P c : Nat) (tx dl dpa dc rl rc rp : Nat → Int32) : Prop := m ≤ 120 ∧ P ≤ x ∧ c ≤ m ∧ (0 < c → 0 < m ∧ rp (m - 1) = nI P) ∧ (c = 0 → 0 < m → ¬ rp (m - 1) = nI P) ∧ (0 < x → f_X3_isLetter (tx (x - 1)) = some 1 → 0 < m) ∧ RX m P c rc rp ∧ ∀ i, i < m → dl i = rl i ∧ dpa i = rp i ∧ dc i = rc i
theorem P_hasWord {x m P c : Nat} {tx dl dpa dc rl rc rp : Nat → Int32} (h : RI x m P c tx dl dpa dc rl rc rp) : f_X4_hasWord (nI m) (nI P) rp = some (if 0 < c then 1 else 0) := by
  obtain ⟨h1, h2, h3, h4, h5, h6, hx, h7⟩ := h
  unfold f_X4_hasWord
  by_cases a : m = 0
  · rw [if_pos (by rw [a]; decide), if_neg (by omega)]
  · rw [if_neg (nI_nle (by omega) (by omega)), show (1 : Int32) = nI 1 from rfl, pk_sub (by omega), if_neg (ixN (by omega) (by omega)), nI_clamp (by omega)]
    by_cases b : 0 < c
    · rw [if_pos (h4 b).2, if_pos b]
    · rw [if_neg (h5 (by omega) (by omega)), if_neg b]
def okR (L : Nat) (fk fp : Int32) (C : Option (Int32 × Int32 × Int32 × Int32 × Int32 × Int32 × (Nat → Int32) × (Nat → Int32) × (Nat → Int32))) (R : Option (Int32 × Int32 × Int32 × Int32 × (Nat → Int32) × (Nat → Int32) × (Nat → Int32))) : Prop :=
  (∃ k pl D1 D2, C = some (0, k, pl, D1) ∧ R = some (k, pl, D2) ∧ ¬ k = -9 ∧ ¬ k = 0) ∨ ∃ m P c dl dpa dc wp rl rc rp, C = some (1, fk, fp, nI m, nI (P + 1), c, dl, dpa, dc) ∧ R = some (-9, wp, nI m, nI P, rl, rc, rp) ∧ (1 ≤ m ∧ m ≤ 120) ∧ P ≤ 140 ∧ rp (m - 1) = nI P ∧ (∀ i, i < m → cuO (rc i)) ∧ pasO m rp ∧ ∀ i, i < m → dl i = rl i ∧ dpa i = rp i ∧ dc i = rc i
theorem P_readText_l {L : Nat} (hL : L ≤ 140) (fk fp : Int32) (tx tx' : Nat → Int32) (htx : ∀ i, i < L → tx i = tx' i) : ∀ d x g g' m P c (wp : Int32) (dl dpa dc rl rc rp : Nat → Int32), x + d = L → d < g → d < g' → RI x m P c tx dl dpa dc rl rc rp →
    okR L fk fp (f_X3_readText_9 tx (nI L) fk fp g (nI x) (nI m) (nI (P + 1)) (nI c) dl dpa dc) (f_X4_readText_20 tx' (nI L) g' (nI x) (-9) wp (nI m) (nI P) rl rc rp) := by
  intro d
  induction d with
  | zero =>
    intro x g g' m P c wp dl dpa dc rl rc rp hx hg hg' h
    obtain ⟨g, rfl⟩ : ∃ z, g = z + 1 := ⟨g - 1, by omega⟩
    obtain ⟨g', rfl⟩ : ∃ z, g' = z + 1 := ⟨g' - 1, by omega⟩
    have hw := P_hasWord h
    obtain ⟨h1, h2, h3, h4, h5, h6, hx, h7⟩ := h
    rw [f_X3_readText_9, f_X4_readText_20, if_pos (nI_le (by omega) (by omega)), if_pos (nI_le (by omega) (by omega))]
    unfold f_X4_readText_48
    rw [if_pos rfl, hw, Option.bind_some]
    by_cases a : 0 < c
    · rw [if_neg (nI_ne0 a (by omega)), if_neg (show ¬ (if 0 < c then (1 : Int32) else 0) = 0 by rw [if_pos a]; decide)]
      exact Or.inr ⟨m, P, nI c, dl, dpa, dc, wp, rl, rc, rp, rfl, rfl, ⟨by omega, h1⟩, by omega, (h4 a).2, hx.1, hx.2.1, h7⟩
    · rw [if_pos (show nI c = 0 by rw [show c = 0 by omega]; rfl), if_pos (show (if 0 < c then (1 : Int32) else 0) = 0 by rw [if_neg a])]
      exact Or.inl ⟨5, nI L, _, _, rfl, rfl, by decide, by decide⟩
  | succ d ih =>
    intro x g g' m P c wp dl dpa dc rl rc rp hx hg hg' h
    obtain ⟨g, rfl⟩ : ∃ z, g = z + 1 := ⟨g - 1, by omega⟩
    obtain ⟨g', rfl⟩ : ∃ z, g' = z + 1 := ⟨g' - 1, by omega⟩
    have hw := P_hasWord h
    obtain ⟨h1, h2, h3, h4, h5, h6, hx, h7⟩ := id h
    have ex := htx x (by omega)
    have stop : ∀ (k : Int32), ¬ k = -9 → f_X4_readText_20 tx' (nI L) g' (nI x + 1) k (nI x) (nI m) (nI P) rl rc rp = some (k, nI x, nI m, nI P, rl, rc, rp) := by
      intro k hk
      obtain ⟨g'', rfl⟩ : ∃ z, g' = z + 1 := ⟨g' - 1, by omega⟩
      rw [f_X4_readText_20]
      unfold f_X4_readText_48
      rw [if_neg hk, if_neg hk, ite_self]
    have next : ∀ m' P' c' dl' dpa' dc' rl' rc' rp', RI (x + 1) m' P' c' tx dl' dpa' dc' rl' rc' rp' → okR L fk fp (f_X3_readText_9 tx (nI L) fk fp g (nI x + 1) (nI m') (nI (P' + 1)) (nI c') dl' dpa' dc') (f_X4_readText_20 tx' (nI L) g' (nI x + 1) (-9) wp (nI m') (nI P') rl' rc' rp') := by
      intro m' P' c' dl' dpa' dc' rl' rc' rp' h'
      rw [nI_1]
      exact ih (x + 1) g g' m' P' c' wp dl' dpa' dc' rl' rc' rp' (by omega) (by omega) (by omega) h'
    rw [f_X3_readText_9, f_X4_readText_20, if_neg (nI_ge (by omega) (by omega)), if_neg (nI_ge (by omega) (by omega)), if_pos rfl, P_at (by omega) (by omega), Option.bind_some]
    unfold f_X4_readByte
    rw [if_neg (ixN (by omega) (by omega)), nI_clamp (by omega), ← ex, P_isLet]
    obtain ⟨pv, hpv, hpv'⟩ : ∃ pv, f_X3_at 140 (nI x - 1) tx = some pv ∧ (x = 0 → pv = 0) ∧ (0 < x → pv = tx (x - 1)) := by
      rcases Nat.eq_zero_or_pos x with y | y
      · exact ⟨0, by rw [y]; exact P_at_neg (by decide), fun _ => rfl, fun z => by omega⟩
      · exact ⟨tx (x - 1), by rw [show (1 : Int32) = nI 1 from rfl, pk_sub (by omega), P_at (by omega) (by omega)], fun z => by omega, fun _ => rfl⟩
    rw [hpv, Option.bind_some]
    unfold f_X0_read
    rcases isLet_2 (tx x) with hl | hl
    · rw [hl, Option.bind_some, Option.bind_some, if_pos rfl, if_pos rfl]
      have nolet : 0 < x + 1 → f_X3_isLetter (tx (x + 1 - 1)) = some 1 → 0 < m := by
        intro _ q
        rw [Nat.add_sub_cancel, hl] at q
        cases q
      by_cases a : tx x = 47
      · rw [if_pos a, if_pos a]
        by_cases b : x = 0
        · rw [if_pos (by rw [b]; decide), hpv'.1 b, show f_X3_isLetter 0 = some 0 from rfl, Option.bind_some, if_pos rfl, Option.bind_some, if_neg (show ¬ (2 : Int32) = 0 by decide)]
          unfold f_X4_readByte_61 f_X4_fails
          rw [Option.bind_some, Option.bind_some, stop 2 (by decide)]
          exact Or.inl ⟨2, nI x, _, _, rfl, rfl, by decide, by decide⟩
        · rw [if_neg (nI_nle (by omega) (by omega)), show (1 : Int32) = nI 1 from rfl, pk_sub (by omega), if_neg (ixN (by omega) (by omega)), nI_clamp (by omega), ← htx (x - 1) (by omega), P_isLet, hpv'.2 (by omega)]
          rcases isLet_2 (tx (x - 1)) with hq | hq
          · rw [hq, Option.bind_some, Option.bind_some, if_pos rfl, if_pos rfl, Option.bind_some, if_neg (show ¬ (2 : Int32) = 0 by decide)]
            unfold f_X4_readByte_61 f_X4_fails
            rw [Option.bind_some, Option.bind_some]
            have := stop 2 (by decide)
            rw [show (1 : Int32) = nI 1 from rfl] at this
            rw [this]
            exact Or.inl ⟨2, nI x, _, _, rfl, rfl, by decide, by decide⟩
          · have hm := h6 (by omega) hq
            rw [hq, Option.bind_some, Option.bind_some, if_neg (by decide), if_neg (by decide), pk_sub (by omega), if_neg (ixN (by omega) (by omega)), nI_clamp (by omega), Option.bind_some]
            unfold f_X0_setCue
            rw [show (1 : Int32) = nI 1 from rfl, pk_sub (by omega), P_put (by omega) (by omega), Option.bind_some, Option.bind_some, Option.bind_some, if_pos rfl]
            refine next m P c dl dpa (upd dc (m - 1) (nI 1)) rl (upd rc (m - 1) (nI 1)) rp ⟨h1, by omega, h3, h4, h5, nolet, ⟨fun i hi => by
              by_cases y : i = m - 1
              · rw [y, upd_eq]; exact Or.inr (Or.inl rfl)
              · rw [upd_ne _ _ y]; exact hx.1 i hi, hx.2⟩, fun i hi => ⟨(h7 i hi).1, (h7 i hi).2.1, ?_⟩⟩
            by_cases y : i = m - 1
            · rw [y, upd_eq, upd_eq]
            · rw [upd_ne _ _ y, upd_ne _ _ y]; exact (h7 i hi).2.2
      · rw [if_neg a, if_neg a]
        by_cases b : tx x = 124
        · rw [if_pos b, if_pos b, hw, Option.bind_some]
          by_cases e : 0 < c
          · unfold f_X0_endPassage
            rw [if_neg (nI_nle e (by omega)), if_neg (show ¬ (if 0 < c then (1 : Int32) else 0) = 0 by rw [if_pos e]; decide), Option.bind_some, Option.bind_some, Option.bind_some, if_pos rfl]
            have := next m (P + 1) 0 dl dpa dc rl rc rp ⟨h1, by omega, Nat.zero_le _, fun y => absurd y (Nat.lt_irrefl _), fun _ _ y => by
              rw [(h4 e).2] at y
              have := (nI_eq (by omega) (by omega)).mp y
              omega, nolet, ⟨hx.1, hx.2.1, fun y => by have := (h4 e).1; omega, fun _ _ => ⟨Nat.succ_pos _, by rw [Nat.add_sub_cancel]; exact (h4 e).2⟩⟩, h7⟩
            rw [show nI (P + 1 + 1) = nI (P + 1) + 1 from nI_succ _, show nI (P + 1) = nI P + 1 from nI_succ _] at this
            rw [show nI (P + 1) = nI P + 1 from nI_succ _]
            exact this
          · unfold f_X4_fails
            rw [if_pos (show nI c ≤ 0 by rw [show c = 0 by omega]; decide), if_pos (show (if 0 < c then (1 : Int32) else 0) = 0 by rw [if_neg e]), Option.bind_some, if_neg (show ¬ (3 : Int32) = 0 by decide), Option.bind_some, Option.bind_some, stop 3 (by decide)]
            exact Or.inl ⟨3, nI x, _, _, rfl, rfl, by decide, by decide⟩
        · rw [if_neg b, if_neg b]
          by_cases e : tx x = 32
          · rw [if_pos e, if_pos e, Option.bind_some, Option.bind_some, if_pos rfl]
            exact next m P c dl dpa dc rl rc rp ⟨h1, by omega, h3, h4, h5, nolet, hx, h7⟩
          · unfold f_X4_fails
            rw [if_neg e, if_neg e, Option.bind_some, if_neg (show ¬ (1 : Int32) = 0 by decide), Option.bind_some, Option.bind_some, stop 1 (by decide)]
            exact Or.inl ⟨1, nI x, _, _, rfl, rfl, by decide, by decide⟩
    · rw [hl, Option.bind_some, Option.bind_some, if_neg (by decide), if_neg (by decide)]
      unfold f_X0_append f_X4_readWord
      by_cases a : m = 120
      · unfold f_X4_fails
        rw [if_neg (show ¬ nI m < 120 by rw [a]; decide), if_pos (show nI m = 120 by rw [a]; rfl), Option.bind_some, Option.bind_some, Option.bind_some, Option.bind_some, if_neg (show ¬ (4 : Int32) = 0 by decide), Option.bind_some, stop 4 (by decide)]
        exact Or.inl ⟨4, nI x, _, _, rfl, rfl, by decide, by decide⟩
      · rw [if_pos (show nI m < 120 from nI_lt (b := 120) (by omega) (by omega)), if_neg (show ¬ nI m = 120 from fun q => a ((nI_eq (b := 120) (by omega) (by omega)).mp q)), P_put (by omega) (by omega), Option.bind_some, show (1 : Int32) = nI 1 from rfl, pk_sub (by omega), Nat.add_sub_cancel, P_put (by omega) (by omega), Option.bind_some, P_put (by omega) (by omega), Option.bind_some, if_neg (ixN (show x < 140 by omega) (by omega))]
        simp only [Option.bind_some, if_neg (ixN (show m < 120 by omega) (by decide)), if_true]
        simp only [nI_clamp (show m < 2 ^ 31 by omega), nI_clamp (show x < 2 ^ 31 by omega), ← ex]
        rw [nI_add m, nI_add c]
        refine next (m + 1) P (c + 1) (upd dl m (tx x)) (upd dpa m (nI P)) (upd dc m 0) (upd rl m (tx x)) (upd rc m 0) (upd rp m (nI P)) ⟨by omega, by omega, by omega, fun _ => ⟨by omega, ?_⟩, fun y => by omega, fun _ _ => by omega, ⟨fun i hi => ?_, ⟨fun _ => ?_, fun i hi => ?_⟩, fun y => absurd y (Nat.succ_ne_zero _), fun y => absurd y (Nat.succ_ne_zero _)⟩, fun i hi => ?_⟩
        · rw [Nat.add_sub_cancel, upd_eq]
        · by_cases y : i = m
          · rw [y, upd_eq]; exact Or.inl rfl
          · rw [upd_ne _ _ y]; exact hx.1 i (by omega)
        · by_cases y : m = 0
          · rw [y, upd_eq, hx.2.2.1 y]; rfl
          · rw [upd_ne _ _ (by omega)]; exact hx.2.1.1 (by omega)
        · by_cases y : i + 1 = m
          · rw [y, upd_eq, upd_ne _ _ (by omega)]
            rcases Nat.eq_zero_or_pos c with q | q
            · have q2 := hx.2.2.2 q (by omega)
              rw [show i = m - 1 by omega, q2.2, nI_1, show P - 1 + 1 = P by omega]
              exact Or.inr rfl
            · have q2 := (h4 q).2
              rw [show i = m - 1 by omega, q2]
              exact Or.inl rfl
          · rw [upd_ne _ _ y, upd_ne _ _ (by omega)]
            exact hx.2.1.2 i (by omega)
        · by_cases y : i = m
          · rw [y, upd_eq, upd_eq, upd_eq, upd_eq, upd_eq, upd_eq]
            exact ⟨rfl, rfl, rfl⟩
          · rw [upd_ne _ _ y, upd_ne _ _ y, upd_ne _ _ y, upd_ne _ _ y, upd_ne _ _ y, upd_ne _ _ y]
            exact h7 i (by omega)
theorem P_readText {L : Nat} (hL : L ≤ 140) (fk fp : Int32) (tx tx' : Nat → Int32) (htx : ∀ i, i < L → tx i = tx' i) (dw dp dwp : Int32) (dl dpa dc : Nat → Int32) (wk wp rw0 rp0 : Int32) (rl rc rp : Nat → Int32) : okR L fk fp (f_X3_readText tx (nI L) fk fp dw dp dwp dl dpa dc) (f_X4_readText tx' (nI L) wk wp rw0 rp0 rl rc rp) := by
  unfold f_X3_readText f_X4_readText f_X0_empty f_X4_fails
  rw [Option.bind_some, Option.bind_some]
  exact P_readText_l hL fk fp tx tx' htx L 0 gas gas 0 0 0 (-9) dl dpa dc rl rc rp (by omega) (by unfold gas; omega) (by unfold gas; omega) ⟨by omega, by omega, by omega, fun y => absurd y (Nat.lt_irrefl _), fun _ y => absurd y (Nat.lt_irrefl _), fun y => absurd y (Nat.lt_irrefl _), ⟨fun i hi => absurd hi (Nat.not_lt_zero _), ⟨fun y => absurd y (Nat.lt_irrefl _), fun i hi => absurd hi (Nat.not_lt_zero _)⟩, fun _ => rfl, fun _ y => absurd y (Nat.lt_irrefl _)⟩, fun i hi => absurd hi (Nat.not_lt_zero _)⟩
