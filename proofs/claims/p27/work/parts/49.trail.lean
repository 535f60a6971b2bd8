theorem nI_mul (a b : Nat) : nI a * nI b = nI (a * b) := by
  rw [nI_iI a, nI_iI b, iI_mul, nI_iI, Int.natCast_mul]
/-! the trail -/
theorem trD (T : Nat → Nat) (lim : Int) : ∀ c, (∀ i j, i < j → j < c → T i < T j) → ∃ d, d ≤ c ∧ (∀ i, i < d → (T i : Int) < lim) ∧ ∀ i, d ≤ i → i < c → ¬ (T i : Int) < lim := by
  intro c
  induction c with
  | zero => intro _; exact ⟨0, Nat.le_refl _, fun i h => absurd h (Nat.not_lt_zero _), fun i _ h => absurd h (Nat.not_lt_zero _)⟩
  | succ c ih =>
    intro hT
    obtain ⟨d, h1, h2, h3⟩ := ih (fun i j a b => hT i j a (by omega))
    by_cases z : (T c : Int) < lim
    · refine ⟨c + 1, Nat.le_refl _, fun i hi => ?_, fun i a b => by omega⟩
      rcases Nat.lt_or_ge i c with y | y
      · have := hT i c y (by omega)
        omega
      · rw [show i = c by omega]; exact z
    · refine ⟨d, by omega, h2, fun i a b => ?_⟩
      rcases Nat.lt_or_ge i c with y | y
      · exact h3 i a y
      · rw [show i = c by omega]; exact z
theorem trGap (T : Nat → Nat) {c : Nat} (hT : ∀ i j, i < j → j < c → T i < T j) (a : Nat) : ∀ m, a + m < c → T a + m ≤ T (a + m) := by
  intro m
  induction m with
  | zero => intro _; exact Nat.le_refl _
  | succ m ih =>
    intro h
    have h1 := ih (by omega)
    have h2 := hT (a + m) (a + (m + 1)) (by omega) h
    omega
theorem P_add_l {t q win c d e : Nat} (ht : t ≤ 90000) (hq : q ≤ 120) (hw : win ≤ 60) (hde : d ≤ e) (hec : e ≤ c) (hc : c ≤ 61) (hel : e - d ≤ 60) (T P : Nat → Nat) (hd : ∀ i, i < d → (T i : Int) < (t : Int) - win) (hk : ∀ i, d ≤ i → i < e → ¬ (T i : Int) < (t : Int) - win ∧ ¬ T i = t) (hl : ∀ i, e ≤ i → i < c → T i = t) (hTb : ∀ i, i < c → T i ≤ t) : ∀ m k g (ti po : Nat → Int32), k + m = c → m < g → (∀ i, k ≤ i → i < c → ti i = nI (T i) ∧ po i = nI (P i)) → (∀ i, i < min (k - d) (e - d) → ti i = nI (T (d + i)) ∧ po i = nI (P (d + i))) → ∃ ti' po', f_X2_add_6 (nI t) (nI q) (nI win) (nI c) g (nI (min (k - d) (e - d))) (nI k) ti po = some (nI (e - d + 1), ti', po') ∧ (∀ i, i < e - d → ti' i = nI (T (d + i)) ∧ po' i = nI (P (d + i))) ∧ ti' (e - d) = nI t ∧ po' (e - d) = nI q := by
  intro m
  induction m with
  | zero =>
    intro k g ti po hkc hg _ hlo
    obtain ⟨g, rfl⟩ : ∃ z, g = z + 1 := ⟨g - 1, by omega⟩
    rw [show min (k - d) (e - d) = e - d by omega] at hlo ⊢
    rw [f_X2_add_6, if_pos (nI_le (by omega) (by omega)), show (61 : Int32) = nI 61 from rfl, if_neg (nI_ge (by omega) (by omega)), P_put (by omega) (by omega), Option.bind_some, P_put (by omega) (by omega), Option.bind_some, show (1 : Int32) = nI 1 from rfl, nI_add]
    refine ⟨_, _, rfl, fun i hi => ?_, upd_eq _ _ _, upd_eq _ _ _⟩
    rw [upd_ne _ _ (by omega), upd_ne _ _ (by omega)]
    exact hlo i hi
  | succ m ih =>
    intro k g ti po hkc hg hhi hlo
    obtain ⟨g, rfl⟩ : ∃ z, g = z + 1 := ⟨g - 1, by omega⟩
    have hTk := hTb k (by omega)
    rw [f_X2_add_6, if_neg (nI_ge (by omega) (by omega)), P_at (by omega) (by omega), Option.bind_some, (hhi k (Nat.le_refl _) (by omega)).1]
    have hskip : min (k + 1 - d) (e - d) = min (k - d) (e - d) → ∃ ti' po', f_X2_add_6 (nI t) (nI q) (nI win) (nI c) g (nI (min (k - d) (e - d))) (nI k + 1) ti po = some (nI (e - d + 1), ti', po') ∧ (∀ i, i < e - d → ti' i = nI (T (d + i)) ∧ po' i = nI (P (d + i))) ∧ ti' (e - d) = nI t ∧ po' (e - d) = nI q := by
      intro hmin
      have := ih (k + 1) g ti po (by omega) (by omega) (fun i a b => hhi i (by omega) b) (fun i a => hlo i (by omega))
      rw [hmin] at this
      rw [nI_1]
      exact this
    have c1 : (nI (T k) < nI t - nI win) ↔ (T k : Int) < (t : Int) - win := by
      rw [nI_iI (T k), nI_iI t, nI_iI win, iI_sub, iI_lt (by omega)]
    by_cases z : (T k : Int) < (t : Int) - win
    · rw [if_pos (c1.mpr z)]
      refine hskip ?_
      have : k < d := by
        rcases Nat.lt_or_ge k d with y | y
        · exact y
        · exfalso
          rcases Nat.lt_or_ge k e with x | x
          · exact (hk k y x).1 z
          · have := hl k x (by omega)
            omega
      omega
    · rw [if_neg (fun q => z (c1.mp q))]
      have hkd : d ≤ k := by
        rcases Nat.lt_or_ge k d with y | y
        · exact absurd (hd k y) z
        · exact y
      by_cases y : nI (T k) = nI t
      · rw [if_pos y]
        refine hskip ?_
        have y' := (nI_eq (by omega) (by omega)).mp y
        have : e ≤ k := by
          rcases Nat.lt_or_ge k e with x | x
          · exact absurd y' (hk k hkd x).2
          · exact x
        omega
      · rw [if_neg y]
        have hke : k < e := by
          rcases Nat.lt_or_ge k e with x | x
          · exact x
          · exact absurd (by rw [hl k x (by omega)]) y
        have hmin : min (k - d) (e - d) = k - d := by omega
        have hmin' : min (k + 1 - d) (e - d) = k - d + 1 := by omega
        rw [hmin] at hlo ⊢
        rw [P_put (by omega) (by omega), Option.bind_some, P_at (by omega) (by omega), Option.bind_some, P_put (by omega) (by omega), Option.bind_some, nI_1, nI_1, (hhi k (Nat.le_refl _) (by omega)).2]
        have := ih (k + 1) g (upd ti (k - d) (nI (T k))) (upd po (k - d) (nI (P k))) (by omega) (by omega) (fun i a b => by
          rw [upd_ne _ _ (by omega), upd_ne _ _ (by omega)]
          exact hhi i (by omega) b) (fun i a => by
          rw [hmin'] at a
          rcases Nat.lt_or_ge i (k - d) with x | x
          · rw [upd_ne _ _ (by omega), upd_ne _ _ (by omega)]
            exact hlo i x
          · rw [show i = k - d by omega, upd_eq, upd_eq, show d + (k - d) = k by omega]
            exact ⟨rfl, rfl⟩)
        rw [hmin'] at this
        exact this
/-- the speed that the trail gives -/
def spN (T P : Nat → Nat) (t q sp d e : Nat) : Nat := if d < e then 100 * (q - P d) / (t - T d) else sp
theorem spN_le {T P : Nat → Nat} {t q sp d e : Nat} (hsp : sp ≤ 12000) (hq : q ≤ 120) : spN T P t q sp d e ≤ 12000 := by
  unfold spN
  split
  · exact Nat.le_trans (Nat.div_le_self _ _) (by omega)
  · exact hsp
theorem spI {x y a b : Nat} (h1 : b ≤ a) (ha : a ≤ 120) (h2 : y < x) (hx : x ≤ 90000) : ((100 : Int32) * (nI a - nI b)) / (nI x - nI y) = nI (100 * (a - b) / (x - y)) ∧ ¬ (nI x - nI y = 0) ∧ (1 : Int32) ≤ nI x - nI y := by
  rw [nI_iI a, nI_iI b, nI_iI x, nI_iI y, show (100 : Int32) = iI 100 by decide, iI_sub, iI_sub, iI_mul, iI_div (by omega), show (0 : Int32) = iI 0 by decide, show (1 : Int32) = iI 1 by decide, iI_eq (by omega), iI_le (by omega), nI_iI]
  refine ⟨congrArg iI ?_, by omega, by omega⟩
  rw [show ((a : Int) - b) = ((a - b : Nat) : Int) by omega, show ((x : Int) - y) = ((x - y : Nat) : Int) by omega]
  rfl
theorem P_speedOr {T P : Nat → Nat} {t q sp d e : Nat} (hde : d ≤ e) (hel : e - d ≤ 60) (ht : t ≤ 90000) (hq : q ≤ 120) (hTd : d < e → T d < t) (hPd : d < e → P d ≤ q) (ti po : Nat → Int32) (h : ∀ i, i < e - d → ti i = nI (T (d + i)) ∧ po i = nI (P (d + i))) (h1 : ti (e - d) = nI t) (h2 : po (e - d) = nI q) : f_X2_speedOr (nI sp) (nI (e - d + 1)) ti po = some (nI (spN T P t q sp d e)) := by
  unfold f_X2_speedOr spN
  rw [show (1 : Int32) = nI 1 from rfl, pk_sub (by omega), Nat.add_sub_cancel, P_at (by omega) (by omega), Option.bind_some, h1, show f_X3_at 61 0 ti = some (ti 0) from P_at (k := 0) (by omega) (by omega), Option.bind_some]
  by_cases z : d < e
  · have h0 := h 0 (by omega)
    rw [Nat.add_zero] at h0
    obtain ⟨s1, s2, s3⟩ := spI (hPd z) hq (hTd z) ht
    rw [if_neg (show ¬ nI (e - d + 1) < 2 from nI_nlt (b := 2) (by omega) (by omega)), h0.1, if_pos (show nI 1 ≤ nI t - nI (T d) from s3), P_at (by omega) (by omega), Option.bind_some, h2, show f_X3_at 61 0 po = some (po 0) from P_at (k := 0) (by omega) (by omega), Option.bind_some, h0.2, if_neg s2, s1, if_pos z]
  · rw [if_pos (show nI (e - d + 1) < 2 from nI_lt (b := 2) (by omega) (by omega)), if_neg z]
/-! the reference's trail -/
def shW (w : Nat → Int32) (x : Nat) : Nat → Int32 := fun i => if 26 ≤ i ∧ i < x then w (i + 2) else w i
theorem shW_0 (w : Nat → Int32) : shW w 26 = w := by
  funext i
  unfold shW
  rw [if_neg (by omega)]
theorem shW_step (w : Nat → Int32) {x : Nat} (h : 26 ≤ x) : upd (shW w x) x (w (x + 2)) = shW w (x + 1) := by
  funext i
  unfold upd shW
  by_cases z : i = x
  · rw [if_pos z, if_pos (by omega), z]
  · rw [if_neg z]
    by_cases y : 26 ≤ i ∧ i < x
    · rw [if_pos y, if_pos (by omega)]
    · rw [if_neg y, if_neg (by omega)]
theorem P_shift {c : Nat} (hc : 1 ≤ c ∧ c ≤ 62) (w : Nat → Int32) (h25 : w 25 = nI c) (K : (Nat → Int32) → Option (Nat → Int32)) : ∀ m x g, x + m = 24 + 2 * c → m < g → 26 ≤ x → f_X4_leaveTrail_144 K g (nI x) (shW w x) = K (upd (shW w (24 + 2 * c)) 25 (nI (c - 1))) := by
  intro m
  induction m with
  | zero =>
    intro x g hx hg h26
    obtain ⟨g, rfl⟩ : ∃ z, g = z + 1 := ⟨g - 1, by omega⟩
    have e25 : shW w x 25 = nI c := by unfold shW; rw [if_neg (by omega)]; exact h25
    rw [f_X4_leaveTrail_144, e25, show (26 : Int32) = nI 26 from rfl, show (2 : Int32) = nI 2 from rfl, nI_mul, nI_add, pk_sub (by omega), if_pos (nI_le (by omega) (by omega)), Option.bind_some, show (1 : Int32) = nI 1 from rfl, pk_sub (by omega), show x = 24 + 2 * c by omega]
  | succ m ih =>
    intro x g hx hg h26
    obtain ⟨g, rfl⟩ : ∃ z, g = z + 1 := ⟨g - 1, by omega⟩
    have e25 : shW w x 25 = nI c := by unfold shW; rw [if_neg (by omega)]; exact h25
    have e2 : shW w x (x + 2) = w (x + 2) := by unfold shW; rw [if_neg (by omega)]
    rw [f_X4_leaveTrail_144, e25, show (26 : Int32) = nI 26 from rfl, show (2 : Int32) = nI 2 from rfl, nI_mul, nI_add, pk_sub (by omega), if_neg (nI_ge (by omega) (by omega)), nI_add, if_neg (ixN (by omega) (by omega)), if_neg (ixN (by omega) (by omega)), Option.bind_some, nI_clamp (by omega), nI_clamp (by omega), e2, shW_step w h26, nI_1]
    exact ih (x + 1) g (by omega) (by omega) (by omega)
/-- the reference's trail, its first pairs dropped -/
theorem P_drop {t q win sp d e : Nat} (ht : t ≤ 90000) (hq : q ≤ 120) (hw : win ≤ 60) (hde : d ≤ e) (he : e ≤ 61) (T P : Nat → Nat) (hd : ∀ i, i < d → (T i : Int) < (t : Int) - win) (hk : d < e → ¬ (T d : Int) < (t : Int) - win) (hTd : d < e → T d < t) (hPd : d < e → P d ≤ q) (hTb : ∀ i, i < e → T i ≤ t) (w : Nat → Int32) (h10 : w 10 = nI t) (h6 : w 6 = nI win) (h12 : w 12 = nI sp) : ∀ m k g (v : Nat → Int32), k + m = d → m < g → (∀ i, (i < 25 ∨ 150 ≤ i) → v i = w i) → v 25 = nI (e + 1 - k) → (∀ i, i + k < e → v (26 + 2 * i) = nI (T (k + i)) ∧ v (27 + 2 * i) = nI (P (k + i))) → v (26 + 2 * (e - k)) = nI t → v (27 + 2 * (e - k)) = nI q → ∃ v', f_X4_leaveTrail_116 g v = some v' ∧ (∀ i, (i < 25 ∨ 150 ≤ i) → ¬ i = 12 → v' i = w i) ∧ v' 12 = nI (spN T P t q sp d e) ∧ v' 25 = nI (e - d + 1) ∧ (∀ i, i < e - d → v' (26 + 2 * i) = nI (T (d + i)) ∧ v' (27 + 2 * i) = nI (P (d + i))) ∧ v' (26 + 2 * (e - d)) = nI t ∧ v' (27 + 2 * (e - d)) = nI q := by
  intro m
  induction m with
  | zero =>
    intro k g v hkd hg ho h25 hT hl1 hl2
    obtain ⟨g, rfl⟩ : ∃ z, g = z + 1 := ⟨g - 1, by omega⟩
    obtain rfl : k = d := by omega
    have e26 : ¬ v 26 < nI t - nI win := by
      rw [nI_iI t, nI_iI win, iI_sub]
      rcases Nat.lt_or_ge k e with z | z
      · have := (hT 0 (by omega)).1
        rw [Nat.mul_zero, Nat.add_zero] at this
        have b := hTb k z
        rw [show v 26 = nI (T k) from this, nI_iI, iI_lt (by omega)]
        exact hk z
      · have : v 26 = nI t := by
          have := hl1
          rw [show 26 + 2 * (e - k) = 26 by omega] at this
          exact this
        rw [this, nI_iI, iI_lt (by omega)]
        omega
    rw [f_X4_leaveTrail_116, ho 10 (by omega), ho 6 (by omega), h10, h6, if_pos (Int32.not_lt.mp e26), h25]
    by_cases z : k < e
    · have h0 := hT 0 (by omega)
      rw [Nat.mul_zero, Nat.add_zero] at h0
      have h0' : v 26 = nI (T k) ∧ v 27 = nI (P k) := h0
      obtain ⟨s1, s2, s3⟩ := spI (hPd z) hq (hTd z) ht
      rw [if_neg (show ¬ nI (e + 1 - k) ≤ 1 from nI_ge (a := 1) (by omega) (by omega)), show (26 : Int32) = nI 26 from rfl, show (2 : Int32) = nI 2 from rfl, nI_mul, nI_add, pk_sub (by omega), show (1 : Int32) = nI 1 from rfl, nI_add, if_neg (ixN (by omega) (by omega)), if_neg (ixN (by omega) (by omega)), nI_clamp (by omega), nI_clamp (by omega), show 26 + 2 * (e + 1 - k) - 2 = 26 + 2 * (e - k) by omega, show 26 + 2 * (e - k) + 1 = 27 + 2 * (e - k) by omega, hl1, hl2, h0'.1, h0'.2, if_neg s2, Option.bind_some, s1]
      refine ⟨_, rfl, fun i hi hn => ?_, ?_, ?_, fun i hi => ?_, ?_, ?_⟩
      · rw [upd_ne _ _ hn]; exact ho i hi
      · rw [upd_eq]; unfold spN; rw [if_pos z]
      · rw [upd_ne _ _ (by omega), h25, show e + 1 - k = e - k + 1 by omega]
      · rw [upd_ne _ _ (by omega), upd_ne _ _ (by omega)]; exact hT i (by omega)
      · rw [upd_ne _ _ (by omega)]; exact hl1
      · rw [upd_ne _ _ (by omega)]; exact hl2
    · rw [if_pos (show nI (e + 1 - k) ≤ 1 from nI_le (b := 1) (by omega) (by omega))]
      refine ⟨v, rfl, fun i hi hn => ho i hi, ?_, ?_, fun i hi => hT i (by omega), hl1, hl2⟩
      · unfold spN; rw [if_neg z, ho 12 (by omega)]; exact h12
      · rw [h25, show e + 1 - k = e - k + 1 by omega]
  | succ m ih =>
    intro k g v hkd hg ho h25 hT hl1 hl2
    obtain ⟨g, rfl⟩ : ∃ z, g = z + 1 := ⟨g - 1, by omega⟩
    have e26 : v 26 < nI t - nI win := by
      have := (hT 0 (by omega)).1
      rw [Nat.mul_zero, Nat.add_zero] at this
      have b := hTb k (by omega)
      rw [show v 26 = nI (T k) from this, nI_iI t, nI_iI win, iI_sub, nI_iI, iI_lt (by omega)]
      exact hd k (by omega)
    rw [f_X4_leaveTrail_116, ho 10 (by omega), ho 6 (by omega), h10, h6, if_neg (fun q => absurd e26 (Int32.not_lt.mpr q))]
    have sh := P_shift (c := e + 1 - k) (by omega) v h25 (f_X4_leaveTrail_116 g) (24 + 2 * (e + 1 - k) - 26) 26 gas (by omega) (by unfold gas; omega) (Nat.le_refl _)
    rw [shW_0] at sh
    rw [show (26 : Int32) = nI 26 from rfl, sh]
    have at_lo : ∀ i, 26 ≤ i → i < 24 + 2 * (e + 1 - k) → upd (shW v (24 + 2 * (e + 1 - k))) 25 (nI (e + 1 - k - 1)) i = v (i + 2) := by
      intro i h1 h2
      rw [upd_ne _ _ (by omega)]
      unfold shW
      rw [if_pos ⟨h1, h2⟩]
    refine ih (k + 1) g _ (by omega) (by omega) (fun i hi => ?_) ?_ (fun i hi => ?_) ?_ ?_
    · rw [upd_ne _ _ (by omega)]
      unfold shW
      rw [if_neg (by omega)]
      exact ho i hi
    · rw [upd_eq, show e + 1 - k - 1 = e + 1 - (k + 1) by omega]
    · rw [at_lo _ (by omega) (by omega), at_lo _ (by omega) (by omega), show 26 + 2 * i + 2 = 26 + 2 * (i + 1) by omega, show 27 + 2 * i + 2 = 27 + 2 * (i + 1) by omega, show k + 1 + i = k + (i + 1) by omega]
      exact hT (i + 1) (by omega)
    · rw [at_lo _ (by omega) (by omega), show 26 + 2 * (e - (k + 1)) + 2 = 26 + 2 * (e - k) by omega]
      exact hl1
    · rw [at_lo _ (by omega) (by omega), show 27 + 2 * (e - (k + 1)) + 2 = 27 + 2 * (e - k) by omega]
      exact hl2
