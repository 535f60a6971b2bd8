/-! cues -/
def nxO (c : Nat → Int32) : Nat → Nat → Option Nat
  | 0, _ => none
  | m + 1, k => if c k = 1 then some k else nxO c m (k + 1)
theorem nxt_oI (c : Nat → Int32) : ∀ m k, nxt c m k = oI (nxO c m k) := by
  intro m
  induction m with
  | zero => intro k; rfl
  | succ m ih =>
    intro k
    unfold nxt nxO
    by_cases h : c k = 1
    · rw [if_pos h, if_pos h]; rfl
    · rw [if_neg h, if_neg h]; exact ih (k + 1)
theorem nxO_some {c : Nat → Int32} : ∀ m k j, nxO c m k = some j → k ≤ j ∧ j < k + m ∧ c j = 1 := by
  intro m
  induction m with
  | zero => intro k j h; cases h
  | succ m ih =>
    intro k j h
    unfold nxO at h
    by_cases z : c k = 1
    · rw [if_pos z] at h
      cases h
      exact ⟨Nat.le_refl _, by omega, z⟩
    · rw [if_neg z] at h
      have := ih (k + 1) j h
      exact ⟨by omega, by omega, this.2.2⟩
theorem nxO_congr {c d : Nat → Int32} : ∀ m k, (∀ j, k ≤ j → j < k + m → c j = d j) → nxO c m k = nxO d m k := by
  intro m
  induction m with
  | zero => intro k _; rfl
  | succ m ih =>
    intro k h
    unfold nxO
    rw [h k (by omega) (by omega), ih (k + 1) (fun j h1 h2 => h j (by omega) (by omega))]
/-- how many cues there are from k on -/
def cuN (c : Nat → Int32) : Nat → Nat → Nat
  | 0, _ => 0
  | m + 1, k => (if c k = 0 then 0 else 1) + cuN c m (k + 1)
theorem cuN_congr {c d : Nat → Int32} : ∀ m k, (∀ j, k ≤ j → j < k + m → c j = d j) → cuN c m k = cuN d m k := by
  intro m
  induction m with
  | zero => intro k _; rfl
  | succ m ih =>
    intro k h
    unfold cuN
    rw [h k (by omega) (by omega), ih (k + 1) (fun j h1 h2 => h j (by omega) (by omega))]
theorem P_cueCount_l {n : Nat} (hn : n ≤ 120) (c : Nat → Int32) : ∀ m k g a, k + m = n → m < g → a ≤ k → f_X0_cueCount_4 (nI n) c g (nI a) (nI k) = some (nI (a + cuN c m k)) := by
  intro m
  induction m with
  | zero =>
    intro k g a hk hg ha
    obtain ⟨g, rfl⟩ : ∃ z, g = z + 1 := ⟨g - 1, by omega⟩
    rw [f_X0_cueCount_4, if_pos (nI_le (by omega) (by omega))]
    rfl
  | succ m ih =>
    intro k g a hk hg ha
    obtain ⟨g, rfl⟩ : ∃ z, g = z + 1 := ⟨g - 1, by omega⟩
    rw [f_X0_cueCount_4, if_neg (nI_ge (by omega) (by omega)), P_at (by omega) (by omega), Option.bind_some]
    unfold cuN
    by_cases h : c k = 0
    · rw [if_pos h, if_pos h, nI_1, Nat.zero_add]
      exact ih (k + 1) g a (by omega) (by omega) (by omega)
    · rw [if_neg h, if_neg h, nI_1, show (1 : Int32) = nI 1 from rfl, nI_add, ← Nat.add_assoc]
      exact ih (k + 1) g (a + 1) (by omega) (by omega) (by omega)
theorem P_cueCount {n : Nat} (hn : n ≤ 120) (c : Nat → Int32) : f_X0_cueCount (nI n) c = some (nI (cuN c n 0)) := by
  unfold f_X0_cueCount
  have := P_cueCount_l hn c n 0 gas 0 (by omega) (by unfold gas; omega) (Nat.le_refl _)
  rw [Nat.zero_add] at this
  exact this
/-- the waiting cues before e are passed -/
def pasC (c : Nat → Int32) (e : Nat) : Nat → Int32 := fun k => if k < e ∧ c k = 1 then 3 else c k
def waN (c : Nat → Int32) : Nat → Nat
  | 0 => 0
  | k + 1 => waN c k + (if c k = 1 then 1 else 0)
theorem waN_yes {c : Nat → Int32} {k : Nat} (h : c k = 1) : waN c (k + 1) = waN c k + 1 := by
  show waN c k + (if c k = 1 then 1 else 0) = _
  rw [if_pos h]
theorem waN_no {c : Nat → Int32} {k : Nat} (h : ¬ c k = 1) : waN c (k + 1) = waN c k := by
  show waN c k + (if c k = 1 then 1 else 0) = _
  rw [if_neg h, Nat.add_zero]
theorem waN_le (c : Nat → Int32) : ∀ k, waN c k ≤ k := by
  intro k
  induction k with
  | zero => exact Nat.le_refl _
  | succ k ih => unfold waN; split <;> omega
theorem waN_congr {c d : Nat → Int32} : ∀ k, (∀ j, j < k → c j = d j) → waN c k = waN d k := by
  intro k
  induction k with
  | zero => intro _; rfl
  | succ k ih =>
    intro h
    unfold waN
    rw [ih (fun j hj => h j (by omega)), h k (by omega)]
theorem pasC_0 (c : Nat → Int32) : pasC c 0 = c := by
  funext k
  unfold pasC
  rw [if_neg (fun q => Nat.not_lt_zero _ q.1)]
theorem pasC_at (c : Nat → Int32) (k : Nat) : pasC c k k = c k := by
  unfold pasC
  rw [if_neg (fun q => Nat.lt_irrefl _ q.1)]
theorem pasC_yes {c : Nat → Int32} {k : Nat} (h : c k = 1) : upd (pasC c k) k 3 = pasC c (k + 1) := by
  funext j
  unfold upd pasC
  by_cases z : j = k
  · rw [if_pos z, z, if_pos ⟨Nat.lt_succ_self _, h⟩]
  · rw [if_neg z]
    by_cases y : j < k ∧ c j = 1
    · rw [if_pos y, if_pos ⟨by omega, y.2⟩]
    · rw [if_neg y, if_neg (fun q => y ⟨by omega, q.2⟩)]
theorem pasC_no {c : Nat → Int32} {k : Nat} (h : ¬ c k = 1) : pasC c k = pasC c (k + 1) := by
  funext j
  unfold pasC
  by_cases z : j = k
  · rw [z, if_neg (fun q => Nat.lt_irrefl _ q.1), if_neg (fun q => h q.2)]
  · by_cases y : j < k ∧ c j = 1
    · rw [if_pos y, if_pos ⟨by omega, y.2⟩]
    · rw [if_neg y, if_neg (fun q => y ⟨by omega, q.2⟩)]
theorem P_pass_l {n e : Nat} (hn : n ≤ 120) (he : e ≤ n) (c : Nat → Int32) : ∀ m k g, k + m = e → m < g → f_X0_passWaitingBefore_4 (nI n) (nI e) g (nI (waN c k)) (nI k) (pasC c k) = some (nI (waN c e), pasC c e) := by
  intro m
  induction m with
  | zero =>
    intro k g hk hg
    obtain ⟨g, rfl⟩ : ∃ z, g = z + 1 := ⟨g - 1, by omega⟩
    obtain rfl : k = e := by omega
    rw [f_X0_passWaitingBefore_4]
    by_cases h : nI n ≤ nI k
    · rw [if_pos h]
    · rw [if_neg h, if_pos (nI_le (Nat.le_refl _) (by omega))]
  | succ m ih =>
    intro k g hk hg
    obtain ⟨g, rfl⟩ : ∃ z, g = z + 1 := ⟨g - 1, by omega⟩
    have hw := waN_le c k
    rw [f_X0_passWaitingBefore_4, if_neg (nI_ge (by omega) (by omega)), if_neg (nI_ge (by omega) (by omega)), P_at (by omega) (by omega), Option.bind_some, pasC_at]
    have r := ih (k + 1) g (by omega) (by omega)
    by_cases h : c k = 1
    · rw [if_pos h, P_put (by omega) (by omega), Option.bind_some, pasC_yes h, nI_1, show (1 : Int32) = nI 1 from rfl, nI_add]
      rw [waN_yes h] at r
      exact r
    · rw [if_neg h, nI_1, pasC_no h]
      rw [waN_no h] at r
      exact r
theorem P_pass {n e : Nat} (hn : n ≤ 120) (he : e ≤ n) (c : Nat → Int32) : f_X0_passWaitingBefore (nI e) (nI n) c = some (nI (waN c e), pasC c e) := by
  unfold f_X0_passWaitingBefore
  have := P_pass_l hn he c e 0 gas (by omega) (by unfold gas; omega)
  rw [pasC_0] at this
  exact this
/-- all cues before s are passed, the others wait -/
def setC (c : Nat → Int32) (s e : Nat) : Nat → Int32 := fun k => if k < e ∧ ¬ c k = 0 then (if s ≤ k then 1 else 3) else c k
theorem setC_0 (c : Nat → Int32) (s : Nat) : setC c s 0 = c := by
  funext k
  unfold setC
  rw [if_neg (fun q => Nat.not_lt_zero _ q.1)]
theorem setC_at (c : Nat → Int32) (s k : Nat) : setC c s k k = c k := by
  unfold setC
  rw [if_neg (fun q => Nat.lt_irrefl _ q.1)]
theorem setC_yes {c : Nat → Int32} {s k : Nat} (h : ¬ c k = 0) : upd (setC c s k) k (if s ≤ k then 1 else 3) = setC c s (k + 1) := by
  funext j
  unfold upd setC
  by_cases z : j = k
  · rw [if_pos z, z, if_pos (show k < k + 1 ∧ ¬ c k = 0 from ⟨Nat.lt_succ_self _, h⟩)]
  · rw [if_neg z]
    by_cases y : j < k ∧ ¬ c j = 0
    · rw [if_pos y, if_pos (show j < k + 1 ∧ ¬ c j = 0 from ⟨by omega, y.2⟩)]
    · rw [if_neg y, if_neg (show ¬ (j < k + 1 ∧ ¬ c j = 0) from fun q => y ⟨by omega, q.2⟩)]
theorem setC_no {c : Nat → Int32} {s k : Nat} (h : c k = 0) : setC c s k = setC c s (k + 1) := by
  funext j
  unfold setC
  by_cases z : j = k
  · rw [z, if_neg (show ¬ (k < k ∧ ¬ c k = 0) from fun q => Nat.lt_irrefl _ q.1), if_neg (show ¬ (k < k + 1 ∧ ¬ c k = 0) from fun q => q.2 h)]
  · by_cases y : j < k ∧ ¬ c j = 0
    · rw [if_pos y, if_pos (show j < k + 1 ∧ ¬ c j = 0 from ⟨by omega, y.2⟩)]
    · rw [if_neg y, if_neg (show ¬ (j < k + 1 ∧ ¬ c j = 0) from fun q => y ⟨by omega, q.2⟩)]
theorem P_setCues_l {n s : Nat} (hn : n ≤ 120) (hs : s ≤ 120) (c : Nat → Int32) : ∀ m k g, k + m = n → m < g → f_X0_setCuesAround_2 (nI n) (nI s) g (nI k) (setC c s k) = some (setC c s n) := by
  intro m
  induction m with
  | zero =>
    intro k g hk hg
    obtain ⟨g, rfl⟩ : ∃ z, g = z + 1 := ⟨g - 1, by omega⟩
    obtain rfl : k = n := by omega
    rw [f_X0_setCuesAround_2, if_pos (nI_le (Nat.le_refl _) (by omega))]
  | succ m ih =>
    intro k g hk hg
    obtain ⟨g, rfl⟩ : ∃ z, g = z + 1 := ⟨g - 1, by omega⟩
    have r := ih (k + 1) g (by omega) (by omega)
    rw [f_X0_setCuesAround_2, if_neg (nI_ge (by omega) (by omega)), P_at (by omega) (by omega), Option.bind_some, setC_at]
    unfold f_X0_setCuesAround_36
    by_cases h : c k = 0
    · rw [if_pos h, nI_1, setC_no h]
      exact r
    · rw [if_neg h, P_put (by omega) (by omega), P_put (by omega) (by omega), Option.bind_some, Option.bind_some, nI_1]
      have y := setC_yes (s := s) h
      by_cases z : s ≤ k
      · rw [if_pos (nI_le z (by omega))]
        rw [if_pos z] at y
        rw [y]
        exact r
      · rw [if_neg (nI_ge (by omega) (by omega))]
        rw [if_neg z] at y
        rw [y]
        exact r
theorem P_setCues {n s : Nat} (hn : n ≤ 120) (hs : s ≤ 120) (c : Nat → Int32) : f_X0_setCuesAround (nI s) (nI n) c = some (setC c s n) := by
  unfold f_X0_setCuesAround
  have := P_setCues_l hn hs c n 0 gas (by omega) (by unfold gas; omega)
  rw [setC_0] at this
  exact this
theorem P_freeCue {k : Nat} (h : k < 120) (c : Nat → Int32) : f_X0_freeCue (nI k) c = some (upd c k 2) := by
  unfold f_X0_freeCue
  rw [P_put h (by omega), Option.bind_some]
/-! what the reference does to its cues, place by place -/
theorem P_cuesM_l {n : Nat} (hn : n ≤ 120) (w : Nat → Int32) (h9 : w 9 = nI n) : ∀ m k g a, k + m = n → m < g → a ≤ k → f_X4_cues_4 w g (nI a) (nI k) = some (nI (a + cuN (fun j => w (270 + j)) m k)) := by
  intro m
  induction m with
  | zero =>
    intro k g a hk hg ha
    obtain ⟨g, rfl⟩ : ∃ z, g = z + 1 := ⟨g - 1, by omega⟩
    rw [f_X4_cues_4, h9, if_pos (nI_le (by omega) (by omega))]
    rfl
  | succ m ih =>
    intro k g a hk hg ha
    obtain ⟨g, rfl⟩ : ∃ z, g = z + 1 := ⟨g - 1, by omega⟩
    rw [f_X4_cues_4, h9, if_neg (nI_ge (by omega) (by omega)), show (270 : Int32) = nI 270 from rfl, nI_add, if_neg (ixN (by omega) (by omega)), nI_clamp (by omega)]
    unfold cuN
    by_cases h : w (270 + k) = 0
    · rw [if_pos h, if_pos h, nI_1, Nat.zero_add, show nI a + 0 = nI a from nI_add a 0]
      exact ih (k + 1) g a (by omega) (by omega) (by omega)
    · rw [if_neg h, if_neg h, nI_1, show (1 : Int32) = nI 1 from rfl, nI_add, ← Nat.add_assoc]
      exact ih (k + 1) g (a + 1) (by omega) (by omega) (by omega)
theorem P_cuesM {n : Nat} (hn : n ≤ 120) (w : Nat → Int32) (h9 : w 9 = nI n) : f_X4_cues w = some (nI (cuN (fun j => w (270 + j)) n 0)) := by
  unfold f_X4_cues
  have := P_cuesM_l hn w h9 n 0 gas 0 (by omega) (by unfold gas; omega) (Nat.le_refl _)
  rw [Nat.zero_add] at this
  exact this
