/-! unique -/
def samE (L : Nat → Int32) (a b : Nat) : Nat → Nat → Bool
  | 0, _ => true
  | m + 1, t => if L (a - t) = L (b - t) then samE L a b m (t + 1) else false
theorem P_sameEnd {a b len : Nat} (ha : a < 120) (hb : b < 120) (hl : len ≤ 4) (hla : len ≤ a + 1) (hlb : len ≤ b + 1) (L : Nat → Int32) : ∀ m t g, t + m = len → m < g → f_X0_sameEnding_3 L (nI a) (nI b) (nI len) g (nI t) = some (if samE L a b m t = true then 1 else 0) := by
  intro m
  induction m with
  | zero =>
    intro t g ht hg
    obtain ⟨g, rfl⟩ : ∃ z, g = z + 1 := ⟨g - 1, by omega⟩
    rw [f_X0_sameEnding_3, if_pos (nI_le (by omega) (by omega))]
    rfl
  | succ m ih =>
    intro t g ht hg
    obtain ⟨g, rfl⟩ : ∃ z, g = z + 1 := ⟨g - 1, by omega⟩
    rw [f_X0_sameEnding_3, if_neg (nI_ge (by omega) (by omega)), pk_sub (by omega), pk_sub (by omega), P_at (by omega) (by omega), Option.bind_some, P_at (by omega) (by omega), Option.bind_some]
    unfold samE
    by_cases c : L (a - t) = L (b - t)
    · rw [if_pos c, if_pos c, nI_1]
      exact ih (t + 1) g (by omega) (by omega)
    · rw [if_neg c, if_neg c]
      rfl
theorem P_sameM {a b len n : Nat} (ha : a < 120) (hb : b < 120) (hl : len ≤ 4) (hla : len ≤ a + 1) (hlb : len ≤ b + 1) (K : Int32 → Option Int32) (w : Nat → Int32) : ∀ m t g, t + m = len → m < g → f_X4_isElsewhere_30 K w (nI a) (nI len) (nI b) g 1 (nI t) = (if samE (fun i => w (150 + i)) a b m t = true then some 1 else K (nI b + 1)) := by
  intro m
  induction m with
  | zero =>
    intro t g ht hg
    obtain ⟨g, rfl⟩ : ∃ z, g = z + 1 := ⟨g - 1, by omega⟩
    rw [f_X4_isElsewhere_30, if_pos (nI_le (by omega) (by omega))]
    unfold f_X4_isElsewhere_83
    rw [if_neg (by decide)]
    rfl
  | succ m ih =>
    intro t g ht hg
    obtain ⟨g, rfl⟩ : ∃ z, g = z + 1 := ⟨g - 1, by omega⟩
    rw [f_X4_isElsewhere_30, if_neg (nI_ge (by omega) (by omega)), if_neg (by decide), show (150 : Int32) = nI 150 from rfl, nI_add, nI_add, pk_sub (by omega), pk_sub (by omega), if_neg (ixN (by omega) (by omega)), if_neg (ixN (by omega) (by omega)), nI_clamp (by omega), nI_clamp (by omega), nI_1, show 150 + b - t = 150 + (b - t) by omega, show 150 + a - t = 150 + (a - t) by omega]
    unfold samE
    by_cases c : w (150 + (b - t)) = w (150 + (a - t))
    · rw [if_pos c, if_pos (show (fun i => w (150 + i)) (a - t) = (fun i => w (150 + i)) (b - t) from c.symm)]
      exact ih (t + 1) g (by omega) (by omega)
    · rw [if_neg c, if_neg (show ¬ (fun i => w (150 + i)) (a - t) = (fun i => w (150 + i)) (b - t) from fun q => c q.symm)]
      rw [if_neg (show ¬ false = true by decide)]
      obtain ⟨g, rfl⟩ : ∃ z, g = z + 1 := ⟨g - 1, by omega⟩
      rw [f_X4_isElsewhere_30]
      unfold f_X4_isElsewhere_83
      rw [if_pos rfl, if_pos rfl, ite_self]
def elsN (L : Nat → Int32) (a len : Nat) : Nat → Nat → Bool
  | 0, _ => false
  | m + 1, k => if k = a then elsN L a len m (k + 1) else if samE L a k len 0 = true then true else elsN L a len m (k + 1)
theorem P_els {a len n : Nat} (ha : a < n) (hn : n ≤ 120) (hl : 1 ≤ len ∧ len ≤ 4) (hla : len ≤ a + 1) (L : Nat → Int32) : ∀ m k g, k + m = n → m < g → len ≤ k + 1 → f_X0_endsElsewhere_4 (nI n) L (nI a) (nI len) g (nI k) = some (if elsN L a len m k = true then 1 else 0) := by
  intro m
  induction m with
  | zero =>
    intro k g hk hg hlk
    obtain ⟨g, rfl⟩ : ∃ z, g = z + 1 := ⟨g - 1, by omega⟩
    rw [f_X0_endsElsewhere_4, if_pos (nI_le (by omega) (by omega))]
    rfl
  | succ m ih =>
    intro k g hk hg hlk
    obtain ⟨g, rfl⟩ : ∃ z, g = z + 1 := ⟨g - 1, by omega⟩
    have i1 := ih (k + 1) g (by omega) (by omega) (by omega)
    rw [f_X0_endsElsewhere_4, if_neg (nI_ge (by omega) (by omega)), nI_1]
    unfold elsN
    by_cases c : k = a
    · rw [if_pos (by rw [c]), if_pos c]
      exact i1
    · rw [if_neg (fun q => c ((nI_eq (by omega) (by omega)).mp q)), if_neg c]
      unfold f_X0_sameEnding
      rw [show (0 : Int32) = nI 0 from rfl, P_sameEnd (by omega) (by omega) hl.2 hla hlk L len 0 gas (by omega) (by unfold gas; omega), Option.bind_some]
      by_cases d : samE L a k len 0 = true
      · rw [if_pos d, if_neg (by decide), if_pos d]
        rfl
      · rw [if_neg d, if_pos (by decide), if_neg d]
        exact i1
theorem P_elsM {a len n : Nat} (ha : a < n) (hn : n ≤ 120) (hl : 1 ≤ len ∧ len ≤ 4) (hla : len ≤ a + 1) (w : Nat → Int32) (h9 : w 9 = nI n) : ∀ m k g, k + m = n → m < g → len ≤ k + 1 → f_X4_isElsewhere_4 w (nI a) (nI len) g (nI k) = some (if elsN (fun i => w (150 + i)) a len m k = true then 1 else 0) := by
  intro m
  induction m with
  | zero =>
    intro k g hk hg hlk
    obtain ⟨g, rfl⟩ : ∃ z, g = z + 1 := ⟨g - 1, by omega⟩
    rw [f_X4_isElsewhere_4, h9, if_pos (nI_le (by omega) (by omega))]
    rfl
  | succ m ih =>
    intro k g hk hg hlk
    obtain ⟨g, rfl⟩ : ∃ z, g = z + 1 := ⟨g - 1, by omega⟩
    have i1 := ih (k + 1) g (by omega) (by omega) (by omega)
    rw [f_X4_isElsewhere_4, h9, if_neg (nI_ge (by omega) (by omega))]
    unfold elsN
    by_cases c : k = a
    · rw [if_pos (by rw [c]), if_pos c]
      obtain ⟨q, hq⟩ : ∃ q, gas = q + 1 := ⟨gas - 1, by unfold gas; rfl⟩
      rw [hq, f_X4_isElsewhere_30, if_neg (show ¬ nI len ≤ 0 from nI_nle (by omega) (by omega)), if_pos rfl]
      unfold f_X4_isElsewhere_83
      rw [if_pos rfl, nI_1]
      exact i1
    · rw [if_neg (fun q => c ((nI_eq (by omega) (by omega)).mp q)), if_neg c]
      rw [show (f_X4_isElsewhere_30 (f_X4_isElsewhere_4 w (nI a) (nI len) g) w (nI a) (nI len) (nI k) gas 1 0) = _ from P_sameM (n := n) (by omega) (by omega) hl.2 hla hlk (f_X4_isElsewhere_4 w (nI a) (nI len) g) w len 0 gas (by omega) (by unfold gas; omega)]
      by_cases d : samE (fun i => w (150 + i)) a k len 0 = true
      · rw [if_pos d, if_pos d]
        rfl
      · rw [if_neg d, if_neg d, nI_1]
        exact i1
theorem samE_congr {L L' : Nat → Int32} {a b : Nat} (h : ∀ i, i ≤ a ∨ i ≤ b → L i = L' i) : ∀ m t, samE L a b m t = samE L' a b m t := by
  intro m
  induction m with
  | zero => intro t; rfl
  | succ m ih =>
    intro t
    unfold samE
    rw [h (a - t) (by omega), h (b - t) (by omega), ih (t + 1)]
theorem elsN_congr {L L' : Nat → Int32} {a len n : Nat} (ha : a < n) (h : ∀ i, i < n → L i = L' i) : ∀ m k, k + m = n → elsN L a len m k = elsN L' a len m k := by
  intro m
  induction m with
  | zero => intro k _; rfl
  | succ m ih =>
    intro k hk
    unfold elsN
    rw [ih (k + 1) (by omega), samE_congr (fun i hi => h i (by omega))]
theorem P_uniqR {M : Nat} {w : Nat → Int32} {st : Nat → Int32} {wo pg wip rows : Int32} {le pa cu ro fi : Nat → Int32} {pr : Int32} {ti po ke : Nat → Int32} {kc ps sp tm hd top sk rp ms je ov : Int32} (r : REL M w st wo pg wip rows le pa cu ro fi pr ti po ke kc ps sp tm hd top sk rp ms je ov) (p : Int32) : ∃ v, f_X3_unique p wo le = some v ∧ f_X4_unique p w = some v := by
  unfold f_X3_unique f_X4_unique
  rcases P_has r p with ⟨a1, a2⟩ | ⟨k, n, hk, hn, c1, c2, a1, a2⟩
  · rw [a1, a2, Option.bind_some, Option.bind_some, if_pos rfl, if_pos rfl]
    exact ⟨_, rfl, rfl⟩
  · rw [a1, a2, Option.bind_some, Option.bind_some, if_neg (show ¬ (1 : Int32) = 0 by decide), if_neg (show ¬ (1 : Int32) = 0 by decide)]
    obtain ⟨z, ⟨hS, hN, hw, h20, h25, T, P, hT, hTP⟩, e1, e2, e3, e4, e5, e6⟩ := r
    have hz : n = z 9 := (nI_eq (by omega) (by have := hN.1; omega)).mp (by rw [← c1, e2, hw 9 (by omega)])
    have h9 : w 9 = nI n := by rw [hz]; exact hw 9 (by omega)
    have loop : ∀ m t g g', t + m = 5 → 1 ≤ t → m < g → m < g' → ∃ v, f_X0_uniqueLength_2 (nI n) le (nI k) g (nI t) = some v ∧ f_X4_unique_12 w (nI k) g' (nI t) = some v := by
      intro m
      induction m with
      | zero =>
        intro t g g' ht h1 hg hg'
        obtain ⟨g, rfl⟩ : ∃ z, g = z + 1 := ⟨g - 1, by omega⟩
        obtain ⟨g', rfl⟩ : ∃ z, g' = z + 1 := ⟨g' - 1, by omega⟩
        rw [f_X0_uniqueLength_2, f_X4_unique_12, if_pos (show (4 : Int32) < nI t from nI_lt (a := 4) (by omega) (by omega)), if_pos (show (4 : Int32) < nI t from nI_lt (a := 4) (by omega) (by omega))]
        exact ⟨_, rfl, rfl⟩
      | succ m ih =>
        intro t g g' ht h1 hg hg'
        obtain ⟨g, rfl⟩ : ∃ z, g = z + 1 := ⟨g - 1, by omega⟩
        obtain ⟨g', rfl⟩ : ∃ z, g' = z + 1 := ⟨g' - 1, by omega⟩
        rw [f_X0_uniqueLength_2, f_X4_unique_12, if_neg (show ¬ (4 : Int32) < nI t from nI_nlt (a := 4) (by omega) (by omega)), if_neg (show ¬ (4 : Int32) < nI t from nI_nlt (a := 4) (by omega) (by omega)), nI_1, nI_1]
        by_cases c : k + 1 < t
        · rw [if_pos (nI_lt c (by omega)), if_pos (nI_lt c (by omega))]
          exact ⟨_, rfl, rfl⟩
        · rw [if_neg (nI_nlt (by omega) (by omega)), if_neg (nI_nlt (by omega) (by omega))]
          unfold f_X0_endsElsewhere f_X4_isElsewhere
          rw [show (1 : Int32) = nI 1 from rfl, pk_sub (by omega), P_els (n := n) hk hn (by omega) (by omega) le (n - (t - 1)) (t - 1) gas (by omega) (by unfold gas; omega) (by omega), P_elsM (n := n) hk hn (by omega) (by omega) w h9 (n - (t - 1)) (t - 1) gas (by omega) (by unfold gas; omega) (by omega), ← elsN_congr (L := le) (L' := fun i => w (150 + i)) (n := n) hk (fun i hi => e5 i (by omega)) _ _ (by omega), Option.bind_some, Option.bind_some]
          by_cases d : elsN le k t (n - (t - 1)) (t - 1) = true
          · rw [if_pos d, if_neg (by decide), if_neg (by decide)]
            exact ih (t + 1) g g' (by omega) (by omega) (by omega) (by omega)
          · rw [if_neg d, if_pos rfl, if_pos rfl]
            exact ⟨_, rfl, rfl⟩
    rw [c1, c2]
    obtain ⟨v, v1, v2⟩ := loop 4 1 gas gas (by omega) (by omega) (by unfold gas; omega) (by unfold gas; omega)
    refine ⟨v, ?_, v2⟩
    show (f_X0_uniqueLength_2 (nI n) le (nI k) gas (nI 1)).bind _ = _
    rw [v1]
    rfl
