/-! the best candidate -/
def oI : Option Nat → Int32
  | none => iI (-9)
  | some k => nI k
theorem oI_n (k : Nat) (h : k < 2 ^ 31) : ¬ nI k = iI (-9) := by
  rw [nI_iI, iI_eq (by omega)]
  omega
def dst (p j : Nat) : Nat := if p ≤ j then j - p else p - j
def btr (L K : Nat → Int32) (kc p j b : Nat) : Bool := decide (sc L K kc b < sc L K kc j) || (decide (sc L K kc j = sc L K kc b) && decide (dst p j < dst p b))
theorem absN {p j : Nat} (hp : p < 1000) (hj : j < 1000) : (if 0 ≤ nI j - nI p then nI j - nI p else 0 - (nI j - nI p)) = nI (dst p j) := by
  unfold dst
  by_cases h : p ≤ j
  · rw [if_pos h, pk_sub h, if_pos (nI_pos' (by omega))]
  · have e : nI j - nI p = iI ((j : Int) - (p : Int)) := by rw [nI_iI, nI_iI, iI_sub]
    have z : (0 : Int32) = iI 0 := by decide
    rw [if_neg h, e, z, ifLe (by omega), if_neg (by omega), iI_sub, nI_iI]
    congr 1
    omega
theorem P_isBetter {kc j b p : Nat} (hkc : kc ≤ 4) (hj : j < 120) (hb : b < 120) (hp : p ≤ 120) (L K : Nat → Int32) : f_X1_isBetter (nI j) (nI b) L K (nI kc) (nI p) = some (if btr L K kc p j b = true then 1 else 0) := by
  have s1 := sc_le L K kc j
  have s2 := sc_le L K kc b
  unfold f_X1_isBetter
  rw [P_points hkc hj, Option.bind_some, P_points hkc hb, Option.bind_some, absN (by omega) (by omega), absN (by omega) (by omega)]
  have d1 : dst p j < 1000 := by unfold dst; split <;> omega
  have d2 : dst p b < 1000 := by unfold dst; split <;> omega
  unfold btr
  by_cases c1 : sc L K kc j = sc L K kc b
  · rw [if_pos (by rw [c1])]
    by_cases c2 : dst p b ≤ dst p j
    · rw [if_pos (nI_le c2 (by omega)), if_neg]
      simp [c1]
      omega
    · rw [if_neg (nI_ge (by omega) (by omega)), if_pos]
      simp [c1]
      omega
  · rw [if_neg (fun q => c1 ((nI_eq (by omega) (by omega)).mp q))]
    by_cases c2 : sc L K kc j ≤ sc L K kc b
    · rw [if_pos (nI_le c2 (by omega)), if_neg]
      simp [c1]
      omega
    · rw [if_neg (nI_ge (by omega) (by omega)), if_pos]
      simp [c1]
      omega
/-- the better of what was best and the word k, if it is a candidate -/
def bst (L K : Nat → Int32) (kc p : Nat) (k : Nat) : Option Nat → Option Nat
  | none => some k
  | some b => if btr L K kc p k b = true then some k else some b
def bsN (L K : Nat → Int32) (kc p : Nat) (x : Int32) : Nat → Nat → Option Nat → Option Nat
  | 0, _, b => b
  | m + 1, k, b => bsN L K kc p x m (k + 1) (if L k = x then bst L K kc p k b else b)
theorem bst_lt {L K : Nat → Int32} {kc p k n : Nat} {b : Option Nat} (hk : k < n) (hb : ∀ j, b = some j → j < n) : ∀ j, bst L K kc p k b = some j → j < n := by
  intro j h
  cases b with
  | none => cases h; exact hk
  | some b =>
    have h : (if btr L K kc p k b = true then some k else some b) = some j := h
    by_cases c : btr L K kc p k b = true
    · rw [if_pos c] at h; cases h; exact hk
    · rw [if_neg c] at h; cases h; exact hb _ rfl
theorem bst_yes {L K : Nat → Int32} {kc p k b : Nat} (c : btr L K kc p k b = true) : bst L K kc p k (some b) = some k := by
  show (if btr L K kc p k b = true then some k else some b) = _
  rw [if_pos c]
theorem bst_no {L K : Nat → Int32} {kc p k b : Nat} (c : ¬ btr L K kc p k b = true) : bst L K kc p k (some b) = some b := by
  show (if btr L K kc p k b = true then some k else some b) = _
  rw [if_neg c]
theorem P_best_l {kc p hi : Nat} (hkc : kc ≤ 4) (hp : p ≤ 120) (hhi : hi ≤ 120) (L K : Nat → Int32) (x : Int32) : ∀ m k g b, k + m = hi → m < g → (∀ j, b = some j → j < k) → f_X1_bestCandidate_51 L K (nI kc) (nI p) x (iI ((hi : Int) - 1)) g (oI b) (nI k) = some (oI (bsN L K kc p x m k b)) := by
  intro m
  induction m with
  | zero =>
    intro k g b hk hg hb
    obtain ⟨g, rfl⟩ : ∃ z, g = z + 1 := ⟨g - 1, by omega⟩
    rw [f_X1_bestCandidate_51, if_pos (by rw [nI_iI, iI_lt (by omega)]; omega)]
    rfl
  | succ m ih =>
    intro k g b hk hg hb
    obtain ⟨g, rfl⟩ : ∃ z, g = z + 1 := ⟨g - 1, by omega⟩
    rw [f_X1_bestCandidate_51, if_neg (by rw [nI_iI, iI_lt (by omega)]; omega), P_at (by omega) (by omega), Option.bind_some]
    unfold bsN
    by_cases c1 : L k = x
    · rw [if_pos c1, if_pos c1]
      cases b with
      | none =>
        rw [show oI none = (-9 : Int32) from m9.symm, if_pos rfl, nI_1]
        exact ih (k + 1) g (some k) (by omega) (by omega) (fun j h => by cases h; omega)
      | some b =>
        have hb' := hb b rfl
        rw [show oI (some b) = nI b from rfl, if_neg (by rw [m9]; exact oI_n b (by omega)), P_isBetter hkc (by omega) (by omega) hp, Option.bind_some, nI_1]
        by_cases c2 : btr L K kc p k b = true
        · rw [if_pos c2, if_neg (by decide)]
          have := ih (k + 1) g (some k) (by omega) (by omega) (fun j h => by cases h; omega)
          rw [bst_yes c2]
          exact this
        · rw [if_neg c2, if_pos rfl]
          have := ih (k + 1) g (some b) (by omega) (by omega) (fun j h => by cases h; omega)
          rw [bst_no c2]
          exact this
    · rw [if_neg c1, if_neg c1, nI_1]
      exact ih (k + 1) g b (by omega) (by omega) (fun j h => Nat.lt_succ_of_lt (hb j h))
/-- the candidates stand from lo on, before hi -/
def loW (p bk : Nat) : Nat := p - bk
def hiW (n p ah : Nat) : Nat := if p + ah < n - 1 then p + ah + 1 else n
def bestN (L K : Nat → Int32) (kc p n bk ah : Nat) (x : Int32) : Option Nat := bsN L K kc p x (hiW n p ah - loW p bk) (loW p bk) none
theorem P_best {kc p n bk ah : Nat} (hkc : kc ≤ 4) (hp : p ≤ n) (hn : 1 ≤ n ∧ n ≤ 120) (hbk : bk ≤ 30) (hah : 1 ≤ ah ∧ ah ≤ 60) (L K s : Nat → Int32) (h3 : s 3 = nI bk) (h4 : s 4 = nI ah) (x : Int32) : f_X1_bestCandidate x s (nI n) L K (nI kc) (nI p) = some (oI (bestN L K kc p n bk ah x)) := by
  unfold f_X1_bestCandidate
  rw [show (3 : Int32) = nI 3 from rfl, P_at (by omega) (by omega), Option.bind_some, show (4 : Int32) = nI 4 from rfl, P_at (by omega) (by omega), Option.bind_some, h3, h4]
  have e1 : (if 0 < nI p - nI bk then nI p - nI bk else 0) = nI (loW p bk) := by
    have z : (0 : Int32) = iI 0 := by decide
    unfold loW
    rw [nI_iI, nI_iI, iI_sub, z, ifLt (by omega), nI_iI]
    by_cases h : (0 : Int) < (p : Int) - (bk : Int)
    · rw [if_pos h]; congr 1; omega
    · rw [if_neg h]; congr 1; omega
  have e2 : (if nI p + nI ah < nI n - 1 then nI p + nI ah else nI n - 1) = iI ((hiW n p ah : Nat) - 1) := by
    have z : (1 : Int32) = iI 1 := by decide
    unfold hiW
    rw [nI_iI, nI_iI, nI_iI, iI_add, z, iI_sub, ifLt (by omega)]
    by_cases h : p + ah < n - 1
    · rw [if_pos (by omega), if_pos h]; congr 1; omega
    · rw [if_neg (by omega), if_neg h]
  rw [e1, e2]
  by_cases hlh : loW p bk ≤ hiW n p ah
  · have := P_best_l (p := p) (hi := hiW n p ah) hkc (by omega) (by unfold hiW; split <;> omega) L K x (hiW n p ah - loW p bk) (loW p bk) gas none (by omega) (by unfold gas hiW; split <;> omega) (fun j h => by cases h)
    exact this
  · exact absurd (by unfold loW hiW; split <;> omega) hlh
theorem bsN_skip (L K : Nat → Int32) (kc p : Nat) (x : Int32) : ∀ a m k b, bsN L K kc p x (a + m) k b = bsN L K kc p x m (k + a) (bsN L K kc p x a k b) := by
  intro a
  induction a with
  | zero => intro m k b; rw [Nat.zero_add, Nat.add_zero]; rfl
  | succ a ih =>
    intro m k b
    rw [show a + 1 + m = (a + m) + 1 by omega]
    show bsN L K kc p x (a + m) (k + 1) _ = bsN L K kc p x m (k + (a + 1)) (bsN L K kc p x a (k + 1) _)
    rw [ih, show k + (a + 1) = k + 1 + a by omega]
theorem farM {p j : Nat} (hp : p < 1000) (hj : j < 1000) (w : Nat → Int32) (h11 : w 11 = nI p) : f_X4_far (nI j) w = some (nI (dst p j)) := by
  unfold f_X4_far dst
  rw [h11]
  by_cases h : j ≤ p
  · rw [if_pos (nI_le h (by omega)), pk_sub h]
    by_cases h2 : p ≤ j
    · rw [if_pos h2, show p - j = j - p by omega]
    · rw [if_neg h2]
  · rw [if_neg (nI_ge (by omega) (by omega)), pk_sub (by omega), if_pos (by omega)]
theorem bo103 (k5 : Int32 → Int32 → Option Int32) (x2 x3 : Int32) : f_X4_bestOf_103 k5 x2 x3 = k5 x3 (x3 + 1) := by
  unfold f_X4_bestOf_103 f_X4_bestOf_108
  rw [if_neg (by decide)]
theorem bo107 (k5 : Int32 → Int32 → Option Int32) (x2 x3 : Int32) : f_X4_bestOf_107 k5 x2 x3 = k5 x2 (x3 + 1) := by
  unfold f_X4_bestOf_107 f_X4_bestOf_108
  rw [if_pos rfl]
/-- the reference looks at all words: those outside the window change nothing -/
def bsM (L K : Nat → Int32) (kc p bk ah : Nat) (x : Int32) : Nat → Nat → Option Nat → Option Nat
  | 0, _, b => b
  | m + 1, k, b => bsM L K kc p bk ah x m (k + 1) (if L k = x ∧ p ≤ k + bk ∧ k ≤ p + ah then bst L K kc p k b else b)
theorem P_bestM_l {kc p n bk ah : Nat} (hkc : kc ≤ 4) (hp : p ≤ n) (hn : 1 ≤ n ∧ n ≤ 120) (hbk : bk ≤ 30) (hah : 1 ≤ ah ∧ ah ≤ 60) (w : Nat → Int32) (h9 : w 9 = nI n) (h20 : w 20 = nI kc) (h11 : w 11 = nI p) (h3 : w 3 = nI bk) (h4 : w 4 = nI ah) (x : Int32) : ∀ m k g b, k + m = n → m < g → (∀ j, b = some j → j < k) → f_X4_bestOf_5 w x g (oI b) (nI k) = some (oI (bsM (fun i => w (150 + i)) (fun i => w (21 + i)) kc p bk ah x m k b)) := by
  intro m
  induction m with
  | zero =>
    intro k g b hk hg hb
    obtain ⟨g, rfl⟩ : ∃ z, g = z + 1 := ⟨g - 1, by omega⟩
    rw [f_X4_bestOf_5, h9, if_pos (nI_le (by omega) (by omega))]
    rfl
  | succ m ih =>
    intro k g b hk hg hb
    obtain ⟨g, rfl⟩ : ∃ z, g = z + 1 := ⟨g - 1, by omega⟩
    have hin : ∀ (A B : Option Int32), (f_X4_isIn (nI k - nI p) (-nI bk) (nI ah)).bind (fun q => if q = 0 then A else B) = if p ≤ k + bk ∧ k ≤ p + ah then B else A := by
      intro A B
      unfold f_X4_isIn
      rw [nI_iI, nI_iI, nI_iI, nI_iI, iI_sub, iI_neg, ifLt (by omega), ifLt (by omega)]
      by_cases c1 : (k : Int) - (p : Int) < -(bk : Int)
      · rw [if_pos c1, Option.bind_some, if_pos rfl, if_neg (by omega)]
      · rw [if_neg c1]
        by_cases c2 : (ah : Int) < (k : Int) - (p : Int)
        · rw [if_pos c2, Option.bind_some, if_pos rfl, if_neg (by omega)]
        · rw [if_neg c2, Option.bind_some, if_neg (by decide), if_pos (by omega)]
    rw [f_X4_bestOf_5, h9, if_neg (nI_ge (by omega) (by omega)), show (150 : Int32) = nI 150 from rfl, nI_add, if_neg (ixN (by omega) (by omega)), nI_clamp (by omega), h11, h3, h4, hin]
    unfold bsM
    by_cases c1 : w (150 + k) = x
    · rw [if_pos c1]
      by_cases c2 : p ≤ k + bk ∧ k ≤ p + ah
      · rw [if_pos c2, if_pos (show w (150 + k) = x ∧ p ≤ k + bk ∧ k ≤ p + ah from ⟨c1, c2.1, c2.2⟩)]
        cases b with
        | none =>
          rw [show oI none = (-9 : Int32) from m9.symm, if_pos rfl, bo103, nI_1]
          exact ih (k + 1) g (some k) (by omega) (by omega) (fun j h => by cases h; omega)
        | some b =>
          have hb' := hb b rfl
          have s1 := sc_le (fun i => w (150 + i)) (fun i => w (21 + i)) kc k
          have s2 := sc_le (fun i => w (150 + i)) (fun i => w (21 + i)) kc b
          have d1 : dst p k < 1000 := by unfold dst; split <;> omega
          have d2 : dst p b < 1000 := by unfold dst; split <;> omega
          have r1 := ih (k + 1) g (some k) (by omega) (by omega) (fun j h => by cases h; omega)
          have r2 := ih (k + 1) g (some b) (by omega) (by omega) (fun j h => by cases h; omega)
          rw [show oI (some b) = nI b from rfl, if_neg (by rw [m9]; exact oI_n b (by omega)), P_score hkc (by omega) w h20, Option.bind_some, P_score hkc (by omega) w h20, Option.bind_some, Option.bind_some, Option.bind_some, farM (by omega) (by omega) w h11, Option.bind_some, farM (by omega) (by omega) w h11, Option.bind_some, bo103, bo107, nI_1]
          by_cases e1 : sc (fun i => w (150 + i)) (fun i => w (21 + i)) kc b < sc (fun i => w (150 + i)) (fun i => w (21 + i)) kc k
          · rw [if_pos (nI_lt e1 (by omega)), bst_yes (by unfold btr; simp [e1])]
            exact r1
          · rw [if_neg (nI_nlt (by omega) (by omega))]
            by_cases e2 : sc (fun i => w (150 + i)) (fun i => w (21 + i)) kc k = sc (fun i => w (150 + i)) (fun i => w (21 + i)) kc b
            · rw [if_pos (by rw [e2])]
              by_cases e3 : dst p b ≤ dst p k
              · rw [if_pos (nI_le e3 (by omega)), bst_no (by unfold btr; simp [e2]; omega)]
                exact r2
              · rw [if_neg (nI_ge (by omega) (by omega)), bst_yes (by unfold btr; simp [e2]; omega)]
                exact r1
            · rw [if_neg (fun q => e2 ((nI_eq (by omega) (by omega)).mp q)), bst_no (by unfold btr; simp [e2]; omega)]
              exact r2
      · rw [if_neg c2, if_neg (fun q => c2 q.2), nI_1]
        exact ih (k + 1) g b (by omega) (by omega) (fun j h => Nat.lt_succ_of_lt (hb j h))
    · rw [if_neg c1, if_neg (fun q => c1 q.1), nI_1]
      exact ih (k + 1) g b (by omega) (by omega) (fun j h => Nat.lt_succ_of_lt (hb j h))
theorem bsM_skip (L K : Nat → Int32) (kc p bk ah : Nat) (x : Int32) : ∀ a m k b, bsM L K kc p bk ah x (a + m) k b = bsM L K kc p bk ah x m (k + a) (bsM L K kc p bk ah x a k b) := by
  intro a
  induction a with
  | zero => intro m k b; rw [Nat.zero_add, Nat.add_zero]; rfl
  | succ a ih =>
    intro m k b
    rw [show a + 1 + m = (a + m) + 1 by omega]
    show bsM L K kc p bk ah x (a + m) (k + 1) _ = bsM L K kc p bk ah x m (k + (a + 1)) (bsM L K kc p bk ah x a (k + 1) _)
    rw [ih, show k + (a + 1) = k + 1 + a by omega]
theorem bsM_out (L K : Nat → Int32) (kc p bk ah : Nat) (x : Int32) : ∀ m k b, (∀ j, k ≤ j → j < k + m → ¬ (p ≤ j + bk ∧ j ≤ p + ah)) → bsM L K kc p bk ah x m k b = b := by
  intro m
  induction m with
  | zero => intro k b _; rfl
  | succ m ih =>
    intro k b h
    unfold bsM
    rw [if_neg (fun q => h k (Nat.le_refl _) (by omega) q.2)]
    exact ih (k + 1) b (fun j h1 h2 => h j (by omega) (by omega))
theorem bsM_in (L K : Nat → Int32) (kc p bk ah : Nat) (x : Int32) : ∀ m k b, (∀ j, k ≤ j → j < k + m → (p ≤ j + bk ∧ j ≤ p + ah)) → bsM L K kc p bk ah x m k b = bsN L K kc p x m k b := by
  intro m
  induction m with
  | zero => intro k b _; rfl
  | succ m ih =>
    intro k b h
    have hk := h k (Nat.le_refl _) (by omega)
    unfold bsM bsN
    rw [ih (k + 1) _ (fun j h1 h2 => h j (by omega) (by omega))]
    by_cases c : L k = x
    · rw [if_pos c, if_pos ⟨c, hk.1, hk.2⟩]
    · rw [if_neg c, if_neg (fun q => c q.1)]
theorem bsM_all (L K : Nat → Int32) {kc p n bk ah : Nat} (x : Int32) (hp : p ≤ n) (hn : 1 ≤ n ∧ n ≤ 120) (hah : 1 ≤ ah) : bsM L K kc p bk ah x n 0 none = bestN L K kc p n bk ah x := by
  have h1 : loW p bk ≤ hiW n p ah := by unfold loW hiW; split <;> omega
  have h2 : hiW n p ah ≤ n := by unfold hiW; split <;> omega
  have e : bsM L K kc p bk ah x n 0 none = bsM L K kc p bk ah x (loW p bk + ((hiW n p ah - loW p bk) + (n - hiW n p ah))) 0 none := by
    congr 1
    omega
  have hf : hiW n p ah ≤ p + ah + 1 ∧ (hiW n p ah = n ∨ hiW n p ah = p + ah + 1) := by unfold hiW; split <;> omega
  have lf : loW p bk = p - bk := rfl
  have o1 := bsM_out L K kc p bk ah x (loW p bk) 0 none (fun j _ h q => by omega)
  have o2 := bsM_in L K kc p bk ah x (hiW n p ah - loW p bk) (0 + loW p bk) none (fun j g1 g2 => by omega)
  have o3 := bsM_out L K kc p bk ah x (n - hiW n p ah) (0 + loW p bk + (hiW n p ah - loW p bk)) (bsN L K kc p x (hiW n p ah - loW p bk) (0 + loW p bk) none) (fun j g1 g2 q => by omega)
  rw [e, bsM_skip, bsM_skip, o1, o2, o3, Nat.zero_add]
  rfl
theorem P_bestM {kc p n bk ah : Nat} (hkc : kc ≤ 4) (hp : p ≤ n) (hn : 1 ≤ n ∧ n ≤ 120) (hbk : bk ≤ 30) (hah : 1 ≤ ah ∧ ah ≤ 60) (w : Nat → Int32) (h9 : w 9 = nI n) (h20 : w 20 = nI kc) (h11 : w 11 = nI p) (h3 : w 3 = nI bk) (h4 : w 4 = nI ah) (x : Int32) : f_X4_bestOf x w = some (oI (bestN (fun i => w (150 + i)) (fun i => w (21 + i)) kc p n bk ah x)) := by
  unfold f_X4_bestOf
  rw [← bsM_all _ _ x hp hn hah.1, m9]
  exact P_bestM_l hkc hp hn hbk hah w h9 h20 h11 h3 h4 x n 0 gas none (by omega) (by unfold gas; omega) (fun j h => by cases h)
theorem bsN_lt (L K : Nat → Int32) (kc p : Nat) (x : Int32) : ∀ m k b, (∀ j, b = some j → j < k) → ∀ j, bsN L K kc p x m k b = some j → j < k + m := by
  intro m
  induction m with
  | zero => intro k b hb j h; exact hb j h
  | succ m ih =>
    intro k b hb j h
    unfold bsN at h
    have := ih (k + 1) _ (fun i hi => by
      by_cases c : L k = x
      · rw [if_pos c] at hi
        exact bst_lt (n := k + 1) (by omega) (fun a ha => Nat.lt_succ_of_lt (hb a ha)) i hi
      · rw [if_neg c] at hi
        exact Nat.lt_succ_of_lt (hb i hi)) j h
    omega
theorem bestN_lt {L K : Nat → Int32} {kc p n bk ah : Nat} {x : Int32} (hn : 1 ≤ n) (hp : p ≤ n) (hah : 1 ≤ ah) {j : Nat} (h : bestN L K kc p n bk ah x = some j) : j < n := by
  have h1 : loW p bk ≤ hiW n p ah := by unfold loW hiW; split <;> omega
  have h2 : hiW n p ah ≤ n := by unfold hiW; split <;> omega
  have := bsN_lt L K kc p x _ _ none (fun i hi => by cases hi) j h
  omega
theorem btr_congr {L K L' K' : Nat → Int32} {kc p j b n : Nat} (hL : ∀ i, i < n → L i = L' i) (hK : ∀ i, i < kc → K i = K' i) (hj : j < n) (hb : b < n) : btr L K kc p j b = btr L' K' kc p j b := by
  have e1 : sc L K kc j = sc L' K' kc j := scN_congr (fun i hi => hL i (by omega)) hK 3 1 (by omega)
  have e2 : sc L K kc b = sc L' K' kc b := scN_congr (fun i hi => hL i (by omega)) hK 3 1 (by omega)
  unfold btr
  rw [e1, e2]
theorem bsN_congr {L K L' K' : Nat → Int32} {kc p n : Nat} (x : Int32) (hL : ∀ i, i < n → L i = L' i) (hK : ∀ i, i < kc → K i = K' i) : ∀ m k b, k + m ≤ n → (∀ j, b = some j → j < k) → bsN L K kc p x m k b = bsN L' K' kc p x m k b := by
  intro m
  induction m with
  | zero => intro k b _ _; rfl
  | succ m ih =>
    intro k b hk hb
    unfold bsN
    have e : bst L K kc p k b = bst L' K' kc p k b := by
      cases b with
      | none => rfl
      | some b =>
        show (if btr L K kc p k b = true then some k else some b) = (if btr L' K' kc p k b = true then some k else some b)
        rw [btr_congr hL hK (by omega) (by have := hb b rfl; omega)]
    rw [hL k (by omega), e]
    refine ih (k + 1) _ (by omega) (fun i hi => ?_)
    by_cases c : L' k = x
    · rw [if_pos c] at hi
      exact bst_lt (n := k + 1) (by omega) (fun a ha => Nat.lt_succ_of_lt (hb a ha)) i hi
    · rw [if_neg c] at hi
      exact Nat.lt_succ_of_lt (hb i hi)
theorem bestN_congr {L K L' K' : Nat → Int32} {kc p n bk ah : Nat} (x : Int32) (hn : 1 ≤ n) (hp : p ≤ n) (hah : 1 ≤ ah) (hL : ∀ i, i < n → L i = L' i) (hK : ∀ i, i < kc → K i = K' i) : bestN L K kc p n bk ah x = bestN L' K' kc p n bk ah x := by
  have h1 : loW p bk ≤ hiW n p ah := by unfold loW hiW; split <;> omega
  have h2 : hiW n p ah ≤ n := by unfold hiW; split <;> omega
  exact bsN_congr x hL hK _ _ none (by omega) (fun i hi => by cases hi)
/-! whether a candidate is accepted -/
def acc (L K : Nat → Int32) (kc p nd j : Nat) : Bool := j == p || decide (nd ≤ sc L K kc j)
theorem P_accepts {kc p j nd : Nat} (hkc : kc ≤ 4) (hp : p ≤ 120) (hj : j < 120) (hnd : nd ≤ 4) (L K s : Nat → Int32) (h5 : s 5 = nI nd) : f_X1_accepts (nI j) s L K (nI kc) (nI p) = some (if acc L K kc p nd j = true then 1 else 0) := by
  have s1 := sc_le L K kc j
  unfold f_X1_accepts acc
  by_cases c1 : j = p
  · rw [if_pos (by rw [c1]), if_pos (by simp [c1])]
  · rw [if_neg (fun q => c1 ((nI_eq (by omega) (by omega)).mp q)), P_points hkc hj, Option.bind_some, show (5 : Int32) = nI 5 from rfl, P_at (by omega) (by omega), Option.bind_some, h5]
    by_cases c2 : nd ≤ sc L K kc j
    · rw [if_neg (nI_nlt c2 (by omega)), if_pos (by simp [c1, c2])]
    · rw [if_pos (nI_lt (by omega) (by omega)), if_neg (by simp [c1]; omega)]
theorem P_acceptsM {kc p j nd : Nat} (hkc : kc ≤ 4) (hp : p ≤ 120) (hj : j < 120) (hnd : nd ≤ 4) (w : Nat → Int32) (h20 : w 20 = nI kc) (h11 : w 11 = nI p) (h5 : w 5 = nI nd) : f_X4_isAccepted (nI j) w = some (if acc (fun i => w (150 + i)) (fun i => w (21 + i)) kc p nd j = true then 1 else 0) := by
  have s1 := sc_le (fun i => w (150 + i)) (fun i => w (21 + i)) kc j
  unfold f_X4_isAccepted acc
  rw [h11]
  by_cases c1 : j = p
  · rw [if_pos (by rw [c1]), if_pos (by simp [c1])]
  · rw [if_neg (fun q => c1 ((nI_eq (by omega) (by omega)).mp q)), P_score hkc hj w h20, Option.bind_some, h5]
    by_cases c2 : nd ≤ sc (fun i => w (150 + i)) (fun i => w (21 + i)) kc j
    · rw [if_neg (nI_nlt c2 (by omega)), if_pos (by simp [c1, c2])]
    · rw [if_pos (nI_lt (by omega) (by omega)), if_neg (by simp [c1]; omega)]
theorem acc_congr {L K L' K' : Nat → Int32} {kc p nd j : Nat} (hL : ∀ i, i < j → L i = L' i) (hK : ∀ i, i < kc → K i = K' i) : acc L K kc p nd j = acc L' K' kc p nd j := by
  have e1 : sc L K kc j = sc L' K' kc j := scN_congr hL hK 3 1 (by omega)
  unfold acc
  rw [e1]
