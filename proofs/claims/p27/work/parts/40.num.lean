/-! numbers: iI of a whole number, nI of a natural one -/
def iI (z : Int) : Int32 := Int32.ofInt z
def lI (z : Int) : Int64 := Int64.ofInt z
theorem iI_add (a b : Int) : iI a + iI b = iI (a + b) := (Int32.ofInt_add a b).symm
theorem iI_sub (a b : Int) : iI a - iI b = iI (a - b) := (Int32.ofInt_sub a b).symm
theorem iI_mul (a b : Int) : iI a * iI b = iI (a * b) := (Int32.ofInt_mul a b).symm
theorem iI_neg (a : Int) : -iI a = iI (-a) := (Int32.ofInt_neg a).symm
theorem iI_t {z : Int} (h : -2147483648 ≤ z ∧ z < 2147483648) : (iI z).toInt = z := Int32.toInt_ofInt_of_le (by omega) (by omega)
theorem iI_of (x : Int32) : iI x.toInt = x := Int32.ofInt_toInt x
theorem iI_le {a b : Int} (h : (-2147483648 ≤ a ∧ a < 2147483648) ∧ (-2147483648 ≤ b ∧ b < 2147483648)) : iI a ≤ iI b ↔ a ≤ b := by
  rw [Int32.le_iff_toInt_le, iI_t h.1, iI_t h.2]
theorem iI_lt {a b : Int} (h : (-2147483648 ≤ a ∧ a < 2147483648) ∧ (-2147483648 ≤ b ∧ b < 2147483648)) : iI a < iI b ↔ a < b := by
  rw [Int32.lt_iff_toInt_lt, iI_t h.1, iI_t h.2]
theorem iI_eq {a b : Int} (h : (-2147483648 ≤ a ∧ a < 2147483648) ∧ (-2147483648 ≤ b ∧ b < 2147483648)) : iI a = iI b ↔ a = b := by
  rw [← Int32.toInt_inj, iI_t h.1, iI_t h.2]
theorem iI_cl {z : Int} (h : -2147483648 ≤ z ∧ z < 2147483648) : (iI z).toNatClampNeg = z.toNat := by
  show (iI z).toInt.toNat = _
  rw [iI_t h]
theorem ifLt {α : Type} {a b : Int} {x y : α} (h : (-2147483648 ≤ a ∧ a < 2147483648) ∧ (-2147483648 ≤ b ∧ b < 2147483648)) : (if iI a < iI b then x else y) = (if a < b then x else y) := by
  by_cases c : a < b
  · rw [if_pos c, if_pos ((iI_lt h).mpr c)]
  · rw [if_neg c, if_neg (fun q => c ((iI_lt h).mp q))]
theorem ifLe {α : Type} {a b : Int} {x y : α} (h : (-2147483648 ≤ a ∧ a < 2147483648) ∧ (-2147483648 ≤ b ∧ b < 2147483648)) : (if iI a ≤ iI b then x else y) = (if a ≤ b then x else y) := by
  by_cases c : a ≤ b
  · rw [if_pos c, if_pos ((iI_le h).mpr c)]
  · rw [if_neg c, if_neg (fun q => c ((iI_le h).mp q))]
theorem ifLtL {α : Type} {a b : Int} {x y : α} (h : (-9223372036854775808 ≤ a ∧ a < 9223372036854775808) ∧ (-9223372036854775808 ≤ b ∧ b < 9223372036854775808)) : (if lI a < lI b then x else y) = (if a < b then x else y) := by
  have e : lI a < lI b ↔ a < b := by
    rw [Int64.lt_iff_toInt_lt]
    unfold lI
    rw [Int64.toInt_ofInt_of_le (by omega) (by omega), Int64.toInt_ofInt_of_le (by omega) (by omega)]
  by_cases c : a < b
  · rw [if_pos c, if_pos (e.mpr c)]
  · rw [if_neg c, if_neg (fun q => c (e.mp q))]
theorem nI_iI (n : Nat) : nI n = iI (n : Int) := by
  unfold nI iI
  exact (Int32.ofInt_eq_ofNat).symm
theorem tI_lo (x : Int32) : -2147483648 ≤ x.toInt := by
  have := Int32.le_toInt x
  omega
theorem tI_hi (x : Int32) : x.toInt < 2147483648 := by
  have := Int32.toInt_lt x
  omega
theorem iI_div {a b : Int} (h : (0 ≤ a ∧ a < 2147483648) ∧ (0 < b ∧ b < 2147483648)) : iI a / iI b = iI (a / b) := by
  have mm1 : Int32.minValue.toInt = -2147483648 := by decide
  have mm2 : Int32.maxValue.toInt = 2147483647 := by decide
  unfold iI
  rw [← Int32.ofInt_tdiv (by omega) (by omega) (by omega) (by omega), Int.tdiv_eq_ediv_of_nonneg h.1.1]
theorem lI_add (a b : Int) : lI a + lI b = lI (a + b) := (Int64.ofInt_add a b).symm
theorem lI_sub (a b : Int) : lI a - lI b = lI (a - b) := (Int64.ofInt_sub a b).symm
theorem lI_mul (a b : Int) : lI a * lI b = lI (a * b) := (Int64.ofInt_mul a b).symm
theorem lI_t {z : Int} (h : -9223372036854775808 ≤ z ∧ z < 9223372036854775808) : (lI z).toInt = z := Int64.toInt_ofInt_of_le (by omega) (by omega)
theorem lI_lt {a b : Int} (h : (-9223372036854775808 ≤ a ∧ a < 9223372036854775808) ∧ (-9223372036854775808 ≤ b ∧ b < 9223372036854775808)) : lI a < lI b ↔ a < b := by
  rw [Int64.lt_iff_toInt_lt, lI_t h.1, lI_t h.2]
theorem lI_i (z : Int) : (lI z).toInt32 = iI z := Int64.toInt32_ofInt
theorem iI_l {z : Int} (h : -2147483648 ≤ z ∧ z < 2147483648) : (iI z).toInt64 = lI z := by
  have mm1 : Int32.minValue.toInt = -2147483648 := by decide
  have mm2 : Int32.maxValue.toInt = 2147483647 := by decide
  exact Int32.toInt64_ofInt (by omega) (by omega)
theorem lI_div {a b : Int} (h : (0 ≤ a ∧ a < 9223372036854775808) ∧ (0 < b ∧ b < 9223372036854775808)) : lI a / lI b = lI (a / b) := by
  have mm1 : Int64.minValue.toInt = -9223372036854775808 := by decide
  have mm2 : Int64.maxValue.toInt = 9223372036854775807 := by decide
  unfold lI
  rw [← Int64.ofInt_tdiv (by omega) (by omega) (by omega) (by omega), Int.tdiv_eq_ediv_of_nonneg h.1.1]
theorem n0 : (0 : Int32) = nI 0 := rfl
theorem n1 : (1 : Int32) = nI 1 := rfl
theorem n2 : (2 : Int32) = nI 2 := rfl
theorem n3 : (3 : Int32) = nI 3 := rfl
theorem n4 : (4 : Int32) = nI 4 := rfl
theorem n5 : (5 : Int32) = nI 5 := rfl
theorem n6 : (6 : Int32) = nI 6 := rfl
theorem n7 : (7 : Int32) = nI 7 := rfl
theorem n8 : (8 : Int32) = nI 8 := rfl
theorem n9 : (9 : Int32) = nI 9 := rfl
theorem n10 : (10 : Int32) = nI 10 := rfl
theorem n12 : (12 : Int32) = nI 12 := rfl
theorem n15 : (15 : Int32) = nI 15 := rfl
theorem n20 : (20 : Int32) = nI 20 := rfl
theorem n25 : (25 : Int32) = nI 25 := rfl
theorem n26 : (26 : Int32) = nI 26 := rfl
theorem n32 : (32 : Int32) = nI 32 := rfl
theorem n47 : (47 : Int32) = nI 47 := rfl
theorem n61 : (61 : Int32) = nI 61 := rfl
theorem n97 : (97 : Int32) = nI 97 := rfl
theorem n100 : (100 : Int32) = nI 100 := rfl
theorem n120 : (120 : Int32) = nI 120 := rfl
theorem n122 : (122 : Int32) = nI 122 := rfl
theorem n124 : (124 : Int32) = nI 124 := rfl
theorem n126 : (126 : Int32) = nI 126 := rfl
theorem n140 : (140 : Int32) = nI 140 := rfl
theorem n150 : (150 : Int32) = nI 150 := rfl
theorem n270 : (270 : Int32) = nI 270 := rfl
theorem n390 : (390 : Int32) = nI 390 := rfl
theorem n500 : (500 : Int32) = nI 500 := rfl
theorem n510 : (510 : Int32) = nI 510 := rfl
theorem n1020 : (1020 : Int32) = nI 1020 := rfl
theorem n3570 : (3570 : Int32) = nI 3570 := rfl
theorem n4080 : (4080 : Int32) = nI 4080 := rfl
theorem m9 : (-9 : Int32) = iI (-9) := by decide
theorem m1 : (-1 : Int32) = iI (-1) := by decide
theorem m2 : (-2 : Int32) = iI (-2) := by decide
theorem m3 : (-3 : Int32) = iI (-3) := by decide
theorem gas_s (k : Nat) (h : k ≤ 6000) : gas = (6000 - k) + k := by
  unfold gas
  omega
/-- a place of a row of the reference that is read or written by a computed number -/
theorem ixN {n k : Nat} (h : k < n) (hn : n < 2 ^ 31) : ¬ (nI k < 0 ∨ n ≤ (nI k).toNatClampNeg) := by
  rw [nI_clamp (by omega)]
  intro q
  rcases q with q | q
  · exact nI_pos (by omega) q
  · omega
/-! reading and writing a place -/
theorem P_at {n k : Nat} {f : Nat → Int32} (h : k < n) (hn : n < 2 ^ 31) : f_X3_at n (nI k) f = some (f k) := by
  unfold f_X3_at
  have h1 : ¬ nI k < 0 := nI_pos (by omega)
  have h2 : ¬ nI n ≤ nI k := nI_ge h hn
  have h3 : (nI k).toNatClampNeg = k := nI_clamp (by omega)
  rw [if_neg h1, if_neg h2, if_neg (ixN h hn), h3]
theorem P_at_hi {n k : Nat} {f : Nat → Int32} (h : n ≤ k) (hk : k < 2 ^ 31) : f_X3_at n (nI k) f = some 0 := by
  unfold f_X3_at
  rw [if_neg (nI_pos hk), if_pos (nI_le h hk)]
theorem P_at_neg {n : Nat} {f : Nat → Int32} {x : Int32} (h : x < 0) : f_X3_at n x f = some 0 := by
  unfold f_X3_at
  rw [if_pos h]
theorem P_put {n k : Nat} {f : Nat → Int32} {v : Int32} (h : k < n) (hn : n < 2 ^ 31) : f_X3_put n (nI k) v f = some (upd f k v) := by
  unfold f_X3_put
  have h1 : ¬ nI k < 0 := nI_pos (by omega)
  have h2 : ¬ nI n ≤ nI k := nI_ge h hn
  have h3 : (nI k).toNatClampNeg = k := nI_clamp (by omega)
  rw [if_neg h1, if_neg h2, if_neg (ixN h hn), h3]
/-! the next cue -/
def nxt (c : Nat → Int32) : Nat → Nat → Int32
  | 0, _ => iI (-9)
  | m + 1, k => if c k = 1 then nI k else nxt c m (k + 1)
theorem nxt_congr {c d : Nat → Int32} : ∀ m k, (∀ j, k ≤ j → j < k + m → c j = d j) → nxt c m k = nxt d m k := by
  intro m
  induction m with
  | zero => intro k _; rfl
  | succ m ih =>
    intro k h
    unfold nxt
    rw [h k (by omega) (by omega), ih (k + 1) (fun j h1 h2 => h j (by omega) (by omega))]
theorem P_nextCue_l {n : Nat} (hn : n ≤ 120) (c : Nat → Int32) : ∀ m k g, k + m = n → m < g → f_X0_nextCue_2 (nI n) c g (nI k) = some (nxt c m k) := by
  intro m
  induction m with
  | zero =>
    intro k g hk hg
    obtain ⟨g, rfl⟩ : ∃ z, g = z + 1 := ⟨g - 1, by omega⟩
    rw [f_X0_nextCue_2, if_pos (nI_le (by omega) (by omega))]
    rfl
  | succ m ih =>
    intro k g hk hg
    obtain ⟨g, rfl⟩ : ∃ z, g = z + 1 := ⟨g - 1, by omega⟩
    rw [f_X0_nextCue_2, if_neg (nI_ge (by omega) (by omega)), P_at (by omega) (by omega), Option.bind_some]
    unfold nxt
    by_cases h : c k = 1
    · rw [if_pos h, if_pos h]
    · rw [if_neg h, if_neg h, nI_1]
      exact ih (k + 1) g (by omega) (by omega)
theorem P_nextCue {n : Nat} (hn : n ≤ 120) (c : Nat → Int32) : f_X0_nextCue (nI n) c = some (nxt c n 0) := by
  unfold f_X0_nextCue
  exact P_nextCue_l hn c n 0 gas (by omega) (by unfold gas; omega)
theorem P_nextCueM_l {n : Nat} (hn : n ≤ 120) (w : Nat → Int32) (hw : w 9 = nI n) : ∀ m k g, k + m = n → m < g → f_X4_nextCue_2 w g (nI k) = some (nxt (fun j => w (270 + j)) m k) := by
  intro m
  induction m with
  | zero =>
    intro k g hk hg
    obtain ⟨g, rfl⟩ : ∃ z, g = z + 1 := ⟨g - 1, by omega⟩
    rw [f_X4_nextCue_2, hw, if_pos (nI_le (by omega) (by omega))]
    rfl
  | succ m ih =>
    intro k g hk hg
    obtain ⟨g, rfl⟩ : ∃ z, g = z + 1 := ⟨g - 1, by omega⟩
    have e : (270 : Int32) + nI k = nI (270 + k) := nI_add 270 k
    rw [f_X4_nextCue_2, hw, if_neg (nI_ge (by omega) (by omega)), e, if_neg (ixN (by omega) (by omega)), nI_clamp (by omega)]
    unfold nxt
    by_cases h : w (270 + k) = 1
    · rw [if_pos h, if_pos h]
    · rw [if_neg h, if_neg h, nI_1]
      exact ih (k + 1) g (by omega) (by omega)
theorem P_nextCueM {n : Nat} (hn : n ≤ 120) (w : Nat → Int32) (hw : w 9 = nI n) : f_X4_nextCue w = some (nxt (fun j => w (270 + j)) n 0) := by
  unfold f_X4_nextCue
  exact P_nextCueM_l hn w hw n 0 gas (by omega) (by unfold gas; omega)
