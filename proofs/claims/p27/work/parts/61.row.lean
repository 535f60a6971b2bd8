/-! rows -/
theorem st_start (pas : Nat → Int32) {wd : Nat} (hw : 1 ≤ wd) : ∀ n r, r < (stR pas wd n).2 → ∃ s, s < n ∧ nwR pas wd (stR pas wd s) s = true ∧ rwR pas wd s = r ∧ ∀ j, j < s → rwR pas wd j < r := by
  intro n
  induction n with
  | zero => intro r h; exact absurd h (Nat.not_lt_zero _)
  | succ n ih =>
    intro r h
    by_cases c : nwR pas wd (stR pas wd n) n = true
    · have e := stR_new c
      rw [e] at h
      rcases Nat.lt_or_ge r (stR pas wd n).2 with y | y
      · obtain ⟨s, h1, h2⟩ := ih r y
        exact ⟨s, by omega, h2⟩
      · have h' : r < (stR pas wd n).2 + 1 := h
        refine ⟨n, by omega, c, ?_, fun j hj => ?_⟩
        · unfold rwR
          rw [e]
          show (stR pas wd n).2 + 1 - 1 = r
          omega
        · have := rwR_lt (pas := pas) hw hj
          omega
    · have e := stR_old c
      rw [e] at h
      obtain ⟨s, h1, h2⟩ := ih r h
      exact ⟨s, by omega, h2⟩
theorem rwR_mono (pas : Nat → Int32) (wd : Nat) {j k : Nat} (h : j ≤ k) : rwR pas wd j ≤ rwR pas wd k := by
  have := stR_mono pas wd (j + 1) (k + 1) (by omega)
  unfold rwR
  omega
theorem rowSpan {pas : Nat → Int32} {wd n r : Nat} {ro fi : Nat → Int32} (hw : 1 ≤ wd) (l : laidR pas wd n ro fi) (hr : r < (stR pas wd n).2) : ∃ s e, s < e ∧ e ≤ n ∧ (∀ j, j < s → rwR pas wd j < r) ∧ (∀ j, s ≤ j → j < e → rwR pas wd j = r) ∧ (∀ j, e ≤ j → j < n → r < rwR pas wd j) ∧ fi r = nI s ∧ ((r + 1 < (stR pas wd n).2 ∧ fi (r + 1) = nI e) ∨ ((stR pas wd n).2 ≤ r + 1 ∧ e = n)) := by
  obtain ⟨s, s1, s2, s3, s4⟩ := st_start pas hw n r hr
  have f1 : fi r = nI s := by rw [← s3]; exact l.2 s s1 s2
  rcases Nat.lt_or_ge (r + 1) (stR pas wd n).2 with y | y
  · obtain ⟨e, t1, t2, t3, t4⟩ := st_start pas hw n (r + 1) y
    have f2 : fi (r + 1) = nI e := by rw [← t3]; exact l.2 e t1 t2
    have hse : s < e := by
      rcases Nat.lt_or_ge s e with x | x
      · exact x
      · have := rwR_mono pas wd x
        omega
    refine ⟨s, e, hse, by omega, s4, fun j a b => ?_, fun j a b => ?_, f1, Or.inl ⟨y, f2⟩⟩
    · have h1 := rwR_mono pas wd a
      have h2 := t4 j b
      omega
    · have := rwR_mono pas wd a
      omega
  · refine ⟨s, n, s1, Nat.le_refl _, s4, fun j a b => ?_, fun j a b => by omega, f1, Or.inr ⟨y, rfl⟩⟩
    have h1 := rwR_mono pas wd a
    have h2 := rwR_lt (pas := pas) hw b
    omega
theorem P_row34 {n r s e : Nat} (hn : n ≤ 120) (hr : r < 120) (hse : s < e) (hen : e ≤ n) (rr : Nat → Nat) (hrr : ∀ k, k < n → rr k ≤ 120) (h1 : ∀ j, j < s → rr j < r) (h2 : ∀ j, s ≤ j → j < e → rr j = r) (h3 : ∀ j, e ≤ j → j < n → r < rr j) (w roM : Nat → Int32) (h9 : w 9 = nI n) (hro : ∀ k, k < n → roM k = nI (rr k)) (x2 : Int32) : ∀ m k g, k + m = n → m < g → f_X4_row_34 w roM (nI r) x2 g (if k ≤ s then -9 else nI s) (nI (min k e - s)) (nI k) = some (if x2 = 0 then nI s else nI (e - s)) := by
  intro m
  induction m with
  | zero =>
    intro k g hk hg
    obtain ⟨g, rfl⟩ : ∃ z, g = z + 1 := ⟨g - 1, by omega⟩
    rw [f_X4_row_34, h9, if_pos (nI_le (by omega) (by omega)), if_neg (show ¬ k ≤ s by omega), show min k e - s = e - s by omega]
    by_cases c : x2 = 0
    · rw [if_pos c, if_pos c]
    · rw [if_neg c, if_neg c]
  | succ m ih =>
    intro k g hk hg
    obtain ⟨g, rfl⟩ : ∃ z, g = z + 1 := ⟨g - 1, by omega⟩
    have hk120 := hrr k (by omega)
    have i1 := ih (k + 1) g (by omega) (by omega)
    rw [f_X4_row_34, h9, if_neg (nI_ge (by omega) (by omega)), if_neg (ixN (by omega) (by omega)), nI_clamp (by omega), hro k (by omega)]
    by_cases c : rr k = r
    · have hks : s ≤ k := by
        rcases Nat.lt_or_ge k s with y | y
        · have := h1 k y; omega
        · exact y
      have hke : k < e := by
        rcases Nat.lt_or_ge k e with y | y
        · exact y
        · have := h3 k y (by omega); omega
      rw [if_pos (by rw [c]), nI_1, nI_1, show min k e - s + 1 = min (k + 1) e - s by omega]
      rw [if_neg (show ¬ k + 1 ≤ s by omega)] at i1
      by_cases d : k = s
      · rw [if_pos (show k ≤ s by omega), if_pos rfl, d]
        rw [d] at i1
        exact i1
      · rw [if_neg (show ¬ k ≤ s by omega), if_neg (show ¬ nI s = -9 by rw [m9]; exact oI_n s (by omega))]
        exact i1
    · rw [if_neg (fun q => c ((nI_eq (by omega) (by omega)).mp q)), nI_1]
      have hout : k < s ∨ e ≤ k := by
        rcases Nat.lt_or_ge k s with y | y
        · exact Or.inl y
        · rcases Nat.lt_or_ge k e with x | x
          · exact absurd (h2 k y x) c
          · exact Or.inr x
      rw [show min (k + 1) e - s = min k e - s by omega] at i1
      by_cases d : k ≤ s
      · rw [if_pos d]
        rw [if_pos (show k + 1 ≤ s by omega)] at i1
        exact i1
      · rw [if_neg d]
        rw [if_neg (show ¬ k + 1 ≤ s by omega)] at i1
        exact i1
theorem P_rowR {M : Nat} {w : Nat → Int32} {st : Nat → Int32} {wo pg wip rows : Int32} {le pa cu ro fi : Nat → Int32} {pr : Int32} {ti po ke : Nat → Int32} {kc ps sp tm hd top sk rp ms je ov : Int32} (r : REL M w st wo pg wip rows le pa cu ro fi pr ti po ke kc ps sp tm hd top sk rp ms je ov) (roM : Nat → Int32) (rowsM : Int32) (hL : LR wo rows ro roM rowsM) (p q : Int32) : ∃ v, f_X3_row p q wo rows fi = some v ∧ f_X4_row p q w roM rowsM = some v := by
  obtain ⟨z, ⟨hS, hN, hw, h20, h25, T, P, hT, hTP, hX⟩, e1, e2, e3, e4, e5, e6, e7, e8, e9⟩ := r
  have hn := hN.1
  have hpos := stR_pos (pasW w) hS.1.1 hn.1
  have hle := (stR_fact (pasW w) hS.1.1 (z 9)).2.1
  unfold f_X3_row f_X4_row
  rw [P_isIn, P_isIn, Option.bind_some, Option.bind_some, hL.1, e4, show (1 : Int32) = nI 1 from rfl, pk_sub (by omega)]
  by_cases a : p < 0
  · rw [if_pos a, if_pos (show (if (0 : Int32) ≤ p ∧ p ≤ nI ((stR (pasW w) (z 0) (z 9)).2 - 1) then nI 1 else 0) = 0 by rw [if_neg (fun y => absurd a (Int32.not_lt.mpr y.1))])]
    exact ⟨_, rfl, rfl⟩
  obtain ⟨k, hk, rfl⟩ := nI_of a
  rw [if_neg a]
  by_cases b : (stR (pasW w) (z 0) (z 9)).2 ≤ k
  · rw [if_pos (nI_le b hk), if_pos (show (if (0 : Int32) ≤ nI k ∧ nI k ≤ nI ((stR (pasW w) (z 0) (z 9)).2 - 1) then nI 1 else 0) = 0 by rw [if_neg (fun y => nI_ge (show (stR (pasW w) (z 0) (z 9)).2 - 1 < k by omega) hk y.2)])]
    exact ⟨_, rfl, rfl⟩
  rw [if_neg (nI_ge (by omega) (by omega)), if_neg (show ¬ (if (0 : Int32) ≤ nI k ∧ nI k ≤ nI ((stR (pasW w) (z 0) (z 9)).2 - 1) then nI 1 else 0) = 0 by rw [if_pos ⟨nI_pos' hk, nI_le (by omega) (by omega)⟩]; decide)]
  by_cases c : q < 0
  · rw [if_pos c, if_pos (show (if (0 : Int32) ≤ q ∧ q ≤ nI 1 then nI 1 else 0) = 0 by rw [if_neg (fun y => absurd c (Int32.not_lt.mpr y.1))])]
    exact ⟨_, rfl, rfl⟩
  rw [if_neg c]
  by_cases d : q ≤ nI 1
  · rw [if_pos d, if_neg (show ¬ (if (0 : Int32) ≤ q ∧ q ≤ nI 1 then nI 1 else 0) = 0 by rw [if_pos ⟨Int32.not_lt.mp c, d⟩]; decide)]
    obtain ⟨s, e, r1, r2, r3, r4, r5, r6, r7⟩ := rowSpan (r := k) hS.1.1 e8 (by omega)
    have hroM : ∀ j, j < z 9 → roM j = nI (rwR (pasW w) (z 0) j) := fun j hj => by
      rw [hL.2 j (by omega) (by rw [e2, hw 9 (by omega)]; exact nI_lt hj (by omega))]
      exact e8.1 j hj
    have hx := P_row34 (n := z 9) (r := k) (s := s) (e := e) hn.2 (by omega) r1 r2 (rwR (pasW w) (z 0)) (fun j hj => rwR_le hS.1.1 (by omega)) r3 r4 r5 w roM (hw 9 (by omega)) hroM q (z 9) 0 gas (by omega) (by unfold gas; omega)
    rw [if_pos (Nat.zero_le _), show min 0 e - s = 0 by omega] at hx
    rw [show (0 : Int32) = nI 0 from rfl, hx]
    by_cases f : q = nI 0
    · rw [if_pos f, if_pos (show q = 0 from f), P_at (by omega) (by omega), Option.bind_some, r6]
      exact ⟨_, rfl, rfl⟩
    · rw [if_neg f, if_neg (show ¬ q = 0 from f)]
      unfold f_X0_rowLength f_X0_rowLength_27
      rw [nI_1]
      rcases r7 with ⟨x, y⟩ | ⟨x, y⟩
      · rw [if_neg (nI_ge x (by omega)), P_at (by omega) (by omega), Option.bind_some, P_at (by omega) (by omega), Option.bind_some, y, r6, pk_sub (by omega)]
        exact ⟨_, rfl, rfl⟩
      · rw [if_pos (nI_le x (by omega)), P_at (by omega) (by omega), Option.bind_some, r6, e2, hw 9 (by omega), pk_sub (by omega), y]
        exact ⟨_, rfl, rfl⟩
  · rw [if_neg d, if_pos (show (if (0 : Int32) ≤ q ∧ q ≤ nI 1 then nI 1 else 0) = 0 by rw [if_neg (fun y => d y.2)])]
    exact ⟨_, rfl, rfl⟩
