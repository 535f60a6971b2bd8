/-! the relation of the class's numbers to the reference's -/
def trF (c : Nat) (T P : Nat → Nat) (t q : Nat) : Prop := c ≤ 61 ∧ (∀ i j, i < j → j < c → T i < T j ∧ P i < P j) ∧ ∀ i, i < c → T i ≤ t ∧ P i ≤ q
def nbS (z : Nat → Nat) : Prop := (1 ≤ z 0 ∧ z 0 ≤ 12) ∧ (1 ≤ z 1 ∧ z 1 ≤ 8) ∧ z 2 ≤ 7 ∧ z 3 ≤ 30 ∧ (1 ≤ z 4 ∧ z 4 ≤ 60) ∧ (1 ≤ z 5 ∧ z 5 ≤ 4) ∧ (1 ≤ z 6 ∧ z 6 ≤ 60) ∧ (1 ≤ z 7 ∧ z 7 ≤ 100) ∧ z 8 ≤ 10
def nbN (M : Nat) (z : Nat → Nat) : Prop := (1 ≤ z 9 ∧ z 9 ≤ 120) ∧ z 10 ≤ M ∧ z 11 ≤ z 9 ∧ z 12 ≤ 12000 ∧ z 13 ≤ z 10 ∧ z 14 ≤ 12000 ∧ z 20 ≤ 4
def pasW (w : Nat → Int32) : Nat → Int32 := fun j => w (390 + j)
def letW (w : Nat → Int32) : Nat → Int32 := fun j => w (150 + j)
def cueW (w : Nat → Int32) : Nat → Int32 := fun j => w (270 + j)
def kepW (w : Nat → Int32) : Nat → Int32 := fun j => w (21 + j)
def cuO (v : Int32) : Prop := v = 0 ∨ v = 1 ∨ v = 2 ∨ v = 3
def pasO (n : Nat) (f : Nat → Int32) : Prop := (0 < n → f 0 = 0) ∧ ∀ i, i + 1 < n → f (i + 1) = f i ∨ f (i + 1) = f i + 1
theorem pasO_congr {n : Nat} {f g : Nat → Int32} (h : ∀ i, i < n → g i = f i) (p : pasO n f) : pasO n g := by
  refine ⟨fun a => by rw [h 0 a]; exact p.1 a, fun i hi => ?_⟩
  rw [h (i + 1) hi, h i (by omega)]
  exact p.2 i hi
def EX (w : Nat → Int32) (z T P : Nat → Nat) : Prop := z 14 ≤ 100 * ((stR (pasW w) (z 0) (z 9)).2 - z 1) ∧ (∃ J, w 18 = nI J ∧ J ≤ z 10) ∧ (∀ i, i < z 9 → cuO (w (270 + i))) ∧ pasO (z 9) (pasW w) ∧ (0 < z 25 → P (z 25 - 1) = z 11) ∧ (1 < z 25 → z 12 = 100 * (z 11 - P 0) / (T (z 25 - 1) - T 0))
theorem EX_w {w w' : Nat → Int32} {z T P : Nat → Nat} (h18 : w' 18 = w 18) (hc : ∀ i, i < z 9 → w' (270 + i) = w (270 + i)) (hp : ∀ i, i < z 9 → w' (390 + i) = w (390 + i)) (x : EX w z T P) : EX w' z T P := by
  obtain ⟨x1, x2, x3, x4, x5, x6⟩ := x
  refine ⟨?_, ?_, fun i hi => ?_, pasO_congr (fun i hi => hp i hi) x4, x5, x6⟩
  · rw [stR_congr (pas := pasW w') (pas' := pasW w) (z 9) (fun i hi => hp i hi)]
    exact x1
  · rw [h18]; exact x2
  · rw [hc i hi]; exact x3 i hi
def MI (M : Nat) (w : Nat → Int32) (z : Nat → Nat) : Prop := nbS z ∧ nbN M z ∧ (∀ i, i ≤ 14 → w i = nI (z i)) ∧ w 20 = nI (z 20) ∧ w 25 = nI (z 25) ∧ ∃ T P, trF (z 25) T P (z 10) (z 11) ∧ (∀ i, i < z 25 → w (26 + 2 * i) = nI (T i) ∧ w (27 + 2 * i) = nI (P i)) ∧ EX w z T P
def EQ (w : Nat → Int32) (z : Nat → Nat) (st : Nat → Int32) (wo pg wip rows : Int32) (le pa cu ro fi : Nat → Int32) (pr : Int32) (ti po ke : Nat → Int32) (kc ps sp tm hd top sk rp ms je ov : Int32) : Prop :=
  (∀ i, i < 9 → st i = w i) ∧ wo = w 9 ∧ pg = w (390 + (z 9 - 1)) + 1 ∧ rows = nI (stR (pasW w) (z 0) (z 9)).2 ∧ (∀ i, i < z 9 → le i = w (150 + i)) ∧ (∀ i, i < z 9 → pa i = w (390 + i)) ∧ (∀ i, i < z 9 → cu i = w (270 + i)) ∧ laidR (pasW w) (z 0) (z 9) ro fi ∧ pr = w 25 ∧ (∀ i, i < z 25 → ti i = w (26 + 2 * i) ∧ po i = w (27 + 2 * i)) ∧ (∀ i, i < z 20 → ke i = w (21 + i)) ∧ kc = w 20 ∧ ps = w 11 ∧ sp = w 12 ∧ tm = w 10 ∧ hd = w 13 ∧ top = w 14 ∧ sk = w 15 ∧ rp = w 16 ∧ ms = w 17 ∧ je = w 18 ∧ ov = w 19
def REL (M : Nat) (w : Nat → Int32) (st : Nat → Int32) (wo pg wip rows : Int32) (le pa cu ro fi : Nat → Int32) (pr : Int32) (ti po ke : Nat → Int32) (kc ps sp tm hd top sk rp ms je ov : Int32) : Prop := ∃ z, MI M w z ∧ EQ w z st wo pg wip rows le pa cu ro fi pr ti po ke kc ps sp tm hd top sk rp ms je ov
theorem REL_mono {M M' : Nat} {w st : Nat → Int32} {wo pg wip rows : Int32} {le pa cu ro fi : Nat → Int32} {pr : Int32} {ti po ke : Nat → Int32} {kc ps sp tm hd top sk rp ms je ov : Int32} (h : M ≤ M') (r : REL M w st wo pg wip rows le pa cu ro fi pr ti po ke kc ps sp tm hd top sk rp ms je ov) : REL M' w st wo pg wip rows le pa cu ro fi pr ti po ke kc ps sp tm hd top sk rp ms je ov := by
  obtain ⟨z, ⟨a, ⟨b1, b2, b3⟩, c⟩, e⟩ := r
  exact ⟨z, ⟨a, ⟨b1, Nat.le_trans b2 h, b3⟩, c⟩, e⟩
/-- both sides leave their trail -/
theorem P_trail {t q win sp c : Nat} (ht : t ≤ 90000) (hq : q ≤ 120) (hw : win ≤ 60) (hsp : sp ≤ 12000) (T P : Nat → Nat) (hT : trF c T P t q) (hPq : ∀ i, i < c → P i < q) (ti po : Nat → Int32) (w : Nat → Int32) (hti : ∀ i, i < c → ti i = nI (T i) ∧ po i = nI (P i)) (hw' : ∀ i, i < c → w (26 + 2 * i) = nI (T i) ∧ w (27 + 2 * i) = nI (P i)) (h25 : w 25 = nI c) (h10 : w 10 = nI t) (h11 : w 11 = nI q) (h6 : w 6 = nI win) (h12 : w 12 = nI sp) :
    ∃ c' T' P' sp' ti' po' w', f_X2_add (nI t) (nI q) (nI win) (nI c) ti po = some (nI c', ti', po') ∧ f_X2_speedOr (nI sp) (nI c') ti' po' = some (nI sp') ∧ f_X4_leaveTrail w = some w' ∧ sp' ≤ 12000 ∧ trF c' T' P' t q ∧ ((0 < c' → P' (c' - 1) = q) ∧ (1 < c' → sp' = 100 * (q - P' 0) / (T' (c' - 1) - T' 0))) ∧ (∀ i, i < c' → (ti' i = nI (T' i) ∧ po' i = nI (P' i)) ∧ (w' (26 + 2 * i) = nI (T' i) ∧ w' (27 + 2 * i) = nI (P' i))) ∧ w' 25 = nI c' ∧ w' 12 = nI sp' ∧ ∀ i, (i < 25 ∨ 150 ≤ i) → ¬ i = 12 → w' i = w i := by
  obtain ⟨hc, hmo, hbd⟩ := hT
  obtain ⟨e, he1, he2⟩ : ∃ e, e ≤ c ∧ ((0 < c ∧ T (c - 1) = t ∧ e = c - 1) ∨ ((c = 0 ∨ ¬ T (c - 1) = t) ∧ e = c)) := by
    by_cases z : 0 < c ∧ T (c - 1) = t
    · exact ⟨c - 1, by omega, Or.inl ⟨z.1, z.2, rfl⟩⟩
    · refine ⟨c, Nat.le_refl _, Or.inr ⟨?_, rfl⟩⟩
      rcases Nat.eq_zero_or_pos c with y | y
      · exact Or.inl y
      · exact Or.inr (fun x => z ⟨y, x⟩)
  have hlt : ∀ i, i < e → T i < t := by
    intro i hi
    rcases he2 with ⟨a, b, d⟩ | ⟨a, b⟩
    · have := (hmo i (c - 1) (by omega) (by omega)).1
      omega
    · rcases a with a | a
      · omega
      · have h1 := (hbd (c - 1) (by omega)).1
        rcases Nat.lt_or_ge i (c - 1) with y | y
        · have := (hmo i (c - 1) y (by omega)).1
          omega
        · rw [show i = c - 1 by omega]; omega
  have hlast : ∀ i, e ≤ i → i < c → T i = t := by
    intro i h1 h2
    rcases he2 with ⟨a, b, d⟩ | ⟨a, b⟩
    · rw [show i = c - 1 by omega]; exact b
    · omega
  obtain ⟨d, hd1, hd2, hd3⟩ := trD T ((t : Int) - win) e (fun i j a b => (hmo i j a (by omega)).1)
  have hel : e - d ≤ 60 := by
    rcases Nat.lt_or_ge d e with y | y
    · have h1 := trGap T (c := e) (fun i j a b => (hmo i j a (by omega)).1) d (e - 1 - d) (by omega)
      have h2 := hlt (d + (e - 1 - d)) (by omega)
      have h3 := hd3 d (Nat.le_refl _) y
      omega
    · omega
  have k1 := P_add_l (q := q) (c := c) ht hq hw hd1 he1 hc hel T P hd2 (fun i a b => ⟨hd3 i a b, by have := hlt i b; omega⟩) hlast (fun i a => (hbd i a).1) c 0 gas ti po (by omega) (by unfold gas; omega) (fun i _ b => hti i b) (fun i a => by omega)
  obtain ⟨ti', po', r1, r2, r3, r4⟩ := k1
  rw [show min (0 - d) (e - d) = 0 by omega] at r1
  have r5 := P_speedOr (sp := sp) hd1 hel ht hq (fun y => hlt d y) (fun y => (hbd d (by omega)).2) ti' po' r2 r3 r4
  have k2 := P_drop (sp := sp) ht hq hw hd1 (show e ≤ 61 by omega) T P hd2 (fun y => hd3 d (Nat.le_refl _) y) (fun y => hlt d y) (fun y => (hbd d (by omega)).2) (fun i y => (hbd i (by omega)).1) w h10 h6 h12 d 0 gas (upd (upd (upd w 25 (nI (e + 1))) (26 + 2 * e) (nI t)) (27 + 2 * e) (nI q)) (by omega) (by unfold gas; omega) (fun i hi => by rw [upd_ne _ _ (by omega), upd_ne _ _ (by omega), upd_ne _ _ (by omega)]) (by rw [upd_ne _ _ (by omega), upd_ne _ _ (by omega), upd_eq]; rfl) (fun i hi => by
    rw [upd_ne _ _ (by omega), upd_ne _ _ (by omega), upd_ne _ _ (by omega), upd_ne _ _ (by omega), upd_ne _ _ (by omega), upd_ne _ _ (by omega), Nat.zero_add]
    exact hw' i (by omega)) (by rw [upd_ne _ _ (by omega)]; exact upd_eq _ _ _) (upd_eq _ _ _)
  obtain ⟨w', s1, s2, s3, s4, s5, s6, s7⟩ := k2
  have tail : ∀ (s2 s3 : Int32), s2 + s3 = nI (e + 1) → f_X4_leaveTrail_62 25 s2 s3 w = some w' := by
    intro s2 s3 h
    unfold f_X4_leaveTrail_62
    rw [if_neg (by decide), show (25 : Int32).toNatClampNeg = 25 from rfl, h, Option.bind_some, upd_eq, show (26 : Int32) = nI 26 from rfl, show (2 : Int32) = nI 2 from rfl, show (1 : Int32) = nI 1 from rfl, nI_mul, nI_add, pk_sub (by omega), if_neg (ixN (by omega) (by omega)), nI_clamp (by omega), Option.bind_some, show 26 + 2 * (e + 1) - 2 = 26 + 2 * e by omega, upd_ne _ _ (show ¬ 25 = 26 + 2 * e by omega), upd_eq, nI_mul, nI_add, pk_sub (by omega), if_neg (ixN (by omega) (by omega)), nI_clamp (by omega), Option.bind_some, show 26 + 2 * (e + 1) - 1 = 27 + 2 * e by omega, upd_ne _ _ (show ¬ 10 = 25 by decide), h10, upd_ne _ _ (show ¬ 11 = 26 + 2 * e by omega), upd_ne _ _ (show ¬ 11 = 25 by decide), h11]
    exact s1
  refine ⟨e - d + 1, fun i => if i < e - d then T (d + i) else t, fun i => if i < e - d then P (d + i) else q, spN T P t q sp d e, ti', po', w', r1, r5, ?_, spN_le hsp hq, ⟨by omega, fun i j a b => ?_, fun i a => ?_⟩, ⟨fun _ => ?_, fun y => ?_⟩, fun i a => ?_, s4, s3, s2⟩
  · unfold f_X4_leaveTrail f_X4_leaveTrail_43 f_X4_leaveTrail_44
    rw [h25]
    rcases he2 with ⟨a, b, d⟩ | ⟨a, b⟩
    · rw [if_neg (nI_nle a (by omega)), show (26 : Int32) = nI 26 from rfl, show (2 : Int32) = nI 2 from rfl, nI_mul, nI_add, pk_sub (by omega), if_neg (ixN (by omega) (by omega)), nI_clamp (by omega), show 26 + 2 * c - 2 = 26 + 2 * (c - 1) by omega, (hw' (c - 1) (by omega)).1, h10, b, if_pos rfl, if_neg (by decide)]
      refine tail _ _ ?_
      rw [show nI c + 0 = nI c from nI_add c 0, d, show c - 1 + 1 = c by omega]
    · have gl : f_X4_leaveTrail_62 25 (nI c) 1 w = some w' := tail _ _ (by rw [nI_1, b])
      rcases a with a | a
      · rw [if_pos (by rw [a]; decide), if_pos rfl]
        exact gl
      · rcases Nat.eq_zero_or_pos c with y | y
        · rw [if_pos (by rw [y]; decide), if_pos rfl]
          exact gl
        · have h1 := (hbd (c - 1) (by omega)).1
          rw [if_neg (nI_nle y (by omega)), show (26 : Int32) = nI 26 from rfl, show (2 : Int32) = nI 2 from rfl, nI_mul, nI_add, pk_sub (by omega), if_neg (ixN (by omega) (by omega)), nI_clamp (by omega), show 26 + 2 * c - 2 = 26 + 2 * (c - 1) by omega, (hw' (c - 1) (by omega)).1, h10, if_neg (fun x => a ((nI_eq (by omega) (by omega)).mp x)), if_pos rfl]
          exact gl
  · show (if i < e - d then T (d + i) else t) < (if j < e - d then T (d + j) else t) ∧ (if i < e - d then P (d + i) else q) < (if j < e - d then P (d + j) else q)
    have ii : i < e - d := by omega
    rw [if_pos ii, if_pos ii]
    by_cases y : j < e - d
    · rw [if_pos y, if_pos y]
      exact hmo (d + i) (d + j) (by omega) (by omega)
    · rw [if_neg y, if_neg y]
      exact ⟨hlt (d + i) (by omega), hPq (d + i) (by omega)⟩
  · show (if i < e - d then T (d + i) else t) ≤ t ∧ (if i < e - d then P (d + i) else q) ≤ q
    by_cases y : i < e - d
    · rw [if_pos y, if_pos y]; exact hbd (d + i) (by omega)
    · rw [if_neg y, if_neg y]; exact ⟨Nat.le_refl _, Nat.le_refl _⟩
  · show (if e - d + 1 - 1 < e - d then P (d + (e - d + 1 - 1)) else q) = q
    rw [if_neg (by omega)]
  · show spN T P t q sp d e = 100 * (q - (if 0 < e - d then P (d + 0) else q)) / ((if e - d + 1 - 1 < e - d then T (d + (e - d + 1 - 1)) else t) - (if 0 < e - d then T (d + 0) else t))
    rw [if_neg (show ¬ e - d + 1 - 1 < e - d by omega), if_pos (show 0 < e - d by omega), if_pos (show 0 < e - d by omega)]
    unfold spN
    rw [if_pos (show d < e by omega), Nat.add_zero]
  · show (ti' i = nI (if i < e - d then T (d + i) else t) ∧ po' i = nI (if i < e - d then P (d + i) else q)) ∧ (w' (26 + 2 * i) = nI (if i < e - d then T (d + i) else t) ∧ w' (27 + 2 * i) = nI (if i < e - d then P (d + i) else q))
    by_cases y : i < e - d
    · rw [if_pos y, if_pos y]; exact ⟨r2 i y, s5 i y⟩
    · rw [if_neg y, if_neg y, show i = e - d by omega]; exact ⟨⟨r3, r4⟩, s6, s7⟩
