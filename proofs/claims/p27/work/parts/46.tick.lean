/-! the estimate -/
def estN (p sp t h d lg hd : Nat) : Nat := if hd < (100 * p + sp * (t - h + d + lg)) / 100 then hd else (100 * p + sp * (t - h + d + lg)) / 100
theorem estN_le (p sp t h d lg hd : Nat) : estN p sp t h d lg hd ≤ hd := by
  unfold estN
  split <;> omega
def holdN (o : Option Nat) (n : Nat) : Nat := match o with
  | none => n - 1
  | some k => k
theorem holdN_lt {c : Nat → Int32} {n : Nat} (hn : 1 ≤ n) : holdN (nxO c n 0) n < n := by
  cases h : nxO c n 0 with
  | none => show n - 1 < n; omega
  | some k =>
    have := nxO_some n 0 k h
    show k < n
    omega
theorem P_holding {n : Nat} (hn : 1 ≤ n ∧ n ≤ 120) (c : Nat → Int32) : f_X1_holdingWord (nI n) c = some (nI (holdN (nxO c n 0) n)) := by
  unfold f_X1_holdingWord
  rw [P_nextCue hn.2, Option.bind_some, nxt_oI]
  cases h : nxO c n 0 with
  | none => rw [show oI none = (-9 : Int32) from m9.symm, if_pos rfl, show (1 : Int32) = nI 1 from rfl, pk_sub hn.1]; rfl
  | some k =>
    have := nxO_some n 0 k h
    rw [show oI (some k) = nI k from rfl, if_neg (by rw [m9]; exact oI_n k (by omega))]
    rfl
theorem estB {sp t h d lg : Nat} (hsp : sp ≤ 12000) (ht : t ≤ 90000) (hd : d ≤ 500) (hlg : lg ≤ 10) : sp * (t - h + d + lg) ≤ 1092000000 := by
  have h1 : t - h + d + lg ≤ 91000 := by omega
  calc sp * (t - h + d + lg) ≤ 12000 * 91000 := Nat.mul_le_mul hsp h1
    _ = 1092000000 := by decide
theorem estI (p sp t h d lg : Nat) (hh : h ≤ t) : (100 * (p : Int) + (sp : Int) * ((t : Int) - (h : Int) + (d : Int) + (lg : Int))) = ((100 * p + sp * (t - h + d + lg) : Nat) : Int) := by
  rw [show ((t : Int) - (h : Int) + (d : Int) + (lg : Int)) = ((t - h + d + lg : Nat) : Int) by omega]
  generalize t - h + d + lg = D
  have e2 : (sp : Int) * (D : Int) = ((sp * D : Nat) : Int) := (Int.natCast_mul sp D).symm
  rw [e2]
  generalize sp * D = Y
  omega
theorem P_estimate {p sp t h d lg hd : Nat} (hp : p ≤ 120) (hsp : sp ≤ 12000) (ht : t ≤ 90000) (hh : h ≤ t) (hd5 : d ≤ 500) (hlg : lg ≤ 10) (hhd : hd ≤ 120) (s : Nat → Int32) (h8 : s 8 = nI lg) : f_X1_estimate (nI d) (nI hd) s (nI p) (nI sp) (nI t) (nI h) = some (nI (estN p sp t h d lg hd)) := by
  have hB := estB (h := h) hsp ht hd5 hlg
  unfold f_X1_estimate estN
  rw [show (8 : Int32) = nI 8 from rfl, P_at (by omega) (by omega), Option.bind_some, h8, nI_iI p, nI_iI sp, nI_iI t, nI_iI h, nI_iI d, nI_iI lg, nI_iI hd, iI_l (by omega), iI_l (by omega), iI_l (by omega), iI_l (by omega), iI_l (by omega), iI_l (by omega), iI_l (by omega)]
  rw [show (100 : Int64) = lI 100 by decide, show (0 : Int64) = lI 0 by decide, lI_mul, lI_sub, lI_add, lI_add, lI_mul, lI_add, estI p sp t h d lg hh]
  generalize hX : sp * (t - h + d + lg) = Y at hB
  rw [lI_div (by omega)]
  have e1 : (if lI (hd : Int) < lI (((100 * p + Y : Nat) : Int) / 100) then lI (hd : Int) else lI (((100 * p + Y : Nat) : Int) / 100)) = lI ((if hd < (100 * p + Y) / 100 then hd else (100 * p + Y) / 100 : Nat) : Int) := by
    rw [ifLtL (by omega)]
    by_cases c : hd < (100 * p + Y) / 100
    · rw [if_pos c, if_pos (by omega)]
    · rw [if_neg c, if_neg (by omega)]
      rfl
  rw [e1, ifLtL (by split <;> omega), if_neg (by omega), lI_i, nI_iI]
theorem P_estM {n p sp t h lg : Nat} (hn : 1 ≤ n ∧ n ≤ 120) (hp : p ≤ 120) (hsp : sp ≤ 12000) (ht : t ≤ 90000) (hh : h ≤ t) (hlg : lg ≤ 10) (w : Nat → Int32) (h9 : w 9 = nI n) (h10 : w 10 = nI t) (h11 : w 11 = nI p) (h12 : w 12 = nI sp) (h13 : w 13 = nI h) (h8 : w 8 = nI lg) : f_X4_estimated w = some (nI (estN p sp t h 0 lg (holdN (nxO (fun j => w (270 + j)) n 0) n))) := by
  have hB := estB (h := h) hsp ht (Nat.zero_le 500) hlg
  have hI := estI p sp t h 0 lg hh
  unfold f_X4_estimated estN
  rw [P_nextCueM hn.2 w h9, Option.bind_some, nxt_oI, h10, h11, h12, h13, h8]
  have eq : ((100 : Int32) * nI p + nI sp * (nI t - nI h + nI lg)) / 100 = nI ((100 * p + sp * (t - h + 0 + lg)) / 100) := by
    rw [nI_iI p, nI_iI sp, nI_iI t, nI_iI h, nI_iI lg, show (100 : Int32) = iI 100 by decide, iI_mul, iI_sub, iI_add, iI_mul, iI_add]
    rw [show ((t : Int) - h + lg) = ((t : Int) - h + (0 : Nat) + lg) by omega, hI]
    generalize hX : sp * (t - h + 0 + lg) = Y at hB
    rw [iI_div (by omega), nI_iI]
    rfl
  rw [eq]
  generalize hX : sp * (t - h + 0 + lg) = Y at hB
  have e67 : ∀ q, q < 2 ^ 31 → f_X4_estimated_67 w (nI q) = some (nI (if n - 1 < q then n - 1 else q)) := by
    intro q hq
    unfold f_X4_estimated_67
    rw [h9, show (1 : Int32) = nI 1 from rfl, pk_sub hn.1]
    by_cases c : n - 1 ≤ q
    · rw [if_pos (nI_le c hq)]
      by_cases d : n - 1 < q
      · rw [if_pos d]
      · rw [if_neg d, show q = n - 1 by omega]
    · rw [if_neg (nI_ge (by omega) (by omega)), if_neg (by omega)]
  unfold f_X4_estimated_66
  cases h : nxO (fun j => w (270 + j)) n 0 with
  | none =>
    rw [show oI none = (-9 : Int32) from m9.symm, if_pos rfl, e67 _ (by omega)]
    rfl
  | some k =>
    have hk := nxO_some n 0 k h
    rw [show oI (some k) = nI k from rfl, if_neg (by rw [m9]; exact oI_n k (by omega))]
    show (if nI ((100 * p + Y) / 100) ≤ nI k then _ else _) = some (nI (if k < (100 * p + Y) / 100 then k else (100 * p + Y) / 100))
    by_cases c : (100 * p + Y) / 100 ≤ k
    · rw [if_pos (nI_le c (by omega)), e67 _ (by omega), if_neg (by omega), if_neg (by omega)]
    · rw [if_neg (nI_ge (by omega) (by omega)), e67 _ (by omega), if_neg (by omega), if_pos (by omega)]
theorem P_estWord {n p sp t h lg : Nat} (hn : 1 ≤ n ∧ n ≤ 120) (hp : p ≤ 120) (hsp : sp ≤ 12000) (ht : t ≤ 90000) (hh : h ≤ t) (hlg : lg ≤ 10) (s c : Nat → Int32) (h8 : s 8 = nI lg) : f_X1_estimatedWord s (nI n) c (nI p) (nI sp) (nI t) (nI h) = some (nI (estN p sp t h 0 lg (holdN (nxO c n 0) n))) := by
  have := holdN_lt (c := c) hn.1
  unfold f_X1_estimatedWord
  rw [P_holding hn, Option.bind_some, show (0 : Int32) = nI 0 from rfl, P_estimate hp hsp ht hh (Nat.zero_le _) hlg (by omega) s h8]
  rfl
/-! reached -/
theorem estN_shift (p sp t h k lg hd : Nat) (hh : h ≤ t) : estN p sp (t + k) h 0 lg hd = estN p sp t h k lg hd := by
  unfold estN
  rw [show t + k - h + 0 + lg = t - h + k + lg by omega]
theorem P_reached_l {n p sp t h lg q : Nat} (hn : 1 ≤ n ∧ n ≤ 120) (hp : p ≤ 120) (hsp : sp ≤ 12000) (ht : t ≤ 89000) (hh : h ≤ t) (hlg : lg ≤ 10) (hq : q ≤ 120) (s c w : Nat → Int32) (h8 : s 8 = nI lg) (h9 : w 9 = nI n) (h10 : w 10 = nI t) (h11 : w 11 = nI p) (h12 : w 12 = nI sp) (h13 : w 13 = nI h) (h8' : w 8 = nI lg) (hc : ∀ j, j < n → c j = w (270 + j)) : ∀ m k g g', k + m = 500 → m + 1 < g → m < g' → ∃ r, f_X1_ticksTo_7 s (nI p) (nI sp) (nI t) (nI h) (nI q) (nI (holdN (nxO c n 0) n)) g (nI k) = some r ∧ f_X4_reached_20 (nI q) (nI t) g' (nI k) (upd w 10 (nI (t + k))) = some (r, w) := by
  have hhd := holdN_lt (c := c) hn.1
  have eh : nxO c n 0 = nxO (fun j => w (270 + j)) n 0 := nxO_congr n 0 (fun j _ hj => hc j (by omega))
  have eM : ∀ k, k ≤ 500 → f_X4_estimated (upd w 10 (nI (t + k))) = some (nI (estN p sp t h k lg (holdN (nxO c n 0) n))) := by
    intro k hk
    have := P_estM hn hp hsp (show t + k ≤ 90000 by omega) (show h ≤ t + k by omega) hlg (upd w 10 (nI (t + k))) (by rw [upd_ne _ _ (by decide)]; exact h9) (upd_eq _ _ _) (by rw [upd_ne _ _ (by decide)]; exact h11) (by rw [upd_ne _ _ (by decide)]; exact h12) (by rw [upd_ne _ _ (by decide)]; exact h13) (by rw [upd_ne _ _ (by decide)]; exact h8')
    rw [this, estN_shift _ _ _ _ _ _ _ hh, eh]
    rw [nxO_congr (c := fun j => upd w 10 (nI (t + k)) (270 + j)) (d := fun j => w (270 + j)) n 0 (fun j _ _ => upd_ne _ _ (by omega))]
  have eback : ∀ x, upd (upd w 10 x) 10 (nI t) = w := by
    intro x
    funext i
    by_cases z : i = 10
    · rw [z, upd_eq, h10]
    · rw [upd_ne _ _ z, upd_ne _ _ z]
  intro m
  induction m with
  | zero =>
    intro k g g' hk hg hg'
    obtain ⟨g, rfl⟩ : ∃ z, g = z + 1 := ⟨g - 1, by omega⟩
    obtain ⟨g, rfl⟩ : ∃ z, g = z + 1 := ⟨g - 1, by omega⟩
    obtain ⟨g', rfl⟩ : ∃ z, g' = z + 1 := ⟨g' - 1, by omega⟩
    obtain rfl : k = 500 := by omega
    have hE := estN_le p sp t h 500 lg (holdN (nxO c n 0) n)
    rw [f_X1_ticksTo_7, f_X4_reached_20, show (500 : Int32) = nI 500 from rfl, if_neg (nI_nlt (Nat.le_refl _) (by omega)), if_pos (nI_le (Nat.le_refl _) (by omega)), P_estimate hp hsp (by omega) hh (Nat.le_refl _) hlg (by omega) s h8, Option.bind_some]
    unfold f_X4_reached_52
    rw [eM 500 (Nat.le_refl _), Option.bind_some]
    unfold f_X4_reached_65
    rw [Option.bind_some, Option.bind_some, eback]
    by_cases z : estN p sp t h 500 lg (holdN (nxO c n 0) n) < q
    · rw [if_pos (nI_lt z (by omega)), if_pos (nI_lt z (by omega)), nI_1, f_X1_ticksTo_7, if_pos (show (500 : Int32) < nI (500 + 1) by decide)]
      exact ⟨_, rfl, by rw [if_pos rfl]⟩
    · rw [if_neg (nI_nlt (by omega) (by omega)), if_neg (nI_nlt (by omega) (by omega))]
      exact ⟨_, rfl, by rw [if_neg (by decide)]⟩
  | succ m ih =>
    intro k g g' hk hg hg'
    obtain ⟨g, rfl⟩ : ∃ z, g = z + 1 := ⟨g - 1, by omega⟩
    obtain ⟨g', rfl⟩ : ∃ z, g' = z + 1 := ⟨g' - 1, by omega⟩
    have hE := estN_le p sp t h k lg (holdN (nxO c n 0) n)
    rw [f_X1_ticksTo_7, f_X4_reached_20, show (500 : Int32) = nI 500 from rfl, if_neg (nI_nlt (by omega) (by omega)), if_neg (nI_ge (by omega) (by omega)), P_estimate hp hsp (by omega) hh (by omega) hlg (by omega) s h8, Option.bind_some, eM k (by omega), Option.bind_some]
    by_cases z : q ≤ estN p sp t h k lg (holdN (nxO c n 0) n)
    · rw [if_neg (nI_nlt z (by omega)), if_pos (nI_le z (by omega))]
      unfold f_X4_reached_52
      rw [eM k (by omega), Option.bind_some, if_neg (nI_nlt z (by omega))]
      unfold f_X4_reached_65
      rw [Option.bind_some, eback, if_neg (by decide)]
      exact ⟨_, rfl, rfl⟩
    · rw [if_pos (nI_lt (by omega) (by omega)), if_neg (nI_ge (by omega) (by omega)), Option.bind_some, upd_eq, show (1 : Int32) = nI 1 from rfl, nI_add, nI_add, Nat.add_assoc]
      have : upd (upd w 10 (nI (t + k))) 10 (nI (t + (k + 1))) = upd w 10 (nI (t + (k + 1))) := by
        funext i
        by_cases y : i = 10
        · rw [y, upd_eq, upd_eq]
        · rw [upd_ne _ _ y, upd_ne _ _ y, upd_ne _ _ y]
      rw [this]
      exact ih (k + 1) g g' (by omega) (by omega) (by omega)
theorem P_reached {n p sp t h lg q : Nat} (hn : 1 ≤ n ∧ n ≤ 120) (hp : p ≤ 120) (hsp : sp ≤ 12000) (ht : t ≤ 89000) (hh : h ≤ t) (hlg : lg ≤ 10) (hq : q ≤ 120) (s c w : Nat → Int32) (h8 : s 8 = nI lg) (h9 : w 9 = nI n) (h10 : w 10 = nI t) (h11 : w 11 = nI p) (h12 : w 12 = nI sp) (h13 : w 13 = nI h) (h8' : w 8 = nI lg) (hc : ∀ j, j < n → c j = w (270 + j)) : ∃ r, f_X1_ticksTo (nI q) s (nI n) c (nI p) (nI sp) (nI t) (nI h) = some r ∧ f_X4_reached_20 (nI q) (w 10) gas 0 w = some (r, w) := by
  obtain ⟨r, h1, h2⟩ := P_reached_l hn hp hsp ht hh hlg hq s c w h8 h9 h10 h11 h12 h13 h8' hc 500 0 gas gas (by omega) (by unfold gas; omega) (by unfold gas; omega)
  refine ⟨r, ?_, ?_⟩
  · unfold f_X1_ticksTo
    rw [P_holding hn, Option.bind_some]
    exact h1
  · have : upd w 10 (nI (t + 0)) = w := by
      funext i
      by_cases y : i = 10
      · rw [y, upd_eq, h10]; rfl
      · rw [upd_ne _ _ y]
    rw [this] at h2
    rw [h10]
    exact h2
