/-! time that passes -/
def tkI (R : Nat → Nat) (H lead rows step : Nat) : Nat → Nat → Int → Int32 → Int × Int32
  | 0, _, top, j => (top, j)
  | m + 1, t, top, j => tkI R H lead rows step m (t + 1) (scT (R (t + 1)) H lead rows step top) (j + scJ (R (t + 1)) H lead rows step top)
theorem tkI_in {R : Nat → Nat} {H lead rows step : Nat} (hH : 1 ≤ H ∧ H ≤ 8) (hl : lead ≤ 7) (hr : rows ≤ 120) (hR : ∀ t, R t ≤ 120) (hst : 1 ≤ step ∧ step ≤ 100) : ∀ m t top j, (0 ≤ top ∧ top ≤ 12000) → 0 ≤ (tkI R H lead rows step m t top j).1 ∧ (tkI R H lead rows step m t top j).1 ≤ 12000 := by
  intro m
  induction m with
  | zero => intro t top j h; exact h
  | succ m ih =>
    intro t top j h
    have := hR (t + 1)
    exact ih (t + 1) _ _ (scT_in (by omega) (by omega) (by omega) (by omega) (by omega) h)
theorem P_passTime_l {p sp h lg hd n H lead rows step a : Nat} (hn : n ≤ 120) (hp : p ≤ 120) (hsp : sp ≤ 12000) (hlg : lg ≤ 10) (hH : 1 ≤ H ∧ H ≤ 8) (hl : lead ≤ 7) (hr : rows ≤ 120) (hst : 1 ≤ step ∧ step ≤ 100) (ha : a ≤ 100) (hhd : hd < n) (rr : Nat → Nat) (hrr : ∀ k, k < n → rr k ≤ 120) (s ro : Nat → Int32) (h1 : s 1 = nI H) (h2 : s 2 = nI lead) (h7 : s 7 = nI step) (h8 : s 8 = nI lg) (hro : ∀ k, k < n → ro k = nI (rr k)) (x2 : Int32) : ∀ m k g t top j, k + m = a → m < g → h ≤ t → t + m ≤ 90000 → (0 ≤ top ∧ top ≤ 12000) →
    f_X1_passTime_13 s (nI rows) ro (nI p) (nI sp) (nI h) (nI a) x2 (nI hd) g (nI k) (nI t) (iI top) j = some ((tkI (fun t => rr (estN p sp t h 0 lg hd)) H lead rows step m t top j).2 - x2, nI (t + m), iI (tkI (fun t => rr (estN p sp t h 0 lg hd)) H lead rows step m t top j).1, (tkI (fun t => rr (estN p sp t h 0 lg hd)) H lead rows step m t top j).2) := by
  intro m
  induction m with
  | zero =>
    intro k g t top j hk hg hht ht htop
    obtain ⟨g, rfl⟩ : ∃ z, g = z + 1 := ⟨g - 1, by omega⟩
    rw [f_X1_passTime_13, if_pos (nI_le (by omega) (by omega))]
    rfl
  | succ m ih =>
    intro k g t top j hk hg hht ht htop
    obtain ⟨g, rfl⟩ : ∃ z, g = z + 1 := ⟨g - 1, by omega⟩
    have hE := estN_le p sp (t + 1) h 0 lg hd
    have hR := hrr (estN p sp (t + 1) h 0 lg hd) (by omega)
    have hS := scT_in (r := rr (estN p sp (t + 1) h 0 lg hd)) (H := H) (lead := lead) (rows := rows) (step := step) (top := top) (by omega) (by omega) (by omega) (by omega) (by omega) htop
    rw [f_X1_passTime_13, if_neg (nI_ge (by omega) (by omega)), show (1 : Int32) = nI 1 from rfl, nI_add, nI_add, show (0 : Int32) = nI 0 from rfl, P_estimate hp hsp (by omega) (by omega) (Nat.zero_le _) hlg (by omega) s h8, Option.bind_some, P_scroll hH hl hr (by omega) hR hst htop s ro j h1 h2 h7 (hro _ (by omega)), Option.bind_some]
    have := ih (k + 1) g (t + 1) _ (j + scJ (rr (estN p sp (t + 1) h 0 lg hd)) H lead rows step top) (by omega) (by omega) (by omega) (by omega) hS
    rw [show t + 1 + m = t + (m + 1) by omega] at this
    exact this
theorem P_passTime {p sp t h lg n H lead rows step a : Nat} (hn : 1 ≤ n ∧ n ≤ 120) (hp : p ≤ 120) (hsp : sp ≤ 12000) (hlg : lg ≤ 10) (hH : 1 ≤ H ∧ H ≤ 8) (hl : lead ≤ 7) (hr : rows ≤ 120) (hst : 1 ≤ step ∧ step ≤ 100) (ha : a ≤ 100) (rr : Nat → Nat) (hrr : ∀ k, k < n → rr k ≤ 120) (s c ro : Nat → Int32) (h1 : s 1 = nI H) (h2 : s 2 = nI lead) (h7 : s 7 = nI step) (h8 : s 8 = nI lg) (hro : ∀ k, k < n → ro k = nI (rr k)) (top : Int) (j : Int32) (hht : h ≤ t) (ht : t + a ≤ 90000) (htop : 0 ≤ top ∧ top ≤ 12000) :
    f_X1_passTime (nI a) s (nI n) (nI rows) c ro (nI p) (nI sp) (nI t) (nI h) (iI top) j = some ((tkI (fun t => rr (estN p sp t h 0 lg (holdN (nxO c n 0) n))) H lead rows step a t top j).2 - j, nI (t + a), iI (tkI (fun t => rr (estN p sp t h 0 lg (holdN (nxO c n 0) n))) H lead rows step a t top j).1, (tkI (fun t => rr (estN p sp t h 0 lg (holdN (nxO c n 0) n))) H lead rows step a t top j).2) := by
  unfold f_X1_passTime
  rw [P_holding hn, Option.bind_some]
  exact P_passTime_l hn.2 hp hsp hlg hH hl hr hst ha (holdN_lt hn.1) rr hrr s ro h1 h2 h7 h8 hro j a 0 gas t top j (by omega) (by unfold gas; omega) hht ht htop
/-- one tick of the reference, on a row that is ticked already -/
theorem P_tk1 {n p sp t h lg H lead rows step : Nat} {top : Int} (hn : 1 ≤ n ∧ n ≤ 120) (hp : p ≤ 120) (hsp : sp ≤ 12000) (ht : t + 1 ≤ 90000) (hh : h ≤ t) (hlg : lg ≤ 10) (hH : 1 ≤ H ∧ H ≤ 8) (hl : lead ≤ 7) (hr : rows ≤ 120) (hst : 1 ≤ step ∧ step ≤ 100) (htop : 0 ≤ top ∧ top ≤ 12000) (rr : Nat → Nat) (hrr : ∀ k, k < n → rr k ≤ 120) (w ro : Nat → Int32) (h9 : w 9 = nI n) (h11 : w 11 = nI p) (h12 : w 12 = nI sp) (h13 : w 13 = nI h) (h8 : w 8 = nI lg) (h1 : w 1 = nI H) (h2 : w 2 = nI lead) (h7 : w 7 = nI step) (hro : ∀ k, k < n → ro k = nI (rr k)) (j : Int32) : f_X4_tickOnce (tkW w (nI t) (iI top) j) ro (nI rows) = some (tkW w (nI (t + 1)) (iI (scT (rr (estN p sp (t + 1) h 0 lg (holdN (nxO (fun j => w (270 + j)) n 0) n))) H lead rows step top)) (j + scJ (rr (estN p sp (t + 1) h 0 lg (holdN (nxO (fun j => w (270 + j)) n 0) n))) H lead rows step top)) := by
  have hE := estN_le p sp (t + 1) h 0 lg (holdN (nxO (fun j => w (270 + j)) n 0) n)
  have hL := holdN_lt (c := fun j => w (270 + j)) hn.1
  have hR := hrr (estN p sp (t + 1) h 0 lg (holdN (nxO (fun j => w (270 + j)) n 0) n)) (by omega)
  have := P_tickOnce (r := rr (estN p sp (t + 1) h 0 lg (holdN (nxO (fun j => w (270 + j)) n 0) n))) hn hp hsp ht hh hlg hH hl hr hR hst htop (tkW w (nI t) (iI top) j) ro (by rw [tkW_ne _ _ _ _ (by decide)]; exact h9) (tkW_10 _ _ _ _) (by rw [tkW_ne _ _ _ _ (by decide)]; exact h11) (by rw [tkW_ne _ _ _ _ (by decide)]; exact h12) (by rw [tkW_ne _ _ _ _ (by decide)]; exact h13) (by rw [tkW_ne _ _ _ _ (by decide)]; exact h8) (by rw [tkW_ne _ _ _ _ (by decide)]; exact h1) (by rw [tkW_ne _ _ _ _ (by decide)]; exact h2) (by rw [tkW_ne _ _ _ _ (by decide)]; exact h7) (tkW_14 _ _ _ _) (by rw [show nxO (fun q => tkW w (nI t) (iI top) j (270 + q)) n 0 = nxO (fun q => w (270 + q)) n 0 from nxO_congr n 0 (fun q _ _ => tkW_ne _ _ _ _ (by omega))]; exact hro _ (by omega))
  rw [this, tkW_tkW, tkW_18]
theorem P_tickM_l {n p sp h lg H lead rows step a : Nat} (hn : 1 ≤ n ∧ n ≤ 120) (hp : p ≤ 120) (hsp : sp ≤ 12000) (hlg : lg ≤ 10) (hH : 1 ≤ H ∧ H ≤ 8) (hl : lead ≤ 7) (hr : rows ≤ 120) (hst : 1 ≤ step ∧ step ≤ 100) (ha : a ≤ 100) (rr : Nat → Nat) (hrr : ∀ k, k < n → rr k ≤ 120) (w ro : Nat → Int32) (h9 : w 9 = nI n) (h11 : w 11 = nI p) (h12 : w 12 = nI sp) (h13 : w 13 = nI h) (h8 : w 8 = nI lg) (h1 : w 1 = nI H) (h2 : w 2 = nI lead) (h7 : w 7 = nI step) (hro : ∀ k, k < n → ro k = nI (rr k)) (x2 : Int32) (past : Nat → Int32) (pm : Int32) : ∀ m k g t top j, k + m = a → m < g → h ≤ t → t + m ≤ 90000 → (0 ≤ top ∧ top ≤ 12000) →
    f_X4_tick_26 ro (nI rows) (nI a) x2 past pm g (nI k) (tkW w (nI t) (iI top) j) = some ((tkI (fun t => rr (estN p sp t h 0 lg (holdN (nxO (fun j => w (270 + j)) n 0) n))) H lead rows step m t top j).2 - x2, tkW w (nI (t + m)) (iI (tkI (fun t => rr (estN p sp t h 0 lg (holdN (nxO (fun j => w (270 + j)) n 0) n))) H lead rows step m t top j).1) (tkI (fun t => rr (estN p sp t h 0 lg (holdN (nxO (fun j => w (270 + j)) n 0) n))) H lead rows step m t top j).2, past, pm) := by
  intro m
  induction m with
  | zero =>
    intro k g t top j hk hg hht ht htop
    obtain ⟨g, rfl⟩ : ∃ z, g = z + 1 := ⟨g - 1, by omega⟩
    rw [f_X4_tick_26, if_pos (nI_le (by omega) (by omega)), tkW_18]
    rfl
  | succ m ih =>
    intro k g t top j hk hg hht ht htop
    obtain ⟨g, rfl⟩ : ∃ z, g = z + 1 := ⟨g - 1, by omega⟩
    have hE := estN_le p sp (t + 1) h 0 lg (holdN (nxO (fun j => w (270 + j)) n 0) n)
    have hL := holdN_lt (c := fun j => w (270 + j)) hn.1
    have hR := hrr (estN p sp (t + 1) h 0 lg (holdN (nxO (fun j => w (270 + j)) n 0) n)) (by omega)
    have hS := scT_in (r := rr (estN p sp (t + 1) h 0 lg (holdN (nxO (fun j => w (270 + j)) n 0) n))) (H := H) (lead := lead) (rows := rows) (step := step) (top := top) (by omega) (by omega) (by omega) (by omega) (by omega) htop
    rw [f_X4_tick_26, if_neg (nI_ge (by omega) (by omega)), P_tk1 hn hp hsp (by omega) hht hlg hH hl hr hst htop rr hrr w ro h9 h11 h12 h13 h8 h1 h2 h7 hro j, Option.bind_some, nI_1]
    have := ih (k + 1) g (t + 1) _ (j + scJ (rr (estN p sp (t + 1) h 0 lg (holdN (nxO (fun j => w (270 + j)) n 0) n))) H lead rows step top) (by omega) (by omega) (by omega) (by omega) hS
    rw [show t + 1 + m = t + (m + 1) by omega] at this
    exact this
theorem P_reh47_l {n p sp h lg H lead rows step a : Nat} (hn : 1 ≤ n ∧ n ≤ 120) (hp : p ≤ 120) (hsp : sp ≤ 12000) (hlg : lg ≤ 10) (hH : 1 ≤ H ∧ H ≤ 8) (hl : lead ≤ 7) (hr : rows ≤ 120) (hst : 1 ≤ step ∧ step ≤ 100) (ha : a ≤ 100) (rr : Nat → Nat) (hrr : ∀ k, k < n → rr k ≤ 120) (w ro : Nat → Int32) (h9 : w 9 = nI n) (h11 : w 11 = nI p) (h12 : w 12 = nI sp) (h13 : w 13 = nI h) (h8 : w 8 = nI lg) (h1 : w 1 = nI H) (h2 : w 2 = nI lead) (h7 : w 7 = nI step) (hro : ∀ k, k < n → ro k = nI (rr k)) (k33 : Int32 → (Nat → Int32) → Option (Int32 × (Nat → Int32) × (Nat → Int32))) (x3 : Int32) (held : Nat → Int32) : ∀ m k g t top j, k + m = a → h ≤ t → t + m ≤ 90000 → (0 ≤ top ∧ top ≤ 12000) →
    f_X4_rehearse_47 k33 ro (nI rows) (nI a) x3 held (g + m) (nI k) (tkW w (nI t) (iI top) j) = f_X4_rehearse_47 k33 ro (nI rows) (nI a) x3 held g (nI a) (tkW w (nI (t + m)) (iI (tkI (fun t => rr (estN p sp t h 0 lg (holdN (nxO (fun j => w (270 + j)) n 0) n))) H lead rows step m t top j).1) (tkI (fun t => rr (estN p sp t h 0 lg (holdN (nxO (fun j => w (270 + j)) n 0) n))) H lead rows step m t top j).2) := by
  intro m
  induction m with
  | zero =>
    intro k g t top j hk hht ht htop
    rw [show k = a by omega]
    rfl
  | succ m ih =>
    intro k g t top j hk hht ht htop
    have hE := estN_le p sp (t + 1) h 0 lg (holdN (nxO (fun j => w (270 + j)) n 0) n)
    have hL := holdN_lt (c := fun j => w (270 + j)) hn.1
    have hR := hrr (estN p sp (t + 1) h 0 lg (holdN (nxO (fun j => w (270 + j)) n 0) n)) (by omega)
    have hS := scT_in (r := rr (estN p sp (t + 1) h 0 lg (holdN (nxO (fun j => w (270 + j)) n 0) n))) (H := H) (lead := lead) (rows := rows) (step := step) (top := top) (by omega) (by omega) (by omega) (by omega) (by omega) htop
    rw [show g + (m + 1) = (g + m) + 1 by omega, f_X4_rehearse_47, if_neg (nI_ge (by omega) (by omega)), P_tk1 hn hp hsp (by omega) hht hlg hH hl hr hst htop rr hrr w ro h9 h11 h12 h13 h8 h1 h2 h7 hro j, Option.bind_some, nI_1]
    have := ih (k + 1) g (t + 1) _ (j + scJ (rr (estN p sp (t + 1) h 0 lg (holdN (nxO (fun j => w (270 + j)) n 0) n))) H lead rows step top) (by omega) (by omega) (by omega) hS
    rw [show t + 1 + m = t + (m + 1) by omega] at this
    exact this
