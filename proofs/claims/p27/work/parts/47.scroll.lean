/-! scrolling -/
def desI (r H lead rows : Int) : Int := max 0 (min (100 * (r - min (H - 1) lead)) (max 0 (100 * (rows - H))))
def mvI (r H lead rows step top : Int) : Int := top + max (-step) (min (desI r H lead rows - top) step)
def scT (r H lead rows step top : Int) : Int := max (100 * r - 100 * (H - 1)) (min (mvI r H lead rows step top) (100 * r))
def scJ (r H lead rows step top : Int) : Int32 := if scT r H lead rows step top = mvI r H lead rows step top then 0 else 1
theorem P_lim {a b c : Int} (h : (-2000000000 ≤ a ∧ a ≤ 2000000000) ∧ (-2000000000 ≤ b ∧ b ≤ 2000000000) ∧ (-2000000000 ≤ c ∧ c ≤ 2000000000)) : f_X3_limited (iI a) (iI b) (iI c) = some (iI (max b (min a c))) := by
  have e : (if iI c < iI a then iI c else iI a) = iI (min a c) := by
    rw [ifLt (by omega)]
    by_cases z : c < a
    · rw [if_pos z, show min a c = c by omega]
    · rw [if_neg z, show min a c = a by omega]
  unfold f_X3_limited
  rw [e, ifLt (by omega)]
  by_cases z : b < min a c
  · rw [if_pos z, show max b (min a c) = min a c by omega]
  · rw [if_neg z, show max b (min a c) = b by omega]
theorem P_highest {H rows : Nat} (hH : H ≤ 8) (hr : rows ≤ 120) (s : Nat → Int32) (h1 : s 1 = nI H) : f_X1_highestTop s (nI rows) = some (iI (max 0 (100 * ((rows : Int) - (H : Int))))) := by
  unfold f_X1_highestTop
  rw [show (1 : Int32) = nI 1 from rfl, P_at (by omega) (by omega), Option.bind_some, h1, nI_iI rows, nI_iI H, show (100 : Int32) = iI 100 by decide, show (0 : Int32) = iI 0 by decide, iI_sub, iI_mul, ifLt (by omega)]
  by_cases z : 0 < 100 * ((rows : Int) - (H : Int))
  · rw [if_pos z, show max 0 (100 * ((rows : Int) - (H : Int))) = 100 * ((rows : Int) - (H : Int)) by omega]
  · rw [if_neg z, show max 0 (100 * ((rows : Int) - (H : Int))) = 0 by omega]
theorem P_desired {H lead rows e r : Nat} (hH : 1 ≤ H ∧ H ≤ 8) (hl : lead ≤ 7) (hr : rows ≤ 120) (he : e < 120) (hrr : r ≤ 120) (s ro : Nat → Int32) (h1 : s 1 = nI H) (h2 : s 2 = nI lead) (hro : ro e = nI r) : f_X1_desiredTop (nI e) s (nI rows) ro = some (iI (desI r H lead rows)) := by
  unfold f_X1_desiredTop desI
  have e1 : (if nI H - 1 < nI lead then nI H - 1 else nI lead) = iI (min ((H : Int) - 1) lead) := by
    rw [nI_iI H, nI_iI lead, show (1 : Int32) = iI 1 by decide, iI_sub, ifLt (by omega)]
    by_cases z : (H : Int) - 1 < lead
    · rw [if_pos z, show min ((H : Int) - 1) lead = (H : Int) - 1 by omega]
    · rw [if_neg z, show min ((H : Int) - 1) (lead : Int) = lead by omega]
  rw [show (2 : Int32) = nI 2 from rfl, P_at (by omega) (by omega), Option.bind_some, show f_X3_at 9 1 s = some (s 1) from P_at (k := 1) (by omega) (by omega), Option.bind_some, P_at he (by omega), Option.bind_some, P_highest hH.2 hr s h1, Option.bind_some, hro, h1, h2]
  rw [e1, nI_iI r, iI_sub, show (100 : Int32) = iI 100 by decide, iI_mul, show (0 : Int32) = iI 0 by decide, P_lim (by omega)]
  rfl
theorem P_greatest {H rows : Nat} (hH : H ≤ 8) (hr : rows ≤ 120) (w : Nat → Int32) (h1 : w 1 = nI H) : f_X4_greatestTop w (nI rows) = some (iI (max 0 (100 * ((rows : Int) - (H : Int))))) := by
  unfold f_X4_greatestTop
  rw [h1]
  by_cases z : H ≤ rows
  · rw [if_pos (nI_le z (by omega)), nI_iI rows, nI_iI H, show (100 : Int32) = iI 100 by decide, iI_sub, iI_mul, show max 0 (100 * ((rows : Int) - (H : Int))) = 100 * ((rows : Int) - (H : Int)) by omega]
  · rw [if_neg (nI_ge (by omega) (by omega)), show max 0 (100 * ((rows : Int) - (H : Int))) = 0 by omega]
    rfl
theorem P_limM {H rows : Nat} {x : Int} (hH : H ≤ 8) (hr : rows ≤ 120) (hx : -2000000000 ≤ x ∧ x ≤ 2000000000) (w : Nat → Int32) (h1 : w 1 = nI H) : f_X4_limited (iI x) w (nI rows) = some (iI (max 0 (min x (max 0 (100 * ((rows : Int) - (H : Int))))))) := by
  unfold f_X4_limited
  rw [P_greatest hH hr w h1, Option.bind_some, Option.bind_some, show (0 : Int32) = iI 0 by decide, ifLe (by omega), ifLe (by omega)]
  by_cases a : 0 ≤ x
  · rw [if_pos a]
    by_cases b : x ≤ max 0 (100 * ((rows : Int) - (H : Int)))
    · rw [if_pos b, show max 0 (min x (max 0 (100 * ((rows : Int) - (H : Int))))) = x by omega]
    · rw [if_neg b, show max 0 (min x (max 0 (100 * ((rows : Int) - (H : Int))))) = max 0 (100 * ((rows : Int) - (H : Int))) by omega]
  · rw [if_neg a, show max 0 (min x (max 0 (100 * ((rows : Int) - (H : Int))))) = 0 by omega]
theorem P_desM {n p sp t h lg H lead rows r : Nat} (hn : 1 ≤ n ∧ n ≤ 120) (hp : p ≤ 120) (hsp : sp ≤ 12000) (ht : t ≤ 90000) (hh : h ≤ t) (hlg : lg ≤ 10) (hH : 1 ≤ H ∧ H ≤ 8) (hl : lead ≤ 7) (hr : rows ≤ 120) (hrr : r ≤ 120) (w ro : Nat → Int32) (h9 : w 9 = nI n) (h10 : w 10 = nI t) (h11 : w 11 = nI p) (h12 : w 12 = nI sp) (h13 : w 13 = nI h) (h8 : w 8 = nI lg) (h1 : w 1 = nI H) (h2 : w 2 = nI lead) (hro : ro (estN p sp t h 0 lg (holdN (nxO (fun j => w (270 + j)) n 0) n)) = nI r) : f_X4_desired w ro (nI rows) = some (iI (desI r H lead rows)) := by
  have hE := estN_le p sp t h 0 lg (holdN (nxO (fun j => w (270 + j)) n 0) n)
  have hL := holdN_lt (c := fun j => w (270 + j)) hn.1
  have key : ∀ x : Int, x = min ((H : Int) - 1) lead → f_X4_desired_34 w ro (nI rows) (iI x) = some (iI (desI r H lead rows)) := by
    intro x hx
    unfold f_X4_desired_34 desI
    rw [P_estM hn hp hsp ht hh hlg w h9 h10 h11 h12 h13 h8, Option.bind_some, if_neg (ixN (by omega) (by omega)), nI_clamp (by omega), hro, nI_iI r, iI_sub, show (100 : Int32) = iI 100 by decide, iI_mul, P_limM hH.2 hr (by omega) w h1, Option.bind_some, hx]
  unfold f_X4_desired
  rw [h1, h2, nI_iI H, nI_iI lead, show (1 : Int32) = iI 1 by decide, iI_sub, ifLe (by omega)]
  by_cases z : (H : Int) - 1 ≤ lead
  · rw [if_pos z]; exact key _ (by omega)
  · rw [if_neg z]; exact key _ (by omega)
theorem P_shows {H r : Nat} {top : Int} (hH : 1 ≤ H ∧ H ≤ 8) (hr : r ≤ 120) (ht : -1000000 ≤ top ∧ top ≤ 1000000) (s : Nat → Int32) (h1 : s 1 = nI H) : f_X1_shows (nI r) s (iI top) = some (if 100 * (r : Int) < top ∨ top + 100 * ((H : Int) - 1) < 100 * (r : Int) then 0 else 1) := by
  unfold f_X1_shows f_X1_lowestShown
  rw [show f_X3_at 9 1 s = some (s 1) from P_at (k := 1) (by omega) (by omega), Option.bind_some, Option.bind_some, h1, nI_iI r, nI_iI H, show (100 : Int32) = iI 100 by decide, show (1 : Int32) = iI 1 by decide, iI_mul, iI_sub, iI_mul, iI_add, ifLt (by omega), ifLt (by omega)]
  by_cases a : 100 * (r : Int) < top
  · rw [if_pos a, if_pos (Or.inl a)]
  · rw [if_neg a]
    by_cases b : top + 100 * ((H : Int) - 1) < 100 * (r : Int)
    · rw [if_pos b, if_pos (Or.inr b)]
    · rw [if_neg b, if_neg (by omega)]
theorem P_shownM {H r : Nat} {top : Int} (hH : 1 ≤ H ∧ H ≤ 8) (hr : r ≤ 120) (ht : -1000000 ≤ top ∧ top ≤ 1000000) (w : Nat → Int32) (h1 : w 1 = nI H) (h14 : w 14 = iI top) : f_X4_isShown (nI r) w = some (if 100 * (r : Int) < top ∨ top + 100 * ((H : Int) - 1) < 100 * (r : Int) then 0 else 1) := by
  unfold f_X4_isShown
  rw [h1, h14, nI_iI r, nI_iI H, show (100 : Int32) = iI 100 by decide, show (1 : Int32) = iI 1 by decide, iI_mul, iI_sub, iI_mul, iI_add, ifLt (by omega), ifLt (by omega)]
  by_cases a : 100 * (r : Int) < top
  · rw [if_pos a, if_pos (Or.inl a)]
  · rw [if_neg a]
    by_cases b : top + 100 * ((H : Int) - 1) < 100 * (r : Int)
    · rw [if_pos b, if_pos (Or.inr b)]
    · rw [if_neg b, if_neg (by omega)]
theorem mvI_in {r H lead rows step top : Int} (hH : 1 ≤ H ∧ H ≤ 8) (hl : 0 ≤ lead ∧ lead ≤ 7) (hr : 0 ≤ rows ∧ rows ≤ 120) (hrr : 0 ≤ r ∧ r ≤ 120) (hst : 1 ≤ step ∧ step ≤ 100) (htop : 0 ≤ top ∧ top ≤ 12000) : 0 ≤ mvI r H lead rows step top ∧ mvI r H lead rows step top ≤ 12000 := by
  unfold mvI desI
  omega
theorem scT_in {r H lead rows step top : Int} (hH : 1 ≤ H ∧ H ≤ 8) (hl : 0 ≤ lead ∧ lead ≤ 7) (hr : 0 ≤ rows ∧ rows ≤ 120) (hrr : 0 ≤ r ∧ r ≤ 120) (hst : 1 ≤ step ∧ step ≤ 100) (htop : 0 ≤ top ∧ top ≤ 12000) : 0 ≤ scT r H lead rows step top ∧ scT r H lead rows step top ≤ 12000 := by
  have := mvI_in hH hl hr hrr hst htop
  unfold scT
  omega
theorem P_scroll {H lead rows e r step : Nat} {top : Int} (hH : 1 ≤ H ∧ H ≤ 8) (hl : lead ≤ 7) (hr : rows ≤ 120) (he : e < 120) (hrr : r ≤ 120) (hst : 1 ≤ step ∧ step ≤ 100) (htop : 0 ≤ top ∧ top ≤ 12000) (s ro : Nat → Int32) (j : Int32) (h1 : s 1 = nI H) (h2 : s 2 = nI lead) (h7 : s 7 = nI step) (hro : ro e = nI r) : f_X1_scrollTo (nI e) s (nI rows) ro (iI top) j = some (iI (scT r H lead rows step top), j + scJ r H lead rows step top) := by
  have hm := mvI_in (r := r) (H := H) (lead := lead) (rows := rows) (step := step) (top := top) (by omega) (by omega) (by omega) (by omega) (by omega) htop
  unfold f_X1_scrollTo
  rw [show (7 : Int32) = nI 7 from rfl, P_at (by omega) (by omega), Option.bind_some, P_desired hH hl hr he hrr s ro h1 h2 hro, Option.bind_some, h7, nI_iI step, iI_sub, iI_neg, P_lim (by unfold desI; omega), Option.bind_some, iI_add, P_at he (by omega), Option.bind_some, hro]
  show (f_X1_shows (nI r) s (iI (mvI r H lead rows step top))).bind _ = _
  rw [P_shows hH hrr (by omega) s h1, Option.bind_some]
  show (if _ then (f_X1_lowestShown s).bind (fun q65 => (f_X3_limited (iI (mvI r H lead rows step top)) ((100 * nI r) - q65) (100 * nI r)).bind fun q73 => some (q73, j + 1)) else some (iI (mvI r H lead rows step top), j)) = _
  generalize hM : mvI r H lead rows step top = M at hm
  by_cases z : 100 * (r : Int) < M ∨ M + 100 * ((H : Int) - 1) < 100 * (r : Int)
  · rw [if_pos (show (if 100 * (r : Int) < M ∨ M + 100 * ((H : Int) - 1) < 100 * (r : Int) then (0 : Int32) else 1) = 0 by rw [if_pos z])]
    unfold f_X1_lowestShown
    rw [show f_X3_at 9 1 s = some (s 1) from P_at (k := 1) (by omega) (by omega), Option.bind_some, Option.bind_some, h1, nI_iI r, nI_iI H, show (100 : Int32) = iI 100 by decide, show (1 : Int32) = iI 1 by decide, iI_mul, iI_sub, iI_mul, iI_sub, P_lim (by omega), Option.bind_some]
    unfold scJ scT
    rw [hM, if_neg (by omega)]
    rfl
  · rw [if_neg (show ¬ (if 100 * (r : Int) < M ∨ M + 100 * ((H : Int) - 1) < 100 * (r : Int) then (0 : Int32) else 1) = 0 by rw [if_neg z]; decide)]
    unfold scJ scT
    rw [hM, if_pos (by omega), show max (100 * (r : Int) - 100 * ((H : Int) - 1)) (min M (100 * (r : Int))) = M by omega]
    rw [show j + 0 = j from Int32.add_zero _]
/-! one tick of the reference -/
def tkW (w : Nat → Int32) (a b c : Int32) : Nat → Int32 := upd (upd (upd w 10 a) 14 b) 18 c
theorem tkW_10 (w : Nat → Int32) (a b c : Int32) : tkW w a b c 10 = a := rfl
theorem tkW_14 (w : Nat → Int32) (a b c : Int32) : tkW w a b c 14 = b := rfl
theorem tkW_18 (w : Nat → Int32) (a b c : Int32) : tkW w a b c 18 = c := rfl
theorem tkW_ne (w : Nat → Int32) (a b c : Int32) {i : Nat} (h : ¬ i = 10 ∧ ¬ i = 14 ∧ ¬ i = 18) : tkW w a b c i = w i := by
  unfold tkW
  rw [upd_ne _ _ h.2.2, upd_ne _ _ h.2.1, upd_ne _ _ h.1]
theorem tkW_tkW (w : Nat → Int32) (a b c a' b' c' : Int32) : tkW (tkW w a b c) a' b' c' = tkW w a' b' c' := by
  funext i
  by_cases h : ¬ i = 10 ∧ ¬ i = 14 ∧ ¬ i = 18
  · rw [tkW_ne _ _ _ _ h, tkW_ne _ _ _ _ h, tkW_ne _ _ _ _ h]
  · by_cases a : i = 10
    · rw [a]; rfl
    · by_cases b : i = 14
      · rw [b]; rfl
      · have c : i = 18 := by omega
        rw [c]; rfl
theorem tkW_self (w : Nat → Int32) : tkW w (w 10) (w 14) (w 18) = w := by
  funext i
  by_cases h : ¬ i = 10 ∧ ¬ i = 14 ∧ ¬ i = 18
  · rw [tkW_ne _ _ _ _ h]
  · by_cases a : i = 10
    · rw [a]; rfl
    · by_cases b : i = 14
      · rw [b]; rfl
      · have c : i = 18 := by omega
        rw [c]; rfl
theorem P_tickOnce {n p sp t h lg H lead rows r step : Nat} {top : Int} (hn : 1 ≤ n ∧ n ≤ 120) (hp : p ≤ 120) (hsp : sp ≤ 12000) (ht : t + 1 ≤ 90000) (hh : h ≤ t) (hlg : lg ≤ 10) (hH : 1 ≤ H ∧ H ≤ 8) (hl : lead ≤ 7) (hr : rows ≤ 120) (hrr : r ≤ 120) (hst : 1 ≤ step ∧ step ≤ 100) (htop : 0 ≤ top ∧ top ≤ 12000) (w ro : Nat → Int32) (h9 : w 9 = nI n) (h10 : w 10 = nI t) (h11 : w 11 = nI p) (h12 : w 12 = nI sp) (h13 : w 13 = nI h) (h8 : w 8 = nI lg) (h1 : w 1 = nI H) (h2 : w 2 = nI lead) (h7 : w 7 = nI step) (h14 : w 14 = iI top) (hro : ro (estN p sp (t + 1) h 0 lg (holdN (nxO (fun j => w (270 + j)) n 0) n)) = nI r) : f_X4_tickOnce w ro (nI rows) = some (tkW w (nI (t + 1)) (iI (scT r H lead rows step top)) (w 18 + scJ r H lead rows step top)) := by
  have hE := estN_le p sp (t + 1) h 0 lg (holdN (nxO (fun j => w (270 + j)) n 0) n)
  have hL := holdN_lt (c := fun j => w (270 + j)) hn.1
  have hm := mvI_in (r := r) (H := H) (lead := lead) (rows := rows) (step := step) (top := top) (by omega) (by omega) (by omega) (by omega) (by omega) htop
  have key : ∀ x : Int, x = max (-(step : Int)) (min (desI r H lead rows - top) step) → f_X4_tickOnce_77 ro 14 (iI top) (iI x) (upd w 10 (nI (t + 1))) = some (tkW w (nI (t + 1)) (iI (scT r H lead rows step top)) (w 18 + scJ r H lead rows step top)) := by
    intro x hx
    have hMx : top + x = mvI r H lead rows step top := by unfold mvI; rw [hx]
    unfold f_X4_tickOnce_77
    rw [if_neg (by decide), show (14 : Int32).toNatClampNeg = 14 from rfl, Option.bind_some, iI_add, hMx]
    generalize hM : mvI r H lead rows step top = M at hm
    rw [P_estM (h := h) (t := t + 1) hn hp hsp ht (by omega) hlg (upd (upd w 10 (nI (t + 1))) 14 (iI M)) (by rw [upd_ne _ _ (by decide), upd_ne _ _ (by decide)]; exact h9) (by rw [upd_ne _ _ (by decide), upd_eq]) (by rw [upd_ne _ _ (by decide), upd_ne _ _ (by decide)]; exact h11) (by rw [upd_ne _ _ (by decide), upd_ne _ _ (by decide)]; exact h12) (by rw [upd_ne _ _ (by decide), upd_ne _ _ (by decide)]; exact h13) (by rw [upd_ne _ _ (by decide), upd_ne _ _ (by decide)]; exact h8)]
    rw [show nxO (fun j => upd (upd w 10 (nI (t + 1))) 14 (iI M) (270 + j)) n 0 = nxO (fun j => w (270 + j)) n 0 from nxO_congr n 0 (fun j _ _ => by rw [upd_ne _ _ (by omega), upd_ne _ _ (by omega)])]
    rw [Option.bind_some, if_neg (ixN (by omega) (by omega)), nI_clamp (by omega), hro, P_shownM (top := M) hH hrr (by omega) _ (by rw [upd_ne _ _ (by decide), upd_ne _ _ (by decide)]; exact h1) (upd_eq _ _ _), Option.bind_some, upd_eq, upd_ne _ _ (show ¬ 1 = 14 by decide), upd_ne _ _ (show ¬ 1 = 10 by decide), h1]
    by_cases z : 100 * (r : Int) < M ∨ M + 100 * ((H : Int) - 1) < 100 * (r : Int)
    · rw [if_pos (show (if 100 * (r : Int) < M ∨ M + 100 * ((H : Int) - 1) < 100 * (r : Int) then (0 : Int32) else 1) = 0 by rw [if_pos z])]
      have fin : ∀ y : Int, y = scT r H lead rows step top → upd (upd (upd (upd w 10 (nI (t + 1))) 14 (iI M)) 14 (iI y)) 18 (upd (upd (upd w 10 (nI (t + 1))) 14 (iI M)) 14 (iI y) 18 + 1) = tkW w (nI (t + 1)) (iI (scT r H lead rows step top)) (w 18 + scJ r H lead rows step top) := by
        intro y hy
        have hj : scJ r H lead rows step top = 1 := by
          unfold scJ
          rw [if_neg (by unfold scT; rw [hM]; omega)]
        rw [hj, ← hy]
        funext i
        unfold tkW
        by_cases a : i = 18
        · rw [a, upd_eq, upd_eq, upd_ne _ _ (by decide), upd_ne _ _ (by decide), upd_ne _ _ (by decide)]
        · rw [upd_ne _ _ a, upd_ne _ _ a]
          by_cases b : i = 14
          · rw [b, upd_eq, upd_eq]
          · rw [upd_ne _ _ b, upd_ne _ _ b, upd_ne _ _ b]
      rw [nI_iI r, nI_iI H, show (100 : Int32) = iI 100 by decide, show (1 : Int32) = iI 1 by decide, iI_mul, iI_sub, iI_mul, iI_sub, ifLe (by omega)]
      rw [show (iI 1 : Int32) = 1 by decide]
      by_cases b : M ≤ 100 * (r : Int)
      · rw [if_pos b, Option.bind_some, Option.bind_some, fin _ (by unfold scT; rw [hM]; omega)]
      · rw [if_neg b, Option.bind_some, Option.bind_some, fin _ (by unfold scT; rw [hM]; omega)]
    · rw [if_neg (show ¬ (if 100 * (r : Int) < M ∨ M + 100 * ((H : Int) - 1) < 100 * (r : Int) then (0 : Int32) else 1) = 0 by rw [if_neg z]; decide)]
      have hs : scT r H lead rows step top = M := by unfold scT; rw [hM]; omega
      have hj : scJ r H lead rows step top = 0 := by unfold scJ; rw [hs, hM, if_pos rfl]
      rw [hs, hj]
      show some _ = some _
      refine congrArg some ?_
      funext i
      unfold tkW
      by_cases a : i = 18
      · rw [a, upd_eq, upd_ne _ _ (by decide), upd_ne _ _ (by decide)]
        exact (Int32.add_zero _).symm
      · rw [upd_ne _ _ a]
  unfold f_X4_tickOnce
  rw [Option.bind_some, h10, show (1 : Int32) = nI 1 from rfl, nI_add]
  rw [P_desM (r := r) (h := h) (t := t + 1) hn hp hsp ht (by omega) hlg hH hl hr hrr (upd w 10 (nI (t + 1))) ro (by rw [upd_ne _ _ (by decide)]; exact h9) (upd_eq _ _ _) (by rw [upd_ne _ _ (by decide)]; exact h11) (by rw [upd_ne _ _ (by decide)]; exact h12) (by rw [upd_ne _ _ (by decide)]; exact h13) (by rw [upd_ne _ _ (by decide)]; exact h8) (by rw [upd_ne _ _ (by decide)]; exact h1) (by rw [upd_ne _ _ (by decide)]; exact h2) (by rw [show nxO (fun j => upd w 10 (nI (t + 1)) (270 + j)) n 0 = nxO (fun j => w (270 + j)) n 0 from nxO_congr n 0 (fun j _ _ => upd_ne _ _ (by omega))]; exact hro), Option.bind_some]
  rw [upd_ne _ _ (show ¬ 14 = 10 by decide), upd_ne _ _ (show ¬ 7 = 10 by decide), h7, h14, iI_sub, nI_iI step, iI_neg, ifLe (by unfold desI; omega), ifLe (by unfold desI; omega)]
  by_cases a : desI r H lead rows - top ≤ step
  · rw [if_pos a]
    by_cases b : -(step : Int) ≤ desI r H lead rows - top
    · rw [if_pos b]; exact key _ (by omega)
    · rw [if_neg b]; exact key _ (by omega)
  · rw [if_neg a]; exact key _ (by omega)
