/-! a stretch of the reference's row, written anew -/
def blkW (b : Nat) (w : Nat → Int32) (k : Nat) (c : Nat → Int32) : Nat → Int32 := fun i => if b ≤ i ∧ i < b + k then c (i - b) else w i
theorem blk_0 (b : Nat) (w c : Nat → Int32) : blkW b w 0 c = w := by
  funext i
  unfold blkW
  rw [if_neg (by omega)]
theorem blk_in {b k j : Nat} (w c : Nat → Int32) (h : j < k) : blkW b w k c (b + j) = c j := by
  unfold blkW
  rw [if_pos (by omega), Nat.add_sub_cancel_left]
theorem blk_out {b k i : Nat} (w c : Nat → Int32) (h : i < b ∨ b + k ≤ i) : blkW b w k c i = w i := by
  unfold blkW
  rw [if_neg (by omega)]
theorem blk_step (b k : Nat) (w c : Nat → Int32) : upd (blkW b w k c) (b + k) (c k) = blkW b w (k + 1) c := by
  funext i
  unfold upd blkW
  by_cases h : i = b + k
  · rw [if_pos h, if_pos (by omega), h, Nat.add_sub_cancel_left]
  · rw [if_neg h]
    by_cases z : b ≤ i ∧ i < b + k
    · rw [if_pos z, if_pos (by omega)]
    · rw [if_neg z, if_neg (by omega)]
theorem blk_same {b k : Nat} {w c : Nat → Int32} (h : w (b + k) = c k) : blkW b w k c = blkW b w (k + 1) c := by
  funext i
  unfold blkW
  by_cases z : i = b + k
  · rw [if_neg (by omega), if_pos (by omega), z, h, Nat.add_sub_cancel_left]
  · by_cases y : b ≤ i ∧ i < b + k
    · rw [if_pos y, if_pos (by omega)]
    · rw [if_neg y, if_neg (by omega)]
theorem upd_eq (f : Nat → Int32) (k : Nat) (x : Int32) : upd f k x k = x := by
  unfold upd
  rw [if_pos rfl]
theorem upd_ne (f : Nat → Int32) {k j : Nat} (x : Int32) (h : ¬ j = k) : upd f k x j = f j := by
  unfold upd
  rw [if_neg h]
theorem ixN' {n k : Nat} (h : k < n) (hn : n < 2 ^ 31) : ¬ (nI k < 0 ∨ n ≤ k) := by
  intro q
  rcases q with q | q
  · exact nI_pos (by omega) q
  · omega
/-! place: the cues -/
theorem P_placeM_l {n s : Nat} (hn : n ≤ 120) (hs : s < n) (w : Nat → Int32) (h9 : w 9 = nI n) (x2 : Int32) (past : Nat → Int32) (pm : Int32) : ∀ m k g, k + m = n → m < g → f_X4_place_62 (nI s) x2 past pm g (nI k) (blkW 270 w k (setC (fun j => w (270 + j)) s n)) = some (x2, blkW 270 w n (setC (fun j => w (270 + j)) s n), past, pm) := by
  intro m
  induction m with
  | zero =>
    intro k g hk hg
    obtain ⟨g, rfl⟩ : ∃ z, g = z + 1 := ⟨g - 1, by omega⟩
    obtain rfl : k = n := by omega
    rw [f_X4_place_62, blk_out _ _ (by omega), h9, if_pos (nI_le (Nat.le_refl _) (by omega))]
  | succ m ih =>
    intro k g hk hg
    obtain ⟨g, rfl⟩ : ∃ z, g = z + 1 := ⟨g - 1, by omega⟩
    have r := ih (k + 1) g (by omega) (by omega)
    have st := blk_step 270 k w (setC (fun j => w (270 + j)) s n)
    rw [f_X4_place_62, blk_out _ _ (by omega), h9, if_neg (nI_ge (by omega) (by omega)), show (270 : Int32) = nI 270 from rfl, nI_add, if_neg (ixN (by omega) (by omega)), nI_clamp (by omega), blk_out _ _ (by omega)]
    have ev : setC (fun j => w (270 + j)) s n k = if w (270 + k) = 0 then 0 else (if s ≤ k then 1 else 3) := by
      unfold setC
      by_cases z : w (270 + k) = 0
      · rw [if_neg (fun q => q.2 z), if_pos z]; exact z
      · rw [if_pos ⟨by omega, z⟩, if_neg z]
    rw [ev] at st
    by_cases z : w (270 + k) = 0
    · rw [if_pos z, if_neg (ixN' (by omega) (by omega)), Option.bind_some, nI_1]
      rw [if_pos z] at st
      rw [st]
      exact r
    · rw [if_neg z]
      rw [if_neg z] at st
      by_cases y : s ≤ k
      · rw [if_neg (nI_nlt y (by omega)), if_neg (ixN' (by omega) (by omega)), Option.bind_some, nI_1]
        rw [if_pos y] at st
        rw [st]
        exact r
      · rw [if_pos (nI_lt (by omega) (by omega)), if_neg (ixN' (by omega) (by omega)), Option.bind_some, nI_1]
        rw [if_neg y] at st
        rw [st]
        exact r
/-! follow: the cues that are passed, and their count -/
def folW (w : Nat → Int32) (e k : Nat) : Nat → Int32 := upd (blkW 270 w k (pasC (fun j => w (270 + j)) e)) 19 (w 19 + nI (waN (fun j => w (270 + j)) k))
theorem P_folM_l {e : Nat} (he : e ≤ 120) (w : Nat → Int32) : ∀ m k g, k + m = e → m < g → f_X4_follow_97 (nI e) g (nI k) (folW w e k) = (f_X4_leaveTrail (folW w e e)).bind fun q => some q := by
  intro m
  induction m with
  | zero =>
    intro k g hk hg
    obtain ⟨g, rfl⟩ : ∃ z, g = z + 1 := ⟨g - 1, by omega⟩
    obtain rfl : k = e := by omega
    rw [f_X4_follow_97, if_pos (nI_le (Nat.le_refl _) (by omega))]
  | succ m ih =>
    intro k g hk hg
    obtain ⟨g, rfl⟩ : ∃ z, g = z + 1 := ⟨g - 1, by omega⟩
    have r := ih (k + 1) g (by omega) (by omega)
    have e1 : folW w e k (270 + k) = w (270 + k) := by
      unfold folW
      rw [upd_ne _ _ (by omega), blk_out _ _ (by omega)]
    rw [f_X4_follow_97, if_neg (nI_ge (by omega) (by omega)), show (270 : Int32) = nI 270 from rfl, nI_add, if_neg (ixN (by omega) (by omega)), nI_clamp (by omega), e1]
    have ev : pasC (fun j => w (270 + j)) e k = if w (270 + k) = 1 then 3 else w (270 + k) := by
      unfold pasC
      by_cases z : w (270 + k) = 1
      · rw [if_pos ⟨by omega, z⟩, if_pos z]
      · rw [if_neg (fun q => z q.2), if_neg z]
    by_cases z : w (270 + k) = 1
    · rw [if_pos z, if_neg (ixN' (by omega) (by omega)), Option.bind_some, Option.bind_some, nI_1]
      rw [if_pos z] at ev
      have q : upd (upd (folW w e k) (270 + k) 3) 19 (upd (folW w e k) (270 + k) 3 19 + 1) = folW w e (k + 1) := by
        have st := blk_step 270 k w (pasC (fun j => w (270 + j)) e)
        rw [ev] at st
        funext i
        by_cases y : i = 19
        · rw [y, upd_eq, upd_ne _ _ (by omega)]
          unfold folW
          rw [upd_eq, upd_eq]
          have : waN (fun j => w (270 + j)) (k + 1) = waN (fun j => w (270 + j)) k + 1 := by
            show waN (fun j => w (270 + j)) k + (if w (270 + k) = 1 then 1 else 0) = _
            rw [if_pos z]
          rw [this, ← nI_1, Int32.add_assoc]
        · rw [upd_ne _ _ y]
          unfold folW
          rw [upd_ne _ _ y, ← st]
          unfold upd
          by_cases x : i = 270 + k
          · rw [if_pos x, if_pos x]
          · rw [if_neg x, if_neg x, if_neg y]
      rw [q]
      exact r
    · rw [if_neg z, nI_1]
      rw [if_neg z] at ev
      have q : folW w e k = folW w e (k + 1) := by
        unfold folW
        rw [blk_same (w := w) (c := pasC (fun j => w (270 + j)) e) ev.symm]
        have : waN (fun j => w (270 + j)) (k + 1) = waN (fun j => w (270 + j)) k := by
          show waN (fun j => w (270 + j)) k + (if w (270 + k) = 1 then 1 else 0) = _
          rw [if_neg z, Nat.add_zero]
        rw [this]
      rw [q]
      exact r
theorem folW_0 (w : Nat → Int32) (e : Nat) : folW w e 0 = w := by
  unfold folW
  rw [blk_0]
  funext i
  unfold upd
  by_cases h : i = 19
  · rw [if_pos h, h]
    show w 19 + nI 0 = w 19
    rw [nI_0]
    exact Int32.add_zero _
  · rw [if_neg h]
/-! the words that are kept -/
def shK (K : Nat → Int32) (x : Int32) : Nat → Int32 := fun i => if i = 0 then x else K (i - 1)
theorem P_keepHeard {kc : Nat} (hkc : kc ≤ 4) (K : Nat → Int32) (x : Int32) : ∃ K', f_X1_keepHeard x K (nI kc) = some (K', nI (if kc < 4 then kc + 1 else 4)) ∧ ∀ i, i < 4 → K' i = shK K x i := by
  unfold f_X1_keepHeard
  have g5 : gas = 5996 + 1 + 1 + 1 + 1 := by unfold gas; rfl
  have step : ∀ g j (Kk : Nat → Int32), 1 ≤ j → j < 4 → f_X1_keepHeard_2 x (nI kc) (g + 1) (nI j) Kk = f_X1_keepHeard_2 x (nI kc) g (nI (j - 1)) (upd Kk j (Kk (j - 1))) := by
    intro g j Kk h1 h2
    rw [f_X1_keepHeard_2, if_neg (nI_nle (by omega) (by omega)), show (1 : Int32) = nI 1 from rfl, pk_sub h1, P_at (by omega) (by omega), Option.bind_some, P_put (by omega) (by omega), Option.bind_some, show (-nI 1 : Int32) = -1 from rfl, sb_m1 (by omega)]
  rw [g5, show (3 : Int32) = nI 3 from rfl, step _ 3 _ (by omega) (by omega), step _ 2 _ (by omega) (by omega), step _ 1 _ (by omega) (by omega), f_X1_keepHeard_2, if_pos (show nI (1 - 1) ≤ 0 by decide), show (0 : Int32) = nI 0 from rfl, P_put (by omega) (by omega), Option.bind_some]
  have hkz : (if (4 : Int32) < nI kc + 1 then (4 : Int32) else nI kc + 1) = nI (if kc < 4 then kc + 1 else 4) := by
    rw [show (1 : Int32) = nI 1 from rfl, show (4 : Int32) = nI 4 from rfl, nI_add]
    by_cases h : kc < 4
    · rw [if_pos h, if_neg (nI_nlt (by omega) (by omega))]
    · rw [if_neg h, if_pos (nI_lt (by omega) (by omega))]
  try rw [hkz]
  refine ⟨_, rfl, fun i hi => ?_⟩
  · rcases (show i = 0 ∨ i = 1 ∨ i = 2 ∨ i = 3 by omega) with rfl | rfl | rfl | rfl <;> simp [upd, shK]
theorem P_keepWord {kc : Nat} (hkc : kc ≤ 4) (w : Nat → Int32) (h20 : w 20 = nI kc) (x : Int32) : ∃ w', f_X4_keepWord x w = some w' ∧ w' 20 = nI (if kc < 4 then kc + 1 else 4) ∧ (∀ i, i < 4 → w' (21 + i) = shK (fun j => w (21 + j)) x i) ∧ ∀ i, (i < 20 ∨ 25 ≤ i) → w' i = w i := by
  unfold f_X4_keepWord
  have g5 : gas = 5996 + 1 + 1 + 1 + 1 := by unfold gas; rfl
  have step : ∀ g j (v : Nat → Int32), 1 ≤ j → j < 4 → f_X4_keepWord_2 x (g + 1) (nI j) v = f_X4_keepWord_2 x g (nI (j - 1)) (upd v (21 + j) (v (21 + j - 1))) := by
    intro g j v h1 h2
    rw [f_X4_keepWord_2, if_neg (nI_nle (by omega) (by omega)), show (21 : Int32) = nI 21 from rfl, show (1 : Int32) = nI 1 from rfl, nI_add, pk_sub (by omega), if_neg (ixN (by omega) (by omega)), if_neg (ixN (by omega) (by omega)), nI_clamp (by omega), nI_clamp (by omega), Option.bind_some, show (-nI 1 : Int32) = -1 from rfl, sb_m1 (by omega)]
  rw [g5, show (3 : Int32) = nI 3 from rfl, step _ 3 _ (by omega) (by omega), step _ 2 _ (by omega) (by omega), step _ 1 _ (by omega) (by omega), f_X4_keepWord_2, if_pos (show nI (1 - 1) ≤ 0 by decide), Option.bind_some]
  simp only [Option.bind_some]
  have e20 : ∀ (a b c d : Int32), upd (upd (upd (upd w (21 + 3) a) (21 + 2) b) (21 + 1) c) 21 d 20 = nI kc := by
    intro a b c d
    simp [upd, h20]
  rw [e20]
  by_cases h : kc < 4
  · rw [if_neg (show ¬ (4 : Int32) ≤ nI kc by rw [show (4 : Int32) = nI 4 from rfl]; exact nI_ge h (by omega)), if_pos h]
    refine ⟨_, rfl, by rw [upd_eq, nI_1], fun i hi => ?_, fun i hi => ?_⟩
    · rcases (show i = 0 ∨ i = 1 ∨ i = 2 ∨ i = 3 by omega) with rfl | rfl | rfl | rfl <;> simp [upd, shK]
    · unfold upd
      rw [if_neg (by omega), if_neg (by omega), if_neg (by omega), if_neg (by omega), if_neg (by omega)]
  · rw [if_pos (show (4 : Int32) ≤ nI kc by rw [show (4 : Int32) = nI 4 from rfl]; exact nI_le (by omega) (by omega)), if_neg h]
    refine ⟨_, rfl, by rw [upd_eq, show nI kc + 0 = nI kc from nI_add kc 0, show kc = 4 by omega], fun i hi => ?_, fun i hi => ?_⟩
    · rcases (show i = 0 ∨ i = 1 ∨ i = 2 ∨ i = 3 by omega) with rfl | rfl | rfl | rfl <;> simp [upd, shK]
    · unfold upd
      rw [if_neg (by omega), if_neg (by omega), if_neg (by omega), if_neg (by omega), if_neg (by omega)]
