/-! what is remembered, and the images -/
def RS (M : Nat) (w : Nat → Int32) (S : Nat → Nat → Int32) : Prop := REL M w (S 0) (S 1 0) (S 2 0) (S 3 0) (S 4 0) (S 5) (S 6) (S 7) (S 8) (S 9) (S 10 0) (S 11) (S 12) (S 13) (S 14 0) (S 15 0) (S 16 0) (S 17 0) (S 18 0) (S 19 0) (S 20 0) (S 21 0) (S 22 0) (S 23 0) (S 24 0)
def HIS (M u : Nat) (past : Nat → Int32) (hr : Nat → Nat) (PS : Nat → Nat → Nat → Int32) : Prop := u ≤ 8 ∧ (∀ j, j < 8 → hr j < 8) ∧ (∀ i j, i < 8 → j < 8 → hr i = hr j → i = j) ∧ ∀ j, j < u → RS M (fun i => past (510 * j + i)) (PS (hr j))
def IMG (M f : Nat) (images ik : Nat → Int32) (PS : Nat → Nat → Nat → Int32) : Prop := f < 4 ∧ ik 0 = nI (f % 2) ∧ ik 1 = nI (f / 2) ∧ (f % 2 = 1 → RS M images (PS 8)) ∧ (f / 2 = 1 → RS M (fun i => images (510 + i)) (PS 9))
theorem HIS_mono {M M' u : Nat} {past : Nat → Int32} {hr : Nat → Nat} {PS : Nat → Nat → Nat → Int32} (h : M ≤ M') (a : HIS M u past hr PS) : HIS M' u past hr PS := ⟨a.1, a.2.1, a.2.2.1, fun j hj => REL_mono h (a.2.2.2 j hj)⟩
theorem IMG_mono {M M' f : Nat} {images ik : Nat → Int32} {PS : Nat → Nat → Nat → Int32} (h : M ≤ M') (a : IMG M f images ik PS) : IMG M' f images ik PS := ⟨a.1, a.2.1, a.2.2.1, fun q => REL_mono h (a.2.2.2.1 q), fun q => REL_mono h (a.2.2.2.2 q)⟩
theorem IMG_ext {M f : Nat} {images ik : Nat → Int32} {PS PS' : Nat → Nat → Nat → Int32} (h : ∀ x, 8 ≤ x → PS' x = PS x) (a : IMG M f images ik PS) : IMG M f images ik PS' := ⟨a.1, a.2.1, a.2.2.1, fun q => by rw [h 8 (by decide)]; exact a.2.2.2.1 q, fun q => by rw [h 9 (by decide)]; exact a.2.2.2.2 q⟩
theorem updS_eq (S : Nat → Nat → Nat → Int32) (k : Nat) (T : Nat → Nat → Int32) : updS S k T k = T := by unfold updS; rw [if_pos rfl]
theorem updS_ne (S : Nat → Nat → Nat → Int32) {k i : Nat} (T : Nat → Nat → Int32) (h : ¬ i = k) : updS S k T i = S i := by unfold updS; rw [if_neg h]
theorem blkAt (b : Nat) (w c : Nat → Int32) {i : Nat} (h : i < 510) : blkW b w 510 c (b + i) = c i := blk_in w c h
theorem P_recordBoth {M u : Nat} {w past : Nat → Int32} {st : Nat → Int32} {wo pg wip rows : Int32} {le pa cu ro fi : Nat → Int32} {pr : Int32} {ti po ke : Nat → Int32} {kc ps sp tm hd top sk rp ms je ov : Int32} {hr : Nat → Nat} {PS : Nat → Nat → Nat → Int32} (r : REL M w st wo pg wip rows le pa cu ro fi pr ti po ke kc ps sp tm hd top sk rp ms je ov) (h : HIS M u past hr PS) :
    ∃ u' hr' PS' past', f_X3_record st wo pg wip rows le pa cu ro fi pr ti po ke kc ps sp tm hd top sk rp ms je ov (nI u) hr PS = some (nI u', hr', PS') ∧ f_X4_remember w past (nI u) = some (past', nI u') ∧ HIS M u' past' hr' PS' ∧ ∀ x, 8 ≤ x → PS' x = PS x := by
  obtain ⟨h1, h2, h3, h4⟩ := h
  have hm := P_remember h1 w past
  unfold f_X3_record
  by_cases c : u = 8
  · subst c
    rw [if_pos rfl] at hm
    have hrot : rotN hr 7 = hr 0 := rfl
    have hrotl : ∀ j, j < 7 → rotN hr j = hr (j + 1) := fun j hj => by unfold rotN; rw [if_pos hj]
    obtain ⟨st', le', pa', cu', ro', fi', ti', po', ke', b1, b2, _⟩ := P_become r ((PS (rotN hr 7)) 0) ((PS (rotN hr 7)) 1 0) ((PS (rotN hr 7)) 2 0) ((PS (rotN hr 7)) 3 0) ((PS (rotN hr 7)) 4 0) ((PS (rotN hr 7)) 5) ((PS (rotN hr 7)) 6) ((PS (rotN hr 7)) 7) ((PS (rotN hr 7)) 8) ((PS (rotN hr 7)) 9) ((PS (rotN hr 7)) 10 0) ((PS (rotN hr 7)) 11) ((PS (rotN hr 7)) 12) ((PS (rotN hr 7)) 13) ((PS (rotN hr 7)) 14 0) ((PS (rotN hr 7)) 15 0) ((PS (rotN hr 7)) 16 0) ((PS (rotN hr 7)) 17 0) ((PS (rotN hr 7)) 18 0) ((PS (rotN hr 7)) 19 0) ((PS (rotN hr 7)) 20 0) ((PS (rotN hr 7)) 21 0) ((PS (rotN hr 7)) 22 0) ((PS (rotN hr 7)) 23 0) ((PS (rotN hr 7)) 24 0)
    rw [if_neg (show ¬ nI 8 < 8 by decide), show nI 8 - 1 = nI 7 from rfl, if_neg (by decide), show (nI 7).toNatClampNeg = 7 from rfl]
    refine ⟨8, rotN hr, updS PS (rotN hr 7) (mkS st' wo pg wip rows le' pa' cu' ro' fi' pr ti' po' ke' kc ps sp tm hd top sk rp ms je ov), _, ?_, hm, ?_, ?_⟩
    · rw [b1]; rfl
    · refine ⟨Nat.le_refl _, fun j hj => ?_, fun i j hi hj e => ?_, fun j hj => ?_⟩
      · unfold rotN
        by_cases a : j < 7
        · rw [if_pos a]; exact h2 _ (by omega)
        · rw [if_neg a, if_pos (by omega)]; exact h2 0 (by omega)
      · unfold rotN at e
        by_cases a : i < 7
        · by_cases b : j < 7
          · rw [if_pos a, if_pos b] at e
            have := h3 (i + 1) (j + 1) (by omega) (by omega) e
            omega
          · rw [if_pos a, if_neg b, if_pos (by omega)] at e
            have := h3 (i + 1) 0 (by omega) (by omega) e
            omega
        · by_cases b : j < 7
          · rw [if_neg a, if_pos b, if_pos (by omega)] at e
            have := h3 0 (j + 1) (by omega) (by omega) e
            omega
          · omega
      · by_cases a : j = 7
        · rw [a, updS_eq]
          exact REL_ext (fun i hi => blkAt 3570 (shP past 3570) w hi) b2
        · rw [updS_ne _ _ (fun e => by rw [hrot, hrotl j (by omega)] at e; have := h3 (j + 1) 0 (by omega) (by omega) e; omega), hrotl j (by omega)]
          refine REL_ext (fun i hi => ?_) (h4 (j + 1) (by omega))
          show blkW 3570 (shP past 3570) 510 w (510 * j + i) = past (510 * (j + 1) + i)
          rw [blk_out _ _ (by omega)]
          unfold shP
          rw [if_pos (by omega), show 510 * j + i + 510 = 510 * (j + 1) + i by omega]
    · intro x hx
      exact updS_ne _ _ (fun e => by have := h2 0 (by omega); rw [hrot] at e; omega)
  · rw [if_neg c] at hm
    obtain ⟨st', le', pa', cu', ro', fi', ti', po', ke', b1, b2, _⟩ := P_become r ((PS (hr u)) 0) ((PS (hr u)) 1 0) ((PS (hr u)) 2 0) ((PS (hr u)) 3 0) ((PS (hr u)) 4 0) ((PS (hr u)) 5) ((PS (hr u)) 6) ((PS (hr u)) 7) ((PS (hr u)) 8) ((PS (hr u)) 9) ((PS (hr u)) 10 0) ((PS (hr u)) 11) ((PS (hr u)) 12) ((PS (hr u)) 13) ((PS (hr u)) 14 0) ((PS (hr u)) 15 0) ((PS (hr u)) 16 0) ((PS (hr u)) 17 0) ((PS (hr u)) 18 0) ((PS (hr u)) 19 0) ((PS (hr u)) 20 0) ((PS (hr u)) 21 0) ((PS (hr u)) 22 0) ((PS (hr u)) 23 0) ((PS (hr u)) 24 0)
    rw [if_pos (show nI u < 8 from nI_lt (b := 8) (by omega) (by omega)), if_neg (ixN (by omega) (by omega)), nI_clamp (by omega)]
    refine ⟨u + 1, hr, updS PS (hr u) (mkS st' wo pg wip rows le' pa' cu' ro' fi' pr ti' po' ke' kc ps sp tm hd top sk rp ms je ov), _, ?_, hm, ?_, ?_⟩
    · rw [b1, nI_1]; rfl
    · refine ⟨by omega, h2, h3, fun j hj => ?_⟩
      by_cases a : j = u
      · rw [a, updS_eq]
        exact REL_ext (fun i hi => blkAt (510 * u) past w hi) b2
      · rw [updS_ne _ _ (fun e => a (h3 j u (by omega) (by omega) e))]
        refine REL_ext (fun i hi => ?_) (h4 j (by omega))
        exact blk_out _ _ (by omega)
    · intro x hx
      exact updS_ne _ _ (fun e => by have := h2 u (by omega); omega)
/-- undo, both sides -/
theorem P_undoBoth {M u : Nat} {w past : Nat → Int32} {st : Nat → Int32} {wo pg wip rows : Int32} {le pa cu ro fi : Nat → Int32} {pr : Int32} {ti po ke : Nat → Int32} {kc ps sp tm hd top sk rp ms je ov : Int32} {hr : Nat → Nat} {PS : Nat → Nat → Nat → Int32} (r : REL M w st wo pg wip rows le pa cu ro fi pr ti po ke kc ps sp tm hd top sk rp ms je ov) (h : HIS M u past hr PS) (roM : Nat → Int32) (rowsM : Int32) (hL : LR wo rows ro roM rowsM) :
    ∃ v u' S w' roM' rowsM', f_X3_undo st wo pg wip rows le pa cu ro fi pr ti po ke kc ps sp tm hd top sk rp ms je ov (nI u) hr PS = some (v, S 0, S 1 0, S 2 0, S 3 0, S 4 0, S 5, S 6, S 7, S 8, S 9, S 10 0, S 11, S 12, S 13, S 14 0, S 15 0, S 16 0, S 17 0, S 18 0, S 19 0, S 20 0, S 21 0, S 22 0, S 23 0, S 24 0, nI u') ∧ f_X4_undo w past (nI u) roM rowsM = some (v, w', nI u', roM', rowsM') ∧ RS M w' S ∧ LR (S 1 0) (S 4 0) (S 8) roM' rowsM' ∧ HIS M u' past hr PS := by
  obtain ⟨h1, h2, h3, h4⟩ := id h
  unfold f_X3_undo f_X4_undo
  by_cases c : u = 0
  · rw [if_neg (show ¬ (1 : Int32) ≤ nI u by rw [c]; decide), if_pos (show nI u = 0 by rw [c]; rfl)]
    exact ⟨-2, u, mkS st wo pg wip rows le pa cu ro fi pr ti po ke kc ps sp tm hd top sk rp ms je ov, w, roM, rowsM, rfl, rfl, r, hL, h⟩
  · have hr0 := h4 (u - 1) (by omega)
    obtain ⟨st', le', pa', cu', ro', fi', ti', po', ke', b1, b2, _⟩ := P_become hr0 st wo pg wip rows le pa cu ro fi pr ti po ke kc ps sp tm hd top sk rp ms je ov
    have b3 := REL_ext (w' := blkW 0 w 510 (fun i => past (510 * (u - 1) + i))) (fun i hi => by
      have := blkAt 0 w (fun i => past (510 * (u - 1) + i)) hi
      rw [Nat.zero_add] at this
      exact this) b2
    obtain ⟨ro2, rows2, l1, l2⟩ := P_layR b3 roM rowsM
    have hu := P_undo_l (u := u - 1) (by omega) w past roM rowsM 510 0 gas (by omega) (by unfold gas; omega)
    rw [blk_0, l1] at hu
    rw [if_pos (show (1 : Int32) ≤ nI u from nI_le (a := 1) (by omega) (by omega)), if_neg (show ¬ nI u = 0 from nI_ne0 (by omega) (by omega)), show (1 : Int32) = nI 1 from rfl, pk_sub (by omega), if_neg (ixN (by omega) (by omega)), nI_clamp (by omega)]
    refine ⟨nI (u - 1), u - 1, mkS st' (PS (hr (u - 1)) 1 0) (PS (hr (u - 1)) 2 0) (PS (hr (u - 1)) 3 0) (PS (hr (u - 1)) 4 0) le' pa' cu' ro' fi' (PS (hr (u - 1)) 10 0) ti' po' ke' (PS (hr (u - 1)) 14 0) (PS (hr (u - 1)) 15 0) (PS (hr (u - 1)) 16 0) (PS (hr (u - 1)) 17 0) (PS (hr (u - 1)) 18 0) (PS (hr (u - 1)) 19 0) (PS (hr (u - 1)) 20 0) (PS (hr (u - 1)) 21 0) (PS (hr (u - 1)) 22 0) (PS (hr (u - 1)) 23 0) (PS (hr (u - 1)) 24 0), _, ro2, rows2, ?_, hu, b3, l2, by omega, h2, h3, fun j hj => h4 j (by omega)⟩
    rw [b1]; rfl
theorem isImg (x : Int32) : (f_X4_isImage x = some 0 ∧ (x < 0 ∨ (¬ x < 0 ∧ ¬ x < 2))) ∨ ∃ k : Nat, k < 2 ∧ x = nI k ∧ f_X4_isImage x = some 1 := by
  unfold f_X4_isImage
  rw [P_isIn, P_bool]
  by_cases a : x < 0
  · exact Or.inl ⟨by rw [if_neg (fun q => absurd a (Int32.not_lt.mpr q.1))], Or.inl a⟩
  · obtain ⟨k, hk, rfl⟩ := nI_of a
    by_cases b : k < 2
    · exact Or.inr ⟨k, b, rfl, by rw [if_pos ⟨nI_pos' hk, nI_le (b := 1) (by omega) (by omega)⟩]⟩
    · exact Or.inl ⟨by rw [if_neg (fun q => nI_ge (a := 1) (show 1 < k by omega) hk q.2)], Or.inr ⟨a, nI_nlt (b := 2) (by omega) hk⟩⟩
/-- keep, both sides -/
theorem P_keepImg {M f u : Nat} {w images past ik : Nat → Int32} {st : Nat → Int32} {wo pg wip rows : Int32} {le pa cu ro fi : Nat → Int32} {pr : Int32} {ti po ke : Nat → Int32} {kc ps sp tm hd top sk rp ms je ov : Int32} {hr : Nat → Nat} {PS : Nat → Nat → Nat → Int32} (r : REL M w st wo pg wip rows le pa cu ro fi pr ti po ke kc ps sp tm hd top sk rp ms je ov) (h : IMG M f images ik PS) (hh : HIS M u past hr PS) (p : Int32) :
    ∃ v f' ik' PS' images', f_X3_keep p st wo pg wip rows le pa cu ro fi pr ti po ke kc ps sp tm hd top sk rp ms je ov ik PS = some (v, ik', PS') ∧ f_X4_keep p w images (nI f) = some (v, images', nI f') ∧ IMG M f' images' ik' PS' ∧ HIS M u past hr PS' := by
  obtain ⟨g1, g2, g3, g4, g5⟩ := id h
  unfold f_X3_keep f_X4_keep
  rcases isImg p with ⟨a, b⟩ | ⟨k, hk, rfl, a⟩
  · rw [a, Option.bind_some, if_pos rfl]
    rcases b with b | ⟨b, c⟩
    · rw [if_pos b]
      exact ⟨-1, f, ik, PS, images, rfl, rfl, h, hh⟩
    · rw [if_neg b, if_neg c]
      exact ⟨-1, f, ik, PS, images, rfl, rfl, h, hh⟩
  · obtain ⟨st', le', pa', cu', ro', fi', ti', po', ke', b1, b2, _⟩ := P_become r ((PS (8 + k)) 0) ((PS (8 + k)) 1 0) ((PS (8 + k)) 2 0) ((PS (8 + k)) 3 0) ((PS (8 + k)) 4 0) ((PS (8 + k)) 5) ((PS (8 + k)) 6) ((PS (8 + k)) 7) ((PS (8 + k)) 8) ((PS (8 + k)) 9) ((PS (8 + k)) 10 0) ((PS (8 + k)) 11) ((PS (8 + k)) 12) ((PS (8 + k)) 13) ((PS (8 + k)) 14 0) ((PS (8 + k)) 15 0) ((PS (8 + k)) 16 0) ((PS (8 + k)) 17 0) ((PS (8 + k)) 18 0) ((PS (8 + k)) 19 0) ((PS (8 + k)) 20 0) ((PS (8 + k)) 21 0) ((PS (8 + k)) 22 0) ((PS (8 + k)) 23 0) ((PS (8 + k)) 24 0)
    obtain ⟨n, p', _, _, _, _, q1, q2, _⟩ := REL_n r
    have hkk := P_keep_l (x := k) hk w images (nI f) 510 0 gas (by omega) (by unfold gas; omega)
    rw [blk_0] at hkk
    rw [a, Option.bind_some, if_neg (show ¬ (1 : Int32) = 0 by decide), if_neg (nI_pos (by omega)), if_pos (show nI k < 2 from nI_lt (b := 2) hk (by omega)), if_neg (ixN (by omega) (by omega)), nI_clamp (by omega), b1, Option.bind_some, if_neg (ixN' hk (by omega))]
    have hh' : ∀ T, HIS M u past hr (updS PS (8 + k) T) := fun T => ⟨hh.1, hh.2.1, hh.2.2.1, fun j hj => by
      have := hh.2.1 j (by have := hh.1; omega)
      rw [updS_ne _ _ (by omega)]
      exact hh.2.2.2 j hj⟩
    have hb : ∀ i, i < 510 → blkW (510 * k) images 510 w (510 * k + i) = w i := fun i hi => blkAt _ _ _ hi
    rcases (show k = 0 ∨ k = 1 by omega) with rfl | rfl
    · have e : nI f ||| (1 <<< (nI 0 &&& 31)) = nI (f / 2 * 2 + 1) := by
        rcases (show f = 0 ∨ f = 1 ∨ f = 2 ∨ f = 3 by omega) with rfl | rfl | rfl | rfl <;> decide
      rw [e] at hkk
      refine ⟨ps, f / 2 * 2 + 1, upd ik 0 1, updS PS 8 (mkS st' wo pg wip rows le' pa' cu' ro' fi' pr ti' po' ke' kc ps sp tm hd top sk rp ms je ov), _, rfl, by rw [show (0 : Int32) = nI 0 from rfl, hkk, q1, q2], ⟨by omega, by rw [upd_eq, show (f / 2 * 2 + 1) % 2 = 1 by omega]; rfl, by rw [upd_ne _ _ (by decide), g3, show (f / 2 * 2 + 1) / 2 = f / 2 by omega], fun _ => ?_, fun q => ?_⟩, hh' _⟩
      · rw [updS_eq]
        exact REL_ext (fun i hi => by have := hb i hi; rw [show 510 * 0 + i = i by omega] at this; exact this) b2
      · rw [updS_ne _ _ (by decide)]
        refine REL_ext (fun i hi => ?_) (g5 (by omega))
        exact blk_out _ _ (by omega)
    · have e : nI f ||| (1 <<< (nI 1 &&& 31)) = nI (f % 2 + 2) := by
        rcases (show f = 0 ∨ f = 1 ∨ f = 2 ∨ f = 3 by omega) with rfl | rfl | rfl | rfl <;> decide
      rw [e] at hkk
      refine ⟨ps, f % 2 + 2, upd ik 1 1, updS PS 9 (mkS st' wo pg wip rows le' pa' cu' ro' fi' pr ti' po' ke' kc ps sp tm hd top sk rp ms je ov), _, rfl, by rw [show (0 : Int32) = nI 0 from rfl, hkk, q1, q2], ⟨by omega, by rw [upd_ne _ _ (by decide), g2, show (f % 2 + 2) % 2 = f % 2 by omega], by rw [upd_eq, show (f % 2 + 2) / 2 = 1 by omega]; rfl, fun q => ?_, fun _ => ?_⟩, hh' _⟩
      · rw [updS_ne _ _ (by decide)]
        refine REL_ext (fun i hi => ?_) (g4 (by omega))
        exact blk_out _ _ (by omega)
      · rw [updS_eq]
        exact REL_ext (fun i hi => hb i hi) b2
/-- back, both sides -/
theorem P_backImg {M f u : Nat} {w images past ik : Nat → Int32} {st : Nat → Int32} {wo pg wip rows : Int32} {le pa cu ro fi : Nat → Int32} {pr : Int32} {ti po ke : Nat → Int32} {kc ps sp tm hd top sk rp ms je ov : Int32} {hr : Nat → Nat} {PS : Nat → Nat → Nat → Int32} (r : REL M w st wo pg wip rows le pa cu ro fi pr ti po ke kc ps sp tm hd top sk rp ms je ov) (h : IMG M f images ik PS) (hh : HIS M u past hr PS) (roM : Nat → Int32) (rowsM : Int32) (hL : LR wo rows ro roM rowsM) (p : Int32) :
    ∃ v u' hr' PS' past' S w' roM' rowsM', f_X3_back p st wo pg wip rows le pa cu ro fi pr ti po ke kc ps sp tm hd top sk rp ms je ov (nI u) ik hr PS = some (v, S 0, S 1 0, S 2 0, S 3 0, S 4 0, S 5, S 6, S 7, S 8, S 9, S 10 0, S 11, S 12, S 13, S 14 0, S 15 0, S 16 0, S 17 0, S 18 0, S 19 0, S 20 0, S 21 0, S 22 0, S 23 0, S 24 0, nI u', hr', PS') ∧ f_X4_back p w past (nI u) images (nI f) roM rowsM = some (v, w', past', nI u', roM', rowsM') ∧ RS M w' S ∧ LR (S 1 0) (S 4 0) (S 8) roM' rowsM' ∧ HIS M u' past' hr' PS' ∧ ∀ x, 8 ≤ x → PS' x = PS x := by
  obtain ⟨g1, g2, g3, g4, g5⟩ := id h
  unfold f_X3_back f_X4_back
  rcases isImg p with ⟨a, b⟩ | ⟨k, hk, rfl, a⟩
  · rw [a, Option.bind_some, if_pos rfl]
    rcases b with b | ⟨b, c⟩
    · rw [if_pos b]
      exact ⟨-1, u, hr, PS, past, mkS st wo pg wip rows le pa cu ro fi pr ti po ke kc ps sp tm hd top sk rp ms je ov, w, roM, rowsM, rfl, rfl, r, hL, hh, fun _ _ => rfl⟩
    · rw [if_neg b, if_neg c]
      exact ⟨-1, u, hr, PS, past, mkS st wo pg wip rows le pa cu ro fi pr ti po ke kc ps sp tm hd top sk rp ms je ov, w, roM, rowsM, rfl, rfl, r, hL, hh, fun _ _ => rfl⟩
  · rw [a, Option.bind_some, if_neg (show ¬ (1 : Int32) = 0 by decide), if_neg (nI_pos (by omega)), if_pos (show nI k < 2 from nI_lt (b := 2) hk (by omega)), if_neg (ixN (by omega) (by omega)), nI_clamp (by omega)]
    have hbit : (ik k = 0 ∧ ((nI f >>> (nI k &&& 31)) &&& 1) = 0) ∨ (¬ ik k = 0 ∧ ¬ ((nI f >>> (nI k &&& 31)) &&& 1) = 0 ∧ RS M (fun i => images (510 * k + i)) (PS (8 + k))) := by
      rcases (show k = 0 ∨ k = 1 by omega) with rfl | rfl
      · by_cases y : f % 2 = 1
        · refine Or.inr ⟨by rw [g2, y]; decide, ?_, ?_⟩
          · rcases (show f = 1 ∨ f = 3 by omega) with rfl | rfl <;> decide
          · have := g4 y
            exact REL_ext (fun i hi => congrArg images (by omega)) this
        · refine Or.inl ⟨by rw [g2, show f % 2 = 0 by omega]; rfl, ?_⟩
          rcases (show f = 0 ∨ f = 2 by omega) with rfl | rfl <;> decide
      · by_cases y : f / 2 = 1
        · refine Or.inr ⟨by rw [g3, y]; decide, ?_, g5 y⟩
          rcases (show f = 2 ∨ f = 3 by omega) with rfl | rfl <;> decide
        · refine Or.inl ⟨by rw [g3, show f / 2 = 0 by omega]; rfl, ?_⟩
          rcases (show f = 0 ∨ f = 1 by omega) with rfl | rfl <;> decide
    rcases hbit with ⟨x, y⟩ | ⟨x, y, y2⟩
    · rw [if_pos x, if_pos y]
      exact ⟨-2, u, hr, PS, past, mkS st wo pg wip rows le pa cu ro fi pr ti po ke kc ps sp tm hd top sk rp ms je ov, w, roM, rowsM, rfl, rfl, r, hL, hh, fun _ _ => rfl⟩
    · rw [if_neg x, if_neg y]
      obtain ⟨u', hr', PS', past', d1, d2, d3, d4⟩ := P_recordBoth r hh
      rw [← d4 (8 + k) (by omega)] at y2
      obtain ⟨st', le', pa', cu', ro', fi', ti', po', ke', b1, b2, _⟩ := P_become y2 st wo pg wip rows le pa cu ro fi pr ti po ke kc ps sp tm hd top sk rp ms je ov
      have b3 := REL_ext (w' := blkW 0 w 510 (fun i => images (510 * k + i))) (fun i hi => by
        have := blkAt 0 w (fun i => images (510 * k + i)) hi
        rw [Nat.zero_add] at this
        exact this) b2
      obtain ⟨ro2, rows2, l1, l2⟩ := P_layR b3 roM rowsM
      obtain ⟨n, p', _, _, _, _, q1, q2, _⟩ := REL_n b3
      have hb := P_back_l hk w images past' roM (nI u') rowsM 510 0 gas (by omega) (by unfold gas; omega)
      rw [blk_0, l1] at hb
      rw [d1, d2, Option.bind_some, Option.bind_some, if_neg (ixN' hk (by omega)), b1]
      refine ⟨PS' (8 + k) 15 0, u', hr', PS', past', mkS st' (PS' (8 + k) 1 0) (PS' (8 + k) 2 0) (PS' (8 + k) 3 0) (PS' (8 + k) 4 0) le' pa' cu' ro' fi' (PS' (8 + k) 10 0) ti' po' ke' (PS' (8 + k) 14 0) (PS' (8 + k) 15 0) (PS' (8 + k) 16 0) (PS' (8 + k) 17 0) (PS' (8 + k) 18 0) (PS' (8 + k) 19 0) (PS' (8 + k) 20 0) (PS' (8 + k) 21 0) (PS' (8 + k) 22 0) (PS' (8 + k) 23 0) (PS' (8 + k) 24 0), _, ro2, rows2, rfl, ?_, b3, l2, d3, d4⟩
      rw [show (0 : Int32) = nI 0 from rfl, hb, q1, q2]
      rfl
