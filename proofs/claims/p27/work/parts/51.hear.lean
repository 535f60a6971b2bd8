/-! following -/
theorem folW_cue (w : Nat → Int32) (e i : Nat) : folW w e e (270 + i) = pasC (cueW w) e i := by
  unfold folW
  rw [upd_ne _ _ (by omega)]
  by_cases h : i < e
  · exact blk_in w _ h
  · rw [blk_out _ _ (by omega)]
    unfold pasC
    rw [if_neg (fun q => h q.1)]
    rfl
theorem folW_19 (w : Nat → Int32) (e : Nat) : folW w e e 19 = w 19 + nI (waN (cueW w) e) := by
  unfold folW
  rw [upd_eq]
  rfl
theorem folW_ne (w : Nat → Int32) {e i : Nat} (h1 : ¬ i = 19) (h2 : i < 270 ∨ 270 + e ≤ i) : folW w e e i = w i := by
  unfold folW
  rw [upd_ne _ _ h1, blk_out _ _ h2]
theorem P_f71 {M j c : Nat} {z : Nat → Nat} (hM : M ≤ 90000) (hS : nbS z) (hN : nbN M z) (hj : j < z 9) (w0 : Nat → Int32) (hw : ∀ i, i ≤ 14 → w0 i = nI (z i)) (h25 : w0 25 = nI c) (T P : Nat → Nat) (hT : trF c T P (z 10) (j + 1)) (hPq : ∀ i, i < c → P i < j + 1) (hTP : ∀ i, i < c → w0 (26 + 2 * i) = nI (T i) ∧ w0 (27 + 2 * i) = nI (P i)) (st cu ti po : Nat → Int32) (ps hd sk rp ov : Int32) (hst : st 6 = w0 6) (hcu : ∀ i, i < z 9 → cu i = w0 (270 + i)) (hti : ∀ i, i < c → ti i = nI (T i) ∧ po i = nI (P i)) :
    ∃ c' T' P' sp' ti' po' w', f_X1_follow_53 st (nI (z 9)) (nI (z 10)) (nI j) cu (nI c) ti po ps (nI (z 12)) hd sk rp ov = some (pasC cu j, nI c', ti', po', nI (j + 1), nI sp', nI (z 10), sk, rp, ov + nI (waN cu j)) ∧ f_X4_follow_71 (nI j) w0 = some w' ∧ sp' ≤ 12000 ∧ trF c' T' P' (z 10) (j + 1) ∧ ((0 < c' → P' (c' - 1) = (j + 1)) ∧ (1 < c' → sp' = 100 * ((j + 1) - P' 0) / (T' (c' - 1) - T' 0))) ∧ (∀ i, i < c' → (ti' i = nI (T' i) ∧ po' i = nI (P' i)) ∧ (w' (26 + 2 * i) = nI (T' i) ∧ w' (27 + 2 * i) = nI (P' i))) ∧ w' 25 = nI c' ∧ w' 12 = nI sp' ∧ w' 11 = nI (j + 1) ∧ w' 13 = nI (z 10) ∧ w' 19 = w0 19 + nI (waN cu j) ∧ (∀ i, i < z 9 → w' (270 + i) = pasC cu j i) ∧ ∀ i, (i < 25 ∨ 150 ≤ i) → ¬ i = 11 → ¬ i = 12 → ¬ i = 13 → ¬ i = 19 → (i < 270 ∨ 270 + j ≤ i) → w' i = w0 i := by
  obtain ⟨s0, s1, s2, s3, s4, s5, s6, s7, s8⟩ := hS
  obtain ⟨n9, n10, n11, n12, n13, n14, n20⟩ := hN
  have hA : ∀ i, ¬ i = 11 → ¬ i = 13 → upd (upd w0 11 (nI (j + 1))) 13 (nI (z 10)) i = w0 i := fun i a b => by rw [upd_ne _ _ b, upd_ne _ _ a]
  have hA11 : upd (upd w0 11 (nI (j + 1))) 13 (nI (z 10)) 11 = nI (j + 1) := by rw [upd_ne _ _ (by decide), upd_eq]
  have hA13 : upd (upd w0 11 (nI (j + 1))) 13 (nI (z 10)) 13 = nI (z 10) := upd_eq _ _ _
  generalize hv : upd (upd w0 11 (nI (j + 1))) 13 (nI (z 10)) = v at hA hA11 hA13
  have hB : ∀ i, ¬ i = 11 → ¬ i = 13 → ¬ i = 19 → (i < 270 ∨ 270 + j ≤ i) → folW v j j i = w0 i := fun i a b c d => by rw [folW_ne v c d, hA i a b]
  obtain ⟨c', T', P', sp', ti', po', w', r1, r2, r3, r4, r5, rx, r6, r7, r8, r9⟩ := P_trail (t := z 10) (q := j + 1) (win := z 6) (sp := z 12) (by omega) (by omega) (by omega) n12 T P hT hPq ti po (folW v j j) hti (fun i hi => by
    have := hT.1
    rw [hB _ (by omega) (by omega) (by omega) (by omega), hB _ (by omega) (by omega) (by omega) (by omega)]
    exact hTP i hi) (by rw [hB _ (by omega) (by omega) (by omega) (by omega)]; exact h25) (by rw [hB _ (by omega) (by omega) (by omega) (by omega)]; exact hw 10 (by omega)) (by rw [folW_ne v (by omega) (by omega), hA11]) (by rw [hB _ (by omega) (by omega) (by omega) (by omega)]; exact hw 6 (by omega)) (by rw [hB _ (by omega) (by omega) (by omega) (by omega)]; exact hw 12 (by omega))
  have ecu : ∀ i, i < z 9 → cueW v i = cu i := fun i hi => by
    show v (270 + i) = cu i
    rw [hA _ (by omega) (by omega), hcu i hi]
  have ewa : waN (cueW v) j = waN cu j := waN_congr j (fun i hi => ecu i (by omega))
  refine ⟨c', T', P', sp', ti', po', w', ?_, ?_, r4, r5, rx, r6, r7, r8, ?_, ?_, ?_, ?_, ?_⟩
  · unfold f_X1_follow_53
    rw [show (6 : Int32) = nI 6 from rfl, P_at (by omega) (by omega), Option.bind_some, hst, hw 6 (by omega), nI_1, r1, Option.bind_some]
    rw [r2, Option.bind_some, P_pass n9.2 (by omega), Option.bind_some]
  · unfold f_X4_follow_71
    rw [Option.bind_some, Option.bind_some, nI_1, upd_ne _ _ (show ¬ 10 = 11 by decide), hw 10 (by omega), hv]
    have := P_folM_l (e := j) (by omega) v j 0 gas (by omega) (by unfold gas; omega)
    rw [folW_0] at this
    rw [show (0 : Int32) = nI 0 from rfl, this, r3, Option.bind_some]
  · rw [r9 11 (by omega) (by omega), folW_ne v (by omega) (by omega), hA11]
  · rw [r9 13 (by omega) (by omega), folW_ne v (by omega) (by omega), hA13]
  · rw [r9 19 (by omega) (by omega), folW_19, ewa, hA 19 (by omega) (by omega)]
  · intro i hi
    rw [r9 _ (by omega) (by omega), folW_cue]
    unfold pasC
    rw [ecu i hi]
  · intro i h1 h2 h3 h4 h5 h6
    rw [r9 i h1 h3, hB i h2 h4 h5 h6]
theorem trF_mono {c : Nat} {T P : Nat → Nat} {t q q' : Nat} (h : trF c T P t q) (hq : q ≤ q') : trF c T P t q' := ⟨h.1, h.2.1, fun i hi => ⟨(h.2.2 i hi).1, Nat.le_trans (h.2.2 i hi).2 hq⟩⟩
theorem trF_0 (T P : Nat → Nat) (t q : Nat) : trF 0 T P t q := ⟨Nat.zero_le _, fun i j _ h => absurd h (Nat.not_lt_zero _), fun i h => absurd h (Nat.not_lt_zero _)⟩
def zN (z : Nat → Nat) (k v : Nat) : Nat → Nat := fun i => if i = k then v else z i
theorem zN_eq (z : Nat → Nat) (k v : Nat) : zN z k v k = v := by unfold zN; rw [if_pos rfl]
theorem zN_ne (z : Nat → Nat) {k i : Nat} (v : Nat) (h : ¬ i = k) : zN z k v i = z i := by unfold zN; rw [if_neg h]
theorem P_follow {M j : Nat} {z : Nat → Nat} {w st : Nat → Int32} {wo pg wip rows : Int32} {le pa cu ro fi : Nat → Int32} {pr : Int32} {ti po ke : Nat → Int32} {kc ps sp tm hd top sk rp ms je ov : Int32} (hM : M ≤ 90000) (hI : MI M w z) (hE : EQ w z st wo pg wip rows le pa cu ro fi pr ti po ke kc ps sp tm hd top sk rp ms je ov) (hj : j < z 9) :
    ∃ cu' pr' ti' po' sp' sk' rp' ov' w', f_X1_follow (nI j) st wo cu pr ti po ps sp tm hd sk rp ov = some (cu', pr', ti', po', nI (j + 1), sp', tm, sk', rp', ov') ∧ f_X4_follow (nI j) w = some w' ∧ REL M w' st wo pg wip rows le pa cu' ro fi pr' ti' po' ke kc (nI (j + 1)) sp' tm tm top sk' rp' ms je ov' ∧ sk' = (if z 11 < j then sk + 1 else sk) ∧ rp' = (if j < z 11 then rp + 1 else rp) := by
  obtain ⟨hS, hN, hw, h20, h25, T, P, hT, hTP, hX⟩ := hI
  obtain ⟨e1, e2, e3, e4, e5, e6, e7, e8, e9, e10, e11, e12, e13, e14, e15, e16, e17, e18, e19, e20, e21, e22⟩ := hE
  obtain ⟨n9, n10, n11, n12, n13, n14, n20⟩ := id hN
  have main : ∀ (w0 : Nat → Int32) (c : Nat) (sk' rp' : Int32), (∀ i, ¬ i = 15 → ¬ i = 16 → ¬ i = 25 → w0 i = w i) → w0 25 = nI c → w0 15 = sk' → w0 16 = rp' → c ≤ z 25 → trF c T P (z 10) (j + 1) → (∀ i, i < c → P i < j + 1) →
      ∃ cu' pr' ti' po' sp' ov' w', f_X1_follow_53 st wo tm (nI j) cu (nI c) ti po ps sp hd sk' rp' ov = some (cu', pr', ti', po', nI (j + 1), sp', tm, sk', rp', ov') ∧ f_X4_follow_71 (nI j) w0 = some w' ∧ REL M w' st wo pg wip rows le pa cu' ro fi pr' ti' po' ke kc (nI (j + 1)) sp' tm tm top sk' rp' ms je ov' := by
    intro w0 c sk' rp' hw0 h25' h15 h16 hc hT' hPq
    obtain ⟨x1, x2, x3, x4, x5, x6⟩ := id hX
    have hTl := hT'.1
    have hTl2 := hT.1
    obtain ⟨c', T', P', sp', ti', po', w', r1, r2, r3, r4, rx, r5, r6, r7, r8, r9, r10, r11, r12⟩ := P_f71 hM hS hN hj w0 (fun i hi => by rw [hw0 i (by omega) (by omega) (by omega)]; exact hw i hi) h25' T P hT' hPq (fun i hi => by
      rw [hw0 _ (by omega) (by omega) (by omega), hw0 _ (by omega) (by omega) (by omega)]
      exact hTP i (by omega)) st cu ti po ps hd sk' rp' ov (by rw [e1 6 (by omega), hw0 6 (by omega) (by omega) (by omega)]) (fun i hi => by rw [e7 i hi, hw0 _ (by omega) (by omega) (by omega)]) (fun i hi => by
      rw [(e10 i (by omega)).1, (e10 i (by omega)).2]
      exact hTP i (by omega))
    rw [e2, hw 9 (by omega), e15, hw 10 (by omega), e14, hw 12 (by omega)]
    have hk : ∀ i, (i < 25 ∨ 150 ≤ i) → ¬ i = 11 → ¬ i = 12 → ¬ i = 13 → ¬ i = 15 → ¬ i = 16 → ¬ i = 19 → (i < 270 ∨ 270 + j ≤ i) → w' i = w i := fun i a b c d f g h k => by
      rw [r12 i a b c d h k, hw0 i f g (by omega)]
    refine ⟨_, _, ti', po', _, _, w', r1, r2, zN (zN (zN (zN z 11 (j + 1)) 12 sp') 13 (z 10)) 25 c', ⟨?_, ?_, ?_, ?_, ?_, T', P', ?_, ?_, ?_⟩, ?_⟩
    · exact hS
    · exact ⟨n9, n10, by show j + 1 ≤ z 9; omega, r3, Nat.le_refl _, n14, n20⟩
    · intro i hi
      by_cases a : i = 11
      · rw [a, r8]; rfl
      · by_cases b : i = 12
        · rw [b, r7]; rfl
        · by_cases d : i = 13
          · rw [d, r9]; rfl
          · rw [hk i (by omega) a b d (by omega) (by omega) (by omega) (by omega), zN_ne _ _ (by omega), zN_ne _ _ d, zN_ne _ _ b, zN_ne _ _ a]
            exact hw i hi
    · rw [hk 20 (by omega) (by omega) (by omega) (by omega) (by omega) (by omega) (by omega) (by omega)]
      exact h20
    · rw [r6]; rfl
    · exact r4
    · intro i hi
      exact (r5 i hi).2
    · refine ⟨?_, ?_, fun i hi => ?_, ?_, rx.1, rx.2⟩
      · show z 14 ≤ 100 * ((stR (pasW w') (z 0) (z 9)).2 - z 1)
        rw [stR_congr (pas := pasW w') (pas' := pasW w) (z 9) (fun i hi => hk _ (by omega) (by omega) (by omega) (by omega) (by omega) (by omega) (by omega) (by omega))]; exact x1
      · rw [hk 18 (by omega) (by omega) (by omega) (by omega) (by omega) (by omega) (by omega) (by omega)]; exact x2
      · have hi : i < z 9 := hi
        rw [r11 i hi]
        unfold pasC
        by_cases q : i < j ∧ cu i = 1
        · rw [if_pos q]; exact Or.inr (Or.inr (Or.inr rfl))
        · rw [if_neg q, e7 i hi]; exact x3 i hi
      · exact pasO_congr (n := z 9) (fun i hi => hk _ (by omega) (by omega) (by omega) (by omega) (by omega) (by omega) (by omega) (by omega)) x4
    · refine ⟨?_, ?_, ?_, ?_, ?_, ?_, ?_, ?_, ?_, ?_, ?_, ?_, ?_, ?_, ?_, ?_, ?_, ?_, ?_, ?_, ?_, ?_⟩
      · intro i hi; rw [hk i (by omega) (by omega) (by omega) (by omega) (by omega) (by omega) (by omega) (by omega)]; exact e1 i hi
      · rw [hk 9 (by omega) (by omega) (by omega) (by omega) (by omega) (by omega) (by omega) (by omega), hw 9 (by omega)]
      · show pg = w' (390 + (z 9 - 1)) + 1
        rw [hk _ (by omega) (by omega) (by omega) (by omega) (by omega) (by omega) (by omega) (by omega)]; exact e3
      · show rows = nI (stR (pasW w') (z 0) (z 9)).2
        rw [stR_congr (pas := pasW w') (pas' := pasW w) (z 9) (fun i hi => hk _ (by omega) (by omega) (by omega) (by omega) (by omega) (by omega) (by omega) (by omega))]; exact e4
      · intro i hi
        have hi : i < z 9 := hi
        rw [hk _ (by omega) (by omega) (by omega) (by omega) (by omega) (by omega) (by omega) (by omega)]; exact e5 i hi
      · intro i hi
        have hi : i < z 9 := hi
        rw [hk _ (by omega) (by omega) (by omega) (by omega) (by omega) (by omega) (by omega) (by omega)]; exact e6 i hi
      · intro i hi
        exact (r11 i hi).symm
      · refine laidR_congr (fun i hi => ?_) e8
        exact (hk _ (by omega) (by omega) (by omega) (by omega) (by omega) (by omega) (by omega) (Or.inr (by omega))).symm
      · exact r6.symm
      · intro i hi
        rw [(r5 i hi).1.1, (r5 i hi).1.2, (r5 i hi).2.1, (r5 i hi).2.2]
        exact ⟨rfl, rfl⟩
      · intro i hi
        have hi : i < z 20 := hi
        rw [hk _ (by omega) (by omega) (by omega) (by omega) (by omega) (by omega) (by omega) (by omega)]; exact e11 i hi
      · rw [hk _ (by omega) (by omega) (by omega) (by omega) (by omega) (by omega) (by omega) (by omega)]; exact e12
      · exact r8.symm
      · exact r7.symm
      · rw [hk _ (by omega) (by omega) (by omega) (by omega) (by omega) (by omega) (by omega) (by omega), hw 10 (by omega)]
      · exact r9.symm
      · rw [hk _ (by omega) (by omega) (by omega) (by omega) (by omega) (by omega) (by omega) (by omega)]; exact e17
      · rw [r12 15 (by omega) (by omega) (by omega) (by omega) (by omega) (by omega), h15]
      · rw [r12 16 (by omega) (by omega) (by omega) (by omega) (by omega) (by omega), h16]
      · rw [hk _ (by omega) (by omega) (by omega) (by omega) (by omega) (by omega) (by omega) (by omega)]; exact e20
      · rw [hk _ (by omega) (by omega) (by omega) (by omega) (by omega) (by omega) (by omega) (by omega)]; exact e21
      · rw [r10, hw0 19 (by omega) (by omega) (by omega), e22]
  unfold f_X1_follow f_X4_follow f_X4_follow_35 f_X4_follow_61
  rw [e13, hw 11 (by omega)]
  by_cases a : j = z 11
  · rw [if_pos (nI_le (by omega) (by omega)), if_pos (nI_le (by omega) (by omega)), if_pos (by rw [a]), e9, h25]
    obtain ⟨x1, x2, x3, x4, x5, x6, x7, x8⟩ := main w (z 25) sk rp (fun i _ _ _ => rfl) h25 e18.symm e19.symm (Nat.le_refl _) (trF_mono hT (by omega)) (fun i hi => by have := (hT.2.2 i hi).2; omega)
    rw [e13, hw 11 (by omega)] at x8
    exact ⟨x1, x2, x3, x4, x5, sk, rp, x6, x7, x8.1, x8.2.1, x8.2.2, by rw [if_neg (by omega)], by rw [if_neg (by omega)]⟩
  · rw [if_neg (fun q => a ((nI_eq (by omega) (by omega)).mp q))]
    have em : f_X2_empty pr = some (nI 0) := rfl
    rw [em, Option.bind_some, Option.bind_some]
    have fin : ∀ (p15 p16 : Int32) (b : Int32) (hb : b = w 16), ∃ cu' pr' ti' po' sp' ov' w', f_X1_follow_53 st wo tm (nI j) cu (nI 0) ti po (nI (z 11)) sp hd p15 p16 ov = some (cu', pr', ti', po', nI (j + 1), sp', tm, p15, p16, ov') ∧ f_X4_follow_71 (nI j) (upd (upd (upd w 15 p15) 16 p16) 25 0) = some w' ∧ REL M w' st wo pg wip rows le pa cu' ro fi pr' ti' po' ke kc (nI (j + 1)) sp' tm tm top p15 p16 ms je ov' := by
      intro p15 p16 b hb
      have := main (upd (upd (upd w 15 p15) 16 p16) 25 0) 0 p15 p16 (fun i x y t => by rw [upd_ne _ _ t, upd_ne _ _ y, upd_ne _ _ x]) (upd_eq _ _ _) (by rw [upd_ne _ _ (by decide), upd_ne _ _ (by decide), upd_eq]) (by rw [upd_ne _ _ (by decide), upd_eq]) (Nat.zero_le _) (trF_0 _ _ _ _) (fun i hi => absurd hi (Nat.not_lt_zero _))
      rw [e13, hw 11 (by omega)] at this
      exact this
    by_cases b : j < z 11
    · rw [if_pos (nI_le (by omega) (by omega)), if_neg (nI_ge b (by omega)), if_pos (nI_le (by omega) (by omega)), if_neg (by decide), show (15 : Int32).toNatClampNeg = 15 from rfl, Option.bind_some, upd_ne _ _ (show ¬ 11 = 15 by decide), hw 11 (by omega), if_neg (nI_ge b (by omega)), if_neg (by decide), show (16 : Int32).toNatClampNeg = 16 from rfl, Option.bind_some, Option.bind_some, upd_ne _ _ (show ¬ 16 = 15 by decide), show w 15 + 0 = w 15 from Int32.add_zero _, ← e18, ← e19]
      obtain ⟨x1, x2, x3, x4, x5, x6, x7, x8⟩ := fin sk (rp + 1) (w 16) rfl
      exact ⟨x1, x2, x3, x4, x5, sk, rp + 1, x6, x7, x8.1, x8.2.1, x8.2.2, by rw [if_neg (by omega)], by rw [if_pos b]⟩
    · rw [if_neg (nI_ge (by omega) (by omega)), if_neg (nI_ge (by omega) (by omega)), if_neg (by decide), show (15 : Int32).toNatClampNeg = 15 from rfl, Option.bind_some, upd_ne _ _ (show ¬ 11 = 15 by decide), hw 11 (by omega), if_pos (nI_le (by omega) (by omega)), if_neg (by decide), show (16 : Int32).toNatClampNeg = 16 from rfl, Option.bind_some, Option.bind_some, upd_ne _ _ (show ¬ 16 = 15 by decide), show w 16 + 0 = w 16 from Int32.add_zero _, ← e18, ← e19]
      obtain ⟨x1, x2, x3, x4, x5, x6, x7, x8⟩ := fin (sk + 1) rp (w 16) rfl
      exact ⟨x1, x2, x3, x4, x5, sk + 1, rp, x6, x7, x8.1, x8.2.1, x8.2.2, by rw [if_pos (by omega)], by rw [if_neg (by omega)]⟩
