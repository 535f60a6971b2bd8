/-! listening -/
/-- only the counters have changed -/
theorem REL_cnt {M : Nat} {z : Nat → Nat} {w w' st : Nat → Int32} {wo pg wip rows : Int32} {le pa cu ro fi : Nat → Int32} {pr : Int32} {ti po ke : Nat → Int32} {kc ps sp tm hd top sk rp ms je ov : Int32} (hI : MI M w z) (hE : EQ w z st wo pg wip rows le pa cu ro fi pr ti po ke kc ps sp tm hd top sk rp ms je ov) (h : ∀ i, (i < 15 ∨ 20 ≤ i) → w' i = w i) (h18 : w' 18 = w 18) : MI M w' z ∧ EQ w' z st wo pg wip rows le pa cu ro fi pr ti po ke kc ps sp tm hd top (w' 15) (w' 16) (w' 17) (w' 18) (w' 19) := by
  obtain ⟨hS, hN, hw, h20, h25, T, P, hT, hTP, hX⟩ := hI
  obtain ⟨e1, e2, e3, e4, e5, e6, e7, e8, e9, e10, e11, e12, e13, e14, e15, e16, e17, e18, e19, e20, e21, e22⟩ := hE
  have hp : pasW w' = pasW w := funext fun i => h _ (by omega)
  refine ⟨⟨hS, hN, fun i hi => by rw [h i (by omega)]; exact hw i hi, by rw [h 20 (by omega)]; exact h20, by rw [h 25 (by omega)]; exact h25, T, P, hT, fun i hi => by rw [h _ (by omega), h _ (by omega)]; exact hTP i hi, EX_w h18 (fun i _ => h _ (by omega)) (fun i _ => h _ (by omega)) hX⟩, ?_⟩
  refine ⟨fun i hi => by rw [h i (by omega)]; exact e1 i hi, by rw [h 9 (by omega)]; exact e2, by rw [h _ (by omega)]; exact e3, by rw [hp]; exact e4, fun i hi => by rw [h _ (by omega)]; exact e5 i hi, fun i hi => by rw [h _ (by omega)]; exact e6 i hi, fun i hi => by rw [h _ (by omega)]; exact e7 i hi, by rw [hp]; exact e8, by rw [h 25 (by omega)]; exact e9, fun i hi => by rw [h _ (by omega), h _ (by omega)]; exact e10 i hi, fun i hi => by rw [h _ (by omega)]; exact e11 i hi, by rw [h 20 (by omega)]; exact e12, by rw [h 11 (by omega)]; exact e13, by rw [h 12 (by omega)]; exact e14, by rw [h 10 (by omega)]; exact e15, by rw [h 13 (by omega)]; exact e16, by rw [h 14 (by omega)]; exact e17, rfl, rfl, rfl, rfl, rfl⟩
theorem P_keepBoth {M : Nat} {w st : Nat → Int32} {wo pg wip rows : Int32} {le pa cu ro fi : Nat → Int32} {pr : Int32} {ti po ke : Nat → Int32} {kc ps sp tm hd top sk rp ms je ov : Int32} (x : Int32) (hR : REL M w st wo pg wip rows le pa cu ro fi pr ti po ke kc ps sp tm hd top sk rp ms je ov) :
    ∃ ke' kc' w', f_X1_keepHeard x ke kc = some (ke', kc') ∧ f_X4_keepWord x w = some w' ∧ w' 11 = ps ∧ (ke' 0 = x ∧ ∃ k, kc' = nI (k + 1) ∧ k < 4) ∧ REL M w' st wo pg wip rows le pa cu ro fi pr ti po ke' kc' ps sp tm hd top sk rp ms je ov := by
  obtain ⟨z, ⟨hS, hN, hw, h20, h25, T, P, hT, hTP, hX⟩, hE⟩ := hR
  obtain ⟨e1, e2, e3, e4, e5, e6, e7, e8, e9, e10, e11, e12, e13, e14, e15, e16, e17, e18, e19, e20, e21, e22⟩ := hE
  obtain ⟨n9, n10, n11, n12, n13, n14, n20⟩ := id hN
  obtain ⟨K', k1, k2⟩ := P_keepHeard (kc := z 20) n20 ke x
  obtain ⟨w', m1, m2, m3, m4⟩ := P_keepWord (kc := z 20) n20 w h20 x
  have hp : pasW w' = pasW w := funext fun i => m4 _ (by omega)
  refine ⟨K', nI (if z 20 < 4 then z 20 + 1 else 4), w', by rw [e12, h20]; exact k1, m1, by rw [m4 11 (by omega)]; exact e13.symm, ⟨by rw [k2 0 (by omega)]; rfl, by
    by_cases c : z 20 < 4
    · exact ⟨z 20, by rw [if_pos c], c⟩
    · exact ⟨3, by rw [if_neg c], by omega⟩⟩, zN z 20 (if z 20 < 4 then z 20 + 1 else 4), ⟨hS, ⟨n9, n10, n11, n12, n13, n14, ?_⟩, fun i hi => ?_, m2, by rw [m4 25 (by omega)]; exact h25, T, P, hT, fun i hi => by rw [m4 _ (by omega), m4 _ (by omega)]; exact hTP i hi, (show EX w' z T P from EX_w (m4 18 (by omega)) (fun i _ => m4 _ (by omega)) (fun i _ => m4 _ (by omega)) hX)⟩, ?_⟩
  · rw [zN_eq]; split <;> omega
  · rw [m4 i (by omega), zN_ne _ _ (by omega)]; exact hw i hi
  · refine ⟨fun i hi => by rw [m4 i (by omega)]; exact e1 i hi, by rw [m4 9 (by omega)]; exact e2, by rw [m4 _ (by omega)]; exact e3, by rw [hp]; exact e4, fun i hi => by rw [m4 _ (by omega)]; exact e5 i hi, fun i hi => by rw [m4 _ (by omega)]; exact e6 i hi, fun i hi => by rw [m4 _ (by omega)]; exact e7 i hi, by rw [hp]; exact e8, by rw [m4 25 (by omega)]; exact e9, fun i hi => by rw [m4 _ (by omega), m4 _ (by omega)]; exact e10 i hi, fun i hi => ?_, m2.symm, by rw [m4 11 (by omega)]; exact e13, by rw [m4 12 (by omega)]; exact e14, by rw [m4 10 (by omega)]; exact e15, by rw [m4 13 (by omega)]; exact e16, by rw [m4 14 (by omega)]; exact e17, by rw [m4 15 (by omega)]; exact e18, by rw [m4 16 (by omega)]; exact e19, by rw [m4 17 (by omega)]; exact e20, by rw [m4 18 (by omega)]; exact e21, by rw [m4 19 (by omega)]; exact e22⟩
    rw [zN_eq] at hi
    have hi4 : i < 4 := by
      by_cases c : z 20 < 4
      · rw [if_pos c] at hi; omega
      · rw [if_neg c] at hi; exact hi
    have hik : i ≤ z 20 := by
      by_cases c : z 20 < 4
      · rw [if_pos c] at hi; omega
      · rw [if_neg c] at hi; omega
    rw [k2 i hi4, m3 i hi4]
    unfold shK
    by_cases c : i = 0
    · rw [if_pos c, if_pos c]
    · rw [if_neg c, if_neg c]
      exact e11 (i - 1) (by omega)
/-- what hearing does with the best candidate -/
def bW (w : Nat → Int32) (z : Nat → Nat) (x : Int32) : Option Nat := bestN (letW w) (kepW w) (z 20) (z 11) (z 9) (z 3) (z 4) x
def aW (w : Nat → Int32) (z : Nat → Nat) (j : Nat) : Bool := acc (letW w) (kepW w) (z 20) (z 11) (z 5) j
def HF (w : Nat → Int32) (z : Nat → Nat) (x r ps ps' sk sk' rp rp' ms ms' : Int32) : Prop := ((∀ j, bW w z x = some j → ¬ aW w z j = true) ∧ r = -9 ∧ ps' = ps ∧ sk' = sk ∧ rp' = rp ∧ ms' = ms + 1) ∨ ∃ j, bW w z x = some j ∧ aW w z j = true ∧ r = nI (j + 1) ∧ ps' = nI (j + 1) ∧ sk' = (if z 11 < j then sk + 1 else sk) ∧ rp' = (if j < z 11 then rp + 1 else rp) ∧ ms' = ms
theorem P_listen {M : Nat} {w st : Nat → Int32} {wo pg wip rows : Int32} {le pa cu ro fi : Nat → Int32} {pr : Int32} {ti po ke : Nat → Int32} {kc ps sp tm hd top sk rp ms je ov : Int32} (hM : M ≤ 90000) (x : Int32) (hR : REL M w st wo pg wip rows le pa cu ro fi pr ti po ke kc ps sp tm hd top sk rp ms je ov) :
    ∃ ac cu' pr' ti' po' ke' kc' ps' sp' hd' sk' rp' ms' ov' r w', f_X1_listen x st wo le cu pr ti po ke kc ps sp tm hd sk rp ms ov = some (ac, cu', pr', ti', po', ke', kc', ps', sp', hd', sk', rp', ms', ov') ∧ f_X4_hearNow x w = some (r, w') ∧ ((ac = 0 ∧ r = -9) ∨ (¬ ac = 0 ∧ r = ps')) ∧ (∃ z, MI M w z ∧ HF w z x r ps ps' sk sk' rp rp' ms ms') ∧ (ke' 0 = x ∧ ∃ k, kc' = nI (k + 1) ∧ k < 4) ∧ REL M w' st wo pg wip rows le pa cu' ro fi pr' ti' po' ke' kc' ps' sp' tm hd' top sk' rp' ms' je ov' := by
  obtain ⟨z, hI, hE⟩ := id hR
  obtain ⟨hS, hN, hw, h20, h25, T, P, hT, hTP, hX⟩ := id hI
  obtain ⟨e1, e2, e3, e4, e5, e6, e7, e8, e9, e10, e11, e12, e13, e14, e15, e16, e17, e18, e19, e20, e21, e22⟩ := id hE
  obtain ⟨n9, n10, n11, n12, n13, n14, n20⟩ := id hN
  obtain ⟨s0, s1, s2, s3, s4, s5, s6, s7, s8⟩ := id hS
  have b1 : f_X1_bestCandidate x st wo le ke kc ps = some (oI (bestN le ke (z 20) (z 11) (z 9) (z 3) (z 4) x)) := by
    rw [e2, hw 9 (by omega), e12, h20, e13, hw 11 (by omega)]
    exact P_best (kc := z 20) (p := z 11) (n := z 9) (bk := z 3) (ah := z 4) n20 n11 n9 s3 s4 le ke st (by rw [e1 3 (by omega)]; exact hw 3 (by omega)) (by rw [e1 4 (by omega)]; exact hw 4 (by omega)) x
  have b2 := P_bestM (kc := z 20) (p := z 11) (n := z 9) (bk := z 3) (ah := z 4) n20 n11 n9 s3 s4 w (hw 9 (by omega)) h20 (hw 11 (by omega)) (hw 3 (by omega)) (hw 4 (by omega)) x
  rw [← bestN_congr (L := le) (K := ke) x n9.1 n11 s4.1 e5 e11] at b2
  have miss : ∃ cu' pr' ti' po' ke' kc' ps' sp' hd' sk' rp' ms' ov' r w', (∀ q, f_X1_listen_24 st wo tm x q cu pr ti po ke kc ps sp hd sk rp ms ov = some (0, cu', pr', ti', po', ke', kc', ps', sp', hd', sk', rp', ms', ov')) ∧ (∀ q, f_X4_hearNow_24 x q w = some (r, w')) ∧ r = -9 ∧ (ps' = ps ∧ sk' = sk ∧ rp' = rp ∧ ms' = ms + 1) ∧ (ke' 0 = x ∧ ∃ k, kc' = nI (k + 1) ∧ k < 4) ∧ REL M w' st wo pg wip rows le pa cu' ro fi pr' ti' po' ke' kc' ps' sp' tm hd' top sk' rp' ms' je ov' := by
    obtain ⟨a1, a2⟩ := REL_cnt (w' := upd w 17 (w 17 + 1)) hI hE (fun i hi => upd_ne _ _ (by omega)) (upd_ne _ _ (by decide))
    rw [upd_ne _ _ (show ¬ 15 = 17 by decide), upd_ne _ _ (show ¬ 16 = 17 by decide), upd_ne _ _ (show ¬ 18 = 17 by decide), upd_ne _ _ (show ¬ 19 = 17 by decide), upd_eq, ← e18, ← e19, ← e20, ← e21, ← e22] at a2
    rw [← e20] at a1
    obtain ⟨ke', kc', w', k1, k2, k3, kk, k4⟩ := P_keepBoth x ⟨z, a1, a2⟩
    refine ⟨cu, pr, ti, po, ke', kc', ps, sp, hd, sk, rp, ms + 1, ov, -9, w', fun q => ?_, fun q => ?_, rfl, ⟨rfl, rfl, rfl, rfl⟩, kk, k4⟩
    · unfold f_X1_listen_24 f_X1_listen_25 f_X1_listen_48
      rw [if_pos rfl, k1, Option.bind_some, if_pos (by decide)]
    · unfold f_X4_hearNow_24 f_X4_hearNow_25 f_X4_hearNow_49
      rw [if_pos rfl, ← e20, k2, Option.bind_some, if_pos rfl]
  obtain ⟨m1, m2, m3, m4, m5, m6, m7, m8, m9', m10, m11, m12, m13, m14, m15, m16, m17, m18, mf, mk, m19⟩ := miss
  have eB : bestN le ke (z 20) (z 11) (z 9) (z 3) (z 4) x = bW w z x := bestN_congr (L := le) (K := ke) x n9.1 n11 s4.1 e5 e11
  have eA : ∀ j, j < z 9 → acc le ke (z 20) (z 11) (z 5) j = aW w z j := fun j hj => acc_congr (L := le) (K := ke) (fun i hi => e5 i (by omega)) e11
  unfold f_X1_listen f_X4_hearNow
  rw [b1, b2, Option.bind_some, Option.bind_some]
  cases hb : bestN le ke (z 20) (z 11) (z 9) (z 3) (z 4) x with
  | none =>
    rw [show oI none = (-9 : Int32) from m9.symm, if_pos rfl, if_pos rfl, m16, m17]
    exact ⟨0, _, _, _, _, _, _, _, _, _, _, _, _, _, _, _, rfl, rfl, Or.inl ⟨rfl, m18⟩, ⟨z, hI, Or.inl ⟨fun j hj => (by rw [← eB, hb] at hj; cases hj), m18, mf⟩⟩, mk, m19⟩
  | some j =>
    have hj := bestN_lt n9.1 n11 s4.1 hb
    have a1 : f_X1_accepts (nI j) st le ke kc ps = some (if acc le ke (z 20) (z 11) (z 5) j = true then 1 else 0) := by
      rw [e12, h20, e13, hw 11 (by omega)]
      exact P_accepts (kc := z 20) (p := z 11) (j := j) (nd := z 5) n20 (by omega) (by omega) s5.2 le ke st (by rw [e1 5 (by omega)]; exact hw 5 (by omega))
    have a2 := P_acceptsM (kc := z 20) (p := z 11) (j := j) (nd := z 5) n20 (by omega) (by omega) s5.2 w h20 (hw 11 (by omega)) (hw 5 (by omega))
    rw [← acc_congr (L := le) (K := ke) (fun i hi => e5 i (by omega)) e11] at a2
    rw [show oI (some j) = nI j from rfl, if_neg (by rw [m9]; exact oI_n j (by omega)), if_neg (by rw [m9]; exact oI_n j (by omega)), a1, a2, Option.bind_some, Option.bind_some]
    by_cases c : acc le ke (z 20) (z 11) (z 5) j = true
    · rw [if_pos c, if_neg (by decide), if_neg (by decide)]
      obtain ⟨cu', pr', ti', po', sp', sk', rp', ov', w1, f1, f2, f3, f4, f5⟩ := P_follow hM hI hE hj
      obtain ⟨ke', kc', w', k1, k2, k3, kk, k4⟩ := P_keepBoth x f3
      unfold f_X1_listen_25 f_X4_hearNow_25 f_X1_listen_48 f_X4_hearNow_49
      rw [if_neg (by decide), if_neg (by decide), f1, f2, Option.bind_some, Option.bind_some, k1, k2, Option.bind_some, Option.bind_some, if_pos (by decide), if_neg (by decide)]
      exact ⟨1, _, _, _, _, _, _, _, _, _, _, _, _, _, _, _, rfl, rfl, Or.inr ⟨by decide, k3⟩, ⟨z, hI, Or.inr ⟨j, by rw [← eB, hb], by rw [← eA j hj]; exact c, k3, rfl, f4, f5, rfl⟩⟩, kk, k4⟩
    · rw [if_neg c, if_pos rfl, if_pos rfl, m16, m17]
      exact ⟨0, _, _, _, _, _, _, _, _, _, _, _, _, _, _, _, rfl, rfl, Or.inl ⟨rfl, m18⟩, ⟨z, hI, Or.inl ⟨fun y hy => (by rw [← eB, hb] at hy; cases hy; rw [← eA j hj]; exact c), m18, mf⟩⟩, mk, m19⟩
