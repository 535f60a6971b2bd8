theorem fb_ctor {dC : Nat → ClassId} {dI : Nat → Nat → Nat} {cI cZ cO : ClassId} {sz : Nat} {ws : va_W} {t : Nat} {A : Nat → Prop} {av : List Value} : FrameBlind (va_Pc av (fun U => wrW dC dI cI cZ cO sz ws U ∧ va_AO RX1 U ∧ va_Z "Teleprompter" "FIRST" "[I" (.ref t) A U U.heap ∧ va_T .int t 9 (fun j => .int (F_FIRST j)) A U U.heap)) := fun a U g mk q => by
  obtain ⟨q0, ⟨q1, qP, qK, qN, qD⟩, qO, qZ, qT⟩ := q
  exact ⟨q0, ⟨q1, qP, va_K.moved (u := U) (U := U.calling g mk a) (Vm.Alike.refl U.vm) qK, NW.same (u := U) (U := U.calling g mk a) rfl qN, qD⟩, va_AO.moved (u := U) (U := U.calling g mk a) (Vm.Alike.refl U.vm) qO, va_Z.moved (u := U) (U := U.calling g mk a) (Vm.Alike.refl U.vm) qZ, va_T.moved (u := U) (U := U.calling g mk a) (Vm.Alike.refl U.vm) qT⟩
def PS0 : Nat → Nat → Nat → Int32 := fun _ _ _ => (0 : Int32)
theorem HIS0 : HIS 0 0 O0 (fun i => i) PS0 := ⟨Nat.zero_le _, fun j h => h, fun i j _ _ h => h, fun j h => absurd h (Nat.not_lt_zero _)⟩
theorem IMG0 : IMG 0 0 O0 O0 PS0 := ⟨by decide, rfl, rfl, fun h => absurd h (by decide), fun h => absurd h (by decide)⟩
theorem FT0 : FT 0 0 (-9) (-9) := Or.inl ⟨rfl, rfl, rfl⟩
set_option maxHeartbeats 8000000 in
set_option maxRecDepth 100000 in
theorem whole_start {p : Program} {e : Env} {s : State} {m : MethodId} {below : List Frame} {meth : Method} {c : Code} (l : Launch) (hflags : l.flags = flags0) {b L : Nat} {xs : Nat → Int32} (hL : L ≤ 1536) (C0 : lw_At p s m meth c b L xs) : W p l e room_1 s m #[Value.ref b] below meth c s.heap [] 0 0 (lw_Z below #[Value.ref b] s) (entryFrame m ([Value.ref b] : List Value).toArray 8) := by
  obtain ⟨hx, hb, hr, hml, hown, hts0, hX, hbl, hlocks, hgv⟩ := id C0
  have hts : ∀ w ∈ wsL_law, w.before #[Value.ref b] s = true := fun w h => hts0 w (wsL_good w h).1
  have hb : c.code = cL_law := hb
  have hown : s.vm.findClass RL = some m.cls := hown
  obtain ⟨A, hAe⟩ : ∃ A : Nat → Prop, A = fun q => s.heap.size ≤ q := ⟨_, rfl⟩
  have hA : ∀ q : Nat, s.heap.size ≤ q → A q := fun q h => by rw [hAe]; exact h
  have hbA : ¬ A b := by rw [hAe]; exact Nat.not_le.mpr hbl
  have hA0 : ∀ a : Nat, a < s.heap.size → ¬ A a := fun a h => by rw [hAe]; exact Nat.not_le.mpr h
  obtain ⟨tL, tM, tF, hZL, hZM, hZF⟩ := start_st (A := A) hts0 hgv hA0
  obtain ⟨dC, dI, cI, cZ, cO, hK, hAO⟩ := K_of hts0
  have hN := NW_of hts0
  obtain ⟨wo, pg, wip, rows, le, pa, cu, ro, fi, pr, kc, ps, sp, tm, hd, top, sk, rp, ms, je, ov, roM, rowsM, e1, e2, hR, hLR⟩ := P_start
  have hS : va_S A s.heap s.heap [] := va_S.rf
  have hP : va_P (dC, dI) vwCl [] s.heap := fun k q h => by simp at h
  have hD : va_D A [] := ⟨fun i j p q h => by simp at h, fun k q h => by simp at h⟩
  have hl := lv_entry ([.ref b]) (n := 8) (Nat.le_of_ble_eq_true rfl)
  rw [lg_entry_eq]
  generalize (lg_sl ([.ref b]) ++ List.replicate (8 - (lg_sl ([.ref b])).length) Slot.unset).toArray = ls at hl ⊢
  have hl : lv_has ls 8 [(0, .ref b)] := hl
  refine va_new (ci := 3) (fs := [.null, .int 0, .int 0, .int 0, .null, .null, .null, .null, .int 0, .null, .null]) (C := RX3) (T := TX3) (N := 11) hx hb hts0 st_inX3 tyX3 tyX3_ok hown (hts0 (.classLink RL 7 RX3) (List.mem_of_getElem? (i := 52) (by decide +kernel))) (hts0 (.instantiable RX3 11) (List.mem_of_getElem? (i := 53) (by decide +kernel))) (hts0 (.initialized RX3) (List.mem_of_getElem? (i := 45) (by decide +kernel))) hK hP hD hS hA rfl (fun j hj => by rcases (show j = 0 ∨ j = 1 ∨ j = 2 ∨ j = 3 ∨ j = 4 ∨ j = 5 ∨ j = 6 ∨ j = 7 ∨ j = 8 ∨ j = 9 ∨ j = 10 by omega) with rfl | rfl | rfl | rfl | rfl | rfl | rfl | rfl | rfl | rfl | rfl <;> rfl) (Nat.le_of_ble_eq_true rfl) (Nat.le_of_ble_eq_true rfl) dL_law_0 (fun aX H hP hD hS => ?_)
  have hP : va_P (dC, dI) vwCl [(aX, .inr (3, [.null, .int 0, .int 0, .int 0, .null, .null, .null, .null, .int 0, .null, .null]))] H := hP
  have hD : va_D A [(aX, .inr (3, [.null, .int 0, .int 0, .int 0, .null, .null, .null, .null, .int 0, .null, .null]))] := hD
  refine W.widen (k := 1) (n := 11) (Nat.le_of_ble_eq_true rfl) (Nat.le_of_ble_eq_true rfl) ?_
  refine lv_dup hx hb dL_law_3 rfl ?_
  have hFc := va_free2 hD hS hA
  refine va_callv (va_runI (As := []) (rest := [.ref aX]) ⟨hx, hb, hml, hown, hts⟩ (c_X3_init l dC dI cI cZ cO aX H.size tF 0 1 0 0 1 1 1 (upd O0 0 97) (upd O0 0 0) (upd O0 0 0) wo pg wip rows le pa cu ro fi pr kc ps sp tm hd top sk rp ms je ov rfl start_read e1) (cwI 0 hts gL_law_X3_init rfl rfl rfl (hts0 (.initialized RX3) (List.mem_of_getElem? (i := 45) (by decide +kernel))) (hts0 (.methodLink RL 9 yX3_init) (List.mem_of_getElem? (i := 54) (by decide +kernel))) (hts0 (.instanceMethod yX3_init) (List.mem_of_getElem? (i := 55) (by decide +kernel))) rfl (by decide +kernel) ⟨Nat.le_of_ble_eq_true rfl, Nat.le_of_ble_eq_true rfl⟩) ⟨fb_ctor, fun U hU hW => ⟨rfl, ⟨by rw [hU], by rw [hU]; exact hP, va_K.moved hW.alike hK, hN.warm hW, hD.weaken (fun _ _ _ _ => trivial)⟩, va_AO.moved hW.alike hAO, stA_V hZF hS hFc hU hW⟩⟩ rfl rfl hl.1 rfl (lv_room (Nat.le_of_ble_eq_true rfl)) dL_law_4 ⟨Nat.le_of_ble_eq_true rfl, Nat.le_of_ble_eq_true rfl⟩) hS (fun q _ h => hFc q h) hFc (fun _ t H1 locs ht hvm hw hB hz1 hk1 hS => ?_)
  obtain ⟨a_text, d_aC, d_a_letters, d_a_passageOf, d_a_cues, d_a_rowOf, d_a_firstOfRow, aS, a_settings, aC, a_letters, a_passageOf, a_cues, a_rowOf, a_firstOfRow, aT, a_times, a_positions, a_kept, c_aS, c_a_settings, c_aC, c_a_letters, c_a_passageOf, c_a_cues, c_a_rowOf, c_a_firstOfRow, c_aT, c_a_times, c_a_positions, c_a_kept, a_history, a_images, a_imageKept, ad, hf, imf, hHH, hHI, hP1, hD1⟩ := hB
  rw [ht] at hP1
  have hP1 : va_P (dC, dI) vwCl (W3 cI cZ cO aX a_text d_aC d_a_letters d_a_passageOf d_a_cues d_a_rowOf d_a_firstOfRow aS a_settings aC a_letters a_passageOf a_cues a_rowOf a_firstOfRow aT a_times a_positions a_kept c_aS c_a_settings c_aC c_a_letters c_a_passageOf c_a_cues c_a_rowOf c_a_firstOfRow c_aT c_a_times c_a_positions c_a_kept a_history a_images a_imageKept hf imf O0 (nI 0) 0 0 1 1 1 0 (upd O0 0 97) (upd O0 0 0) (upd O0 0 0) O0 O0 (va_cpy F_FIRST O0 0 0 9) wo pg wip rows le pa cu ro fi pr O0 O0 O0 kc ps sp tm hd top sk rp ms je ov O0 0 0 0 0 O0 O0 O0 O0 O0 0 O0 O0 O0 0 0 0 0 0 0 0 0 0 0 0 (nI 0) O0 ++ plW cI ad PS0 10) H1 := hP1
  have hD1 : va_D (va_A [(aX, .inr (3, [.null, .int 0, .int 0, .int 0, .null, .null, .null, .null, .int 0, .null, .null]))] H.size) (W3 cI cZ cO aX a_text d_aC d_a_letters d_a_passageOf d_a_cues d_a_rowOf d_a_firstOfRow aS a_settings aC a_letters a_passageOf a_cues a_rowOf a_firstOfRow aT a_times a_positions a_kept c_aS c_a_settings c_aC c_a_letters c_a_passageOf c_a_cues c_a_rowOf c_a_firstOfRow c_aT c_a_times c_a_positions c_a_kept a_history a_images a_imageKept hf imf O0 (nI 0) 0 0 1 1 1 0 (upd O0 0 97) (upd O0 0 0) (upd O0 0 0) O0 O0 (va_cpy F_FIRST O0 0 0 9) wo pg wip rows le pa cu ro fi pr O0 O0 O0 kc ps sp tm hd top sk rp ms je ov O0 0 0 0 0 O0 O0 O0 O0 O0 0 O0 O0 O0 0 0 0 0 0 0 0 0 0 0 0 (nI 0) O0 ++ plW cI ad PS0 10) := hD1
  have hj := joinPerm (wr := []) (wc := [(aX, .inr (3, [.null, .int 0, .int 0, .int 0, .null, .null, .null, .null, .int 0, .null, .null]))]) (w1 := W3 cI cZ cO aX a_text d_aC d_a_letters d_a_passageOf d_a_cues d_a_rowOf d_a_firstOfRow aS a_settings aC a_letters a_passageOf a_cues a_rowOf a_firstOfRow aT a_times a_positions a_kept c_aS c_a_settings c_aC c_a_letters c_a_passageOf c_a_cues c_a_rowOf c_a_firstOfRow c_aT c_a_times c_a_positions c_a_kept a_history a_images a_imageKept hf imf O0 (nI 0) 0 0 1 1 1 0 (upd O0 0 97) (upd O0 0 0) (upd O0 0 0) O0 O0 (va_cpy F_FIRST O0 0 0 9) wo pg wip rows le pa cu ro fi pr O0 O0 O0 kc ps sp tm hd top sk rp ms je ov O0 0 0 0 0 O0 O0 O0 O0 O0 0 O0 O0 O0 0 0 0 0 0 0 0 0 0 0 0 (nI 0) O0 ++ plW cI ad PS0 10) hP hD hk1 hFc hP1 hD1
  rw [List.nil_append] at hj
  obtain ⟨hP, hD⟩ := hj
  generalize H1 = H at hP hS ⊢
  refine W.widen (k := 155) (n := 9916) (Nat.le_of_ble_eq_true rfl) (Nat.le_of_ble_eq_true rfl) ?_
  refine lv_astore_n (lv' := [(1, .ref aX), (0, .ref b)]) hx hb dL_law_7 rfl hl (by decide) rfl (fun ls hl => ?_)
  refine va_new (ci := 4) (fs := [.null, .null, .int 0, .null, .int 0, .null, .int 0, .int 0, .int 0, .null, .int 0, .int 0, .int 0, .int 0, .int 0, .null, .null, .null, .null]) (C := RX4) (T := TX4) (N := 19) hx hb hts0 st_inX4 tyX4 tyX4_ok hown (hts0 (.classLink RL 10 RX4) (List.mem_of_getElem? (i := 579) (by decide +kernel))) (hts0 (.instantiable RX4 19) (List.mem_of_getElem? (i := 580) (by decide +kernel))) (hts0 (.initialized RX4) (List.mem_of_getElem? (i := 51) (by decide +kernel))) hK hP hD hS hA rfl (fun j hj => by rcases (show j = 0 ∨ j = 1 ∨ j = 2 ∨ j = 3 ∨ j = 4 ∨ j = 5 ∨ j = 6 ∨ j = 7 ∨ j = 8 ∨ j = 9 ∨ j = 10 ∨ j = 11 ∨ j = 12 ∨ j = 13 ∨ j = 14 ∨ j = 15 ∨ j = 16 ∨ j = 17 ∨ j = 18 by omega) with rfl | rfl | rfl | rfl | rfl | rfl | rfl | rfl | rfl | rfl | rfl | rfl | rfl | rfl | rfl | rfl | rfl | rfl | rfl <;> rfl) (Nat.le_of_ble_eq_true rfl) (Nat.le_of_ble_eq_true rfl) dL_law_8 (fun aM H hP hD hS => ?_)
  refine lv_dup hx hb dL_law_11 rfl ?_
  have hPc := hP.right
  have hDc := va_D.right hD
  have hFc := va_free2 hDc hS hA
  refine va_callv (va_runI (As := []) (rest := [.ref aM]) ⟨hx, hb, hml, hown, hts⟩ (c_X4_init l dC dI cI cZ cO aM H.size roM rowsM e2) (cwI 0 hts gL_law_X4_init rfl rfl rfl (hts0 (.initialized RX4) (List.mem_of_getElem? (i := 51) (by decide +kernel))) (hts0 (.methodLink RL 12 yX4_init) (List.mem_of_getElem? (i := 581) (by decide +kernel))) (hts0 (.instanceMethod yX4_init) (List.mem_of_getElem? (i := 582) (by decide +kernel))) rfl (by decide +kernel) ⟨Nat.le_of_ble_eq_true rfl, Nat.le_of_ble_eq_true rfl⟩) ⟨fb_wr, pre_wr hPc hK hN hDc⟩ rfl rfl hl.1 rfl (lv_room (Nat.le_of_ble_eq_true rfl)) dL_law_12 ⟨Nat.le_of_ble_eq_true rfl, Nat.le_of_ble_eq_true rfl⟩) hS (fun q _ h => hFc q h) hFc (fun _ t H1 locs ht hvm hw hB hz1 hk1 hS => ?_)
  obtain ⟨m_a_w, m_a_past, m_a_images, m_a_text, m_a_rowOf, m_a_readLetter, m_a_readCue, m_a_readPassage, m_a_held, hP1, hD1⟩ := hB
  rw [ht] at hP1
  have hP1 : va_P (dC, dI) vwCl (W4 cI aM m_a_w m_a_past m_a_images m_a_text m_a_rowOf m_a_readLetter m_a_readCue m_a_readPassage m_a_held w00 O0 (nI 0) O0 (nI 0) O0 (nI 0) (-9) (-9) roM rowsM 0 0 0 0 O0 O0 O0 O0) H1 := hP1
  have hj := joinPerm (w1 := W4 cI aM m_a_w m_a_past m_a_images m_a_text m_a_rowOf m_a_readLetter m_a_readCue m_a_readPassage m_a_held w00 O0 (nI 0) O0 (nI 0) O0 (nI 0) (-9) (-9) roM rowsM 0 0 0 0 O0 O0 O0 O0) hP hD hk1 hFc hP1 hD1
  have hP := hj.1.perm (perm3 _ _ _)
  have hD := hj.2.perm (perm3 _ _ _)
  generalize H1 = H at hP hS ⊢
  refine W.widen (k := 600000) (n := 7302250) (Nat.le_of_ble_eq_true rfl) (Nat.le_of_ble_eq_true rfl) ?_
  refine lv_astore_n (lv' := [(2, .ref aM), (1, .ref aX), (0, .ref b)]) hx hb dL_law_15 rfl hl (by decide) rfl (fun ls hl => ?_)
  refine lv_iconst (v := (0 : Int32)) hx hb dL_law_16 (by decide) ?_
  refine lv_istore_n (lv' := [(3, .int (0 : Int32)), (2, .ref aM), (1, .ref aX), (0, .ref b)]) hx hb dL_law_17 rfl hl (by decide) rfl (fun ls hl => ?_)
  have hl : lv_has ls 8 [(3, .int (nI (3 * 0))), (2, .ref aM), (1, .ref aX), (0, .ref b)] := hl
  have hI : INV dC dI cI cZ cO aX a_text d_aC d_a_letters d_a_passageOf d_a_cues d_a_rowOf d_a_firstOfRow aS a_settings aC a_letters a_passageOf a_cues a_rowOf a_firstOfRow aT a_times a_positions a_kept c_aS c_a_settings c_aC c_a_letters c_a_passageOf c_a_cues c_a_rowOf c_a_firstOfRow c_aT c_a_times c_a_positions c_a_kept a_history a_images a_imageKept aM m_a_w m_a_past m_a_images m_a_text m_a_rowOf m_a_readLetter m_a_readCue m_a_readPassage m_a_held A (100 * 0) H := INV_mk (hr := fun i => i) (PS := PS0) (u := 0) (fb := 0) (Lt := 0) hHH hHI (Nat.zero_le _) (fun i h => absurd h (Nat.not_lt_zero _)) FT0 (REL_mono (Nat.zero_le _) hR) hLR (HIS_mono (Nat.zero_le _) HIS0) (IMG_mono (Nat.zero_le _) IMG0) hP hD
  refine law_loop (tL := tL) (tM := tM) hx hb hml hown hts hX hbl hbA hA hK hN ⟨hZL, hZM⟩ ⟨Nat.le_of_ble_eq_true rfl, Nat.le_of_ble_eq_true rfl⟩ hL (fun H locs ls hS => ?_) L 0 H locs ls (by omega) (by omega) hI hS hl
  refine va_forget (fun q hq => ?_) ?_
  · have h9 := hS.2.2 q hq
    rw [hAe] at h9
    exact h9
  refine lv_iconst (v := (1 : Int32)) hx hb dL_law_742 (by decide) ?_
  exact W.base (lw_ret (d0 := s.drawn) (Drawn.sameBut.refl s.drawn lw_cs) hx hb hr hlocks dL_law_743)
