theorem and31 (x : Int32) : ∃ k : Nat, k < 32 ∧ x &&& 31 = nI k := by
  have e : ∀ y : Int32, y = nI y.toBitVec.toNat := by
    intro y
    apply Int32.toBitVec_inj.1
    show y.toBitVec = BitVec.ofNat 32 y.toBitVec.toNat
    simp
  refine ⟨(x &&& 31).toBitVec.toNat, ?_, e _⟩
  rw [Int32.toBitVec_and, BitVec.toNat_and]
  exact Nat.lt_of_le_of_lt Nat.and_le_right (by decide)
theorem perm3 (a b c : va_W) : ((a ++ c) ++ b).Perm ((a ++ b) ++ c) := by
  rw [List.append_assoc, List.append_assoc]
  exact List.Perm.append_left _ List.perm_append_comm
theorem INV_mono {dC : Nat → ClassId} {dI : Nat → Nat → Nat} {cI cZ cO : ClassId} {aX a_text d_aC d_a_letters d_a_passageOf d_a_cues d_a_rowOf d_a_firstOfRow aS a_settings aC a_letters a_passageOf a_cues a_rowOf a_firstOfRow aT a_times a_positions a_kept c_aS c_a_settings c_aC c_a_letters c_a_passageOf c_a_cues c_a_rowOf c_a_firstOfRow c_aT c_a_times c_a_positions c_a_kept a_history a_images a_imageKept aM m_a_w m_a_past m_a_images m_a_text m_a_rowOf m_a_readLetter m_a_readCue m_a_readPassage m_a_held : Nat} {A : Nat → Prop} {M : Nat} {H : Heap} (hI : INV dC dI cI cZ cO aX a_text d_aC d_a_letters d_a_passageOf d_a_cues d_a_rowOf d_a_firstOfRow aS a_settings aC a_letters a_passageOf a_cues a_rowOf a_firstOfRow aT a_times a_positions a_kept c_aS c_a_settings c_aC c_a_letters c_a_passageOf c_a_cues c_a_rowOf c_a_firstOfRow c_aT c_a_times c_a_positions c_a_kept a_history a_images a_imageKept aM m_a_w m_a_past m_a_images m_a_text m_a_rowOf m_a_readLetter m_a_readCue m_a_readPassage m_a_held A M H) : INV dC dI cI cZ cO aX a_text d_aC d_a_letters d_a_passageOf d_a_cues d_a_rowOf d_a_firstOfRow aS a_settings aC a_letters a_passageOf a_cues a_rowOf a_firstOfRow aT a_times a_positions a_kept c_aS c_a_settings c_aC c_a_letters c_a_passageOf c_a_cues c_a_rowOf c_a_firstOfRow c_aT c_a_times c_a_positions c_a_kept a_history a_images a_imageKept aM m_a_w m_a_past m_a_images m_a_text m_a_rowOf m_a_readLetter m_a_readCue m_a_readPassage m_a_held A (M + 100) H := by
  obtain ⟨ad, hf, imf, hr, PS, u, fb, Lt, v_text, v_faultKind, v_faultPlace, v_d_words, v_d_passages, v_d_wordsInPassage, v_d_rows, v_d_letters, v_d_passageOf, v_d_cues, v_d_rowOf, v_d_firstOfRow, v_settings, v_words, v_passages, v_wordsInPassage, v_rows, v_letters, v_passageOf, v_cues, v_rowOf, v_firstOfRow, v_pairs, v_times, v_positions, v_kept, v_keptCount, v_position, v_speed, v_time, v_heardTime, v_top, v_skips, v_repeats, v_misses, v_jerks, v_overruns, v_c_settings, v_c_words, v_c_passages, v_c_wordsInPassage, v_c_rows, v_c_letters, v_c_passageOf, v_c_cues, v_c_rowOf, v_c_firstOfRow, v_c_pairs, v_c_times, v_c_positions, v_c_kept, v_c_keptCount, v_c_position, v_c_speed, v_c_time, v_c_heardTime, v_c_top, v_c_skips, v_c_repeats, v_c_misses, v_c_jerks, v_c_overruns, v_imageKept, m_w, m_past, m_images, m_text, m_faultKind, m_faultPlace, m_rowOf, m_rows, m_wrongKind, m_wrongPlace, m_readWords, m_readPassages, m_readLetter, m_readCue, m_readPassage, m_held, ⟨hh, hi, hLt, htx, hFT, hR, hLR, hHS, hIM⟩, hP, hD⟩ := hI
  exact ⟨ad, hf, imf, hr, PS, u, fb, Lt, v_text, v_faultKind, v_faultPlace, v_d_words, v_d_passages, v_d_wordsInPassage, v_d_rows, v_d_letters, v_d_passageOf, v_d_cues, v_d_rowOf, v_d_firstOfRow, v_settings, v_words, v_passages, v_wordsInPassage, v_rows, v_letters, v_passageOf, v_cues, v_rowOf, v_firstOfRow, v_pairs, v_times, v_positions, v_kept, v_keptCount, v_position, v_speed, v_time, v_heardTime, v_top, v_skips, v_repeats, v_misses, v_jerks, v_overruns, v_c_settings, v_c_words, v_c_passages, v_c_wordsInPassage, v_c_rows, v_c_letters, v_c_passageOf, v_c_cues, v_c_rowOf, v_c_firstOfRow, v_c_pairs, v_c_times, v_c_positions, v_c_kept, v_c_keptCount, v_c_position, v_c_speed, v_c_time, v_c_heardTime, v_c_top, v_c_skips, v_c_repeats, v_c_misses, v_c_jerks, v_c_overruns, v_imageKept, m_w, m_past, m_images, m_text, m_faultKind, m_faultPlace, m_rowOf, m_rows, m_wrongKind, m_wrongPlace, m_readWords, m_readPassages, m_readLetter, m_readCue, m_readPassage, m_held, ⟨hh, hi, hLt, htx, hFT, REL_mono (by omega) hR, hLR, HIS_mono (by omega) hHS, IMG_mono (by omega) hIM⟩, hP, hD⟩
set_option maxHeartbeats 4000000 in
theorem law_head {p : Program} {l : Launch} {e : Env} {s : State} {m : MethodId} {args : Array Value} {below : List Frame} {meth : Method} {c : Code} {locs : List Loc} {cells slots : Nat} {Q : State → Prop} {b Lx : Nat} {xs : Nat → Int32} {A : Nat → Prop} {i : Nat} {H : Heap} {ls : Array Slot} {aX aM : Nat} (hx : p.tables.exec = Jvm.exec) (hb : c.code = cL_law) (hml : c.maxLocals = 8) (hown : s.vm.findClass RL = some m.cls) (hX : va_X b Lx xs s s.heap) (hbl : b < s.heap.size) (hbA : ¬ A b) (hLx : Lx ≤ 1536) (hiL : i ≤ Lx) (hS : va_S A s.heap H locs) (hl : lv_has ls 8 [(3, .int (nI i)), (2, .ref aM), (1, .ref aX), (0, .ref b)]) (kt : ¬ i + 3 ≤ Lx → W p l e room_1 s m args below meth c H locs cells slots Q (F0 m 742 ls [])) (kf : i + 3 ≤ Lx → W p l e room_1 s m args below meth c H locs cells slots Q (F0 m 26 ls [])) : W p l e room_1 s m args below meth c H locs cells slots Q (F0 m 18 ls []) := by
  have e : Int32.ofNat Lx - (3 : Int32) = iI ((Lx : Int) - 3) := by
    rw [show Int32.ofNat Lx = nI Lx from rfl, nI_iI, show (3 : Int32) = iI 3 by decide]
    exact iI_sub _ _
  have ee : (Int32.ofNat Lx - (3 : Int32) < nI i) ↔ ((Lx : Int) - 3 < (i : Int)) := by
    rw [e, nI_iI]
    exact iI_lt (by omega)
  refine lv_iload_n hx hb dL_law_18 rfl (lv_at hl 0 rfl) ?_
  refine lv_aload_n hx hb dL_law_19 rfl (lv_at hl 3 rfl) ?_
  refine va_slen hx hb hX hbl hbA hS dL_law_20 ?_
  refine lv_iconst (v := (3 : Int32)) hx hb dL_law_21 (by decide) ?_
  refine lv_isub hx hb dL_law_22 ?_
  refine lv_icmp_gt (tgt := 742) hx hb dL_law_23 (by decide) (fun c9 => kt (fun h3 => ?_)) (fun c9 => kf ?_)
  · have := ee.mp c9
    omega
  · have : ¬ ((Lx : Int) - 3 < (i : Int)) := fun h => c9 (ee.mpr h)
    omega
set_option maxHeartbeats 4000000 in
theorem law_body {p : Program} {l : Launch} {e : Env} {s : State} {m : MethodId} {args : Array Value} {below : List Frame} {meth : Method} {c : Code} {locs : List Loc} {cells slots : Nat} {Q : State → Prop} {b Lx : Nat} {xs : Nat → Int32} {A : Nat → Prop} {dC : Nat → ClassId} {dI : Nat → Nat → Nat} {cI cZ cO : ClassId} {tL tM M i : Nat} {H : Heap} {ls : Array Slot} {aX a_text d_aC d_a_letters d_a_passageOf d_a_cues d_a_rowOf d_a_firstOfRow aS a_settings aC a_letters a_passageOf a_cues a_rowOf a_firstOfRow aT a_times a_positions a_kept c_aS c_a_settings c_aC c_a_letters c_a_passageOf c_a_cues c_a_rowOf c_a_firstOfRow c_aT c_a_times c_a_positions c_a_kept a_history a_images a_imageKept aM m_a_w m_a_past m_a_images m_a_text m_a_rowOf m_a_readLetter m_a_readCue m_a_readPassage m_a_held : Nat} (hx : p.tables.exec = Jvm.exec) (hb : c.code = cL_law) (hml : c.maxLocals = 8) (hown : s.vm.findClass RL = some m.cls) (hts : ∀ w ∈ wsL_law, w.before args s = true) (hX : va_X b Lx xs s s.heap) (hbl : b < s.heap.size) (hbA : ¬ A b) (hA : ∀ q, s.heap.size ≤ q → A q) (hK : va_K (dC, dI) vwCl (tyA cI cZ cO) s) (hN : NW s) (hST : stA "LEAST" tL F_LEAST A s ∧ stA "MOST" tM F_MOST A s) (hro : cells ≤ room_1.cells ∧ slots ≤ room_1.slots) (hMb : M + 1300 ≤ 89000) (hi3 : i + 3 ≤ Lx) (hLx : Lx ≤ 1536) (hI : INV dC dI cI cZ cO aX a_text d_aC d_a_letters d_a_passageOf d_a_cues d_a_rowOf d_a_firstOfRow aS a_settings aC a_letters a_passageOf a_cues a_rowOf a_firstOfRow aT a_times a_positions a_kept c_aS c_a_settings c_aC c_a_letters c_a_passageOf c_a_cues c_a_rowOf c_a_firstOfRow c_aT c_a_times c_a_positions c_a_kept a_history a_images a_imageKept aM m_a_w m_a_past m_a_images m_a_text m_a_rowOf m_a_readLetter m_a_readCue m_a_readPassage m_a_held A M H) (hS : va_S A s.heap H locs) (hl : lv_has ls 8 [(3, .int (nI i)), (2, .ref aM), (1, .ref aX), (0, .ref b)]) (kk : ∀ (H : Heap) (locs : List Loc) (ls : Array Slot), INV dC dI cI cZ cO aX a_text d_aC d_a_letters d_a_passageOf d_a_cues d_a_rowOf d_a_firstOfRow aS a_settings aC a_letters a_passageOf a_cues a_rowOf a_firstOfRow aT a_times a_positions a_kept c_aS c_a_settings c_aC c_a_letters c_a_passageOf c_a_cues c_a_rowOf c_a_firstOfRow c_aT c_a_times c_a_positions c_a_kept a_history a_images a_imageKept aM m_a_w m_a_past m_a_images m_a_text m_a_rowOf m_a_readLetter m_a_readCue m_a_readPassage m_a_held A (M + 100) H → va_S A s.heap H locs → lv_has ls 8 [(3, .int (nI i)), (2, .ref aM), (1, .ref aX), (0, .ref b)] → W p l e room_1 s m args below meth c H locs cells slots Q (F0 m 736 ls [])) : W p l e room_1 s m args below meth c H locs cells slots Q (F0 m 26 ls []) := by
  have hj0 : vp_in (nI i) Lx := ixN (by omega) (by omega)
  refine lv_aload_n hx hb dL_law_26 rfl (lv_at hl 3 rfl) ?_
  refine lv_iload_n hx hb dL_law_27 rfl (lv_at hl 0 rfl) ?_
  refine va_sld hx hb hX hbl hbA hS hj0 dL_law_28 ?_
  refine lv_bipush (v := (31 : Int32)) hx hb dL_law_29 (by decide) ?_
  refine lv_iand hx hb dL_law_31 ?_
  obtain ⟨k, hk, hke⟩ := and31 (xs (nI i).toNatClampNeg)
  rw [hke]
  by_cases h24 : k < 24
  · rcases (show k = 0 ∨ k = 1 ∨ k = 2 ∨ k = 3 ∨ k = 4 ∨ k = 5 ∨ k = 6 ∨ k = 7 ∨ k = 8 ∨ k = 9 ∨ k = 10 ∨ k = 11 ∨ k = 12 ∨ k = 13 ∨ k = 14 ∨ k = 15 ∨ k = 16 ∨ k = 17 ∨ k = 18 ∨ k = 19 ∨ k = 20 ∨ k = 21 ∨ k = 22 ∨ k = 23 by omega) with rfl | rfl | rfl | rfl | rfl | rfl | rfl | rfl | rfl | rfl | rfl | rfl | rfl | rfl | rfl | rfl | rfl | rfl | rfl | rfl | rfl | rfl | rfl | rfl
    · exact lv_tableIn (off := 112) (tgt := 144) hx hb dL_law_32 (by decide +kernel) (by decide +kernel) (by decide +kernel) (by decide) (law_load hx hb hml hown hts hX hbl hbA hA hK hN hST hro hMb hi3 hLx hI hS hl kk)
    · exact lv_tableIn (off := 125) (tgt := 157) hx hb dL_law_32 (by decide +kernel) (by decide +kernel) (by decide +kernel) (by decide) (law_set hx hb hml hown hts hX hbl hbA hA hK hN hST hro hMb hi3 hLx hI hS hl kk)
    · exact lv_tableIn (off := 158) (tgt := 190) hx hb dL_law_32 (by decide +kernel) (by decide +kernel) (by decide +kernel) (by decide) (law_hear hx hb hml hown hts hX hbl hbA hA hK hN hST hro hMb hi3 hLx hI hS hl kk)
    · exact lv_tableIn (off := 181) (tgt := 213) hx hb dL_law_32 (by decide +kernel) (by decide +kernel) (by decide +kernel) (by decide) (law_tick hx hb hml hown hts hX hbl hbA hA hK hN hST hro hMb hi3 hLx hI hS hl kk)
    · exact lv_tableIn (off := 204) (tgt := 236) hx hb dL_law_32 (by decide +kernel) (by decide +kernel) (by decide +kernel) (by decide) (law_release hx hb hml hown hts hX hbl hbA hA hK hN hST hro hMb hi3 hLx hI hS hl kk)
    · exact lv_tableIn (off := 217) (tgt := 249) hx hb dL_law_32 (by decide +kernel) (by decide +kernel) (by decide +kernel) (by decide) (law_place hx hb hml hown hts hX hbl hbA hA hK hN hST hro hMb hi3 hLx hI hS hl kk)
    · exact lv_tableIn (off := 240) (tgt := 272) hx hb dL_law_32 (by decide +kernel) (by decide +kernel) (by decide +kernel) (by decide) (law_undo hx hb hml hown hts hX hbl hbA hA hK hN hST hro hMb hi3 hLx hI hS hl kk)
    · exact lv_tableIn (off := 253) (tgt := 285) hx hb dL_law_32 (by decide +kernel) (by decide +kernel) (by decide +kernel) (by decide) (law_write hx hb hml hown hts hX hbl hbA hA hK hN hST hro hMb hi3 hLx hI hS hl kk)
    · exact lv_tableIn (off := 276) (tgt := 308) hx hb dL_law_32 (by decide +kernel) (by decide +kernel) (by decide +kernel) (by decide) (law_wipe hx hb hml hown hts hX hbl hbA hA hK hN hST hro hMb hi3 hLx hI hS hl kk)
    · exact lv_tableIn (off := 289) (tgt := 321) hx hb dL_law_32 (by decide +kernel) (by decide +kernel) (by decide +kernel) (by decide) (law_fault hx hb hml hown hts hX hbl hbA hA hK hN hST hro hMb hi3 hLx hI hS hl kk)
    · exact lv_tableIn (off := 312) (tgt := 344) hx hb dL_law_32 (by decide +kernel) (by decide +kernel) (by decide +kernel) (by decide) (law_told hx hb hml hown hts hX hbl hbA hA hK hN hST hro hMb hi3 hLx hI hS hl kk)
    · exact lv_tableIn (off := 335) (tgt := 367) hx hb dL_law_32 (by decide +kernel) (by decide +kernel) (by decide +kernel) (by decide) (law_setting hx hb hml hown hts hX hbl hbA hA hK hN hST hro hMb hi3 hLx hI hS hl kk)
    · exact lv_tableIn (off := 358) (tgt := 390) hx hb dL_law_32 (by decide +kernel) (by decide +kernel) (by decide +kernel) (by decide) (law_word hx hb hml hown hts hX hbl hbA hA hK hN hST hro hMb hi3 hLx hI hS hl kk)
    · exact lv_tableIn (off := 391) (tgt := 423) hx hb dL_law_32 (by decide +kernel) (by decide +kernel) (by decide +kernel) (by decide) (law_row hx hb hml hown hts hX hbl hbA hA hK hN hST hro hMb hi3 hLx hI hS hl kk)
    · exact lv_tableIn (off := 424) (tgt := 456) hx hb dL_law_32 (by decide +kernel) (by decide +kernel) (by decide +kernel) (by decide) (law_heard hx hb hml hown hts hX hbl hbA hA hK hN hST hro hMb hi3 hLx hI hS hl kk)
    · exact lv_tableIn (off := 447) (tgt := 479) hx hb dL_law_32 (by decide +kernel) (by decide +kernel) (by decide +kernel) (by decide) (law_trail hx hb hml hown hts hX hbl hbA hA hK hN hST hro hMb hi3 hLx hI hS hl kk)
    · exact lv_tableIn (off := 480) (tgt := 512) hx hb dL_law_32 (by decide +kernel) (by decide +kernel) (by decide +kernel) (by decide) (law_score hx hb hml hown hts hX hbl hbA hA hK hN hST hro hMb hi3 hLx hI hS hl kk)
    · exact lv_tableIn (off := 503) (tgt := 535) hx hb dL_law_32 (by decide +kernel) (by decide +kernel) (by decide +kernel) (by decide) (law_best hx hb hml hown hts hX hbl hbA hA hK hN hST hro hMb hi3 hLx hI hS hl kk)
    · exact lv_tableIn (off := 536) (tgt := 568) hx hb dL_law_32 (by decide +kernel) (by decide +kernel) (by decide +kernel) (by decide) (law_unique hx hb hml hown hts hX hbl hbA hA hK hN hST hro hMb hi3 hLx hI hS hl kk)
    · exact lv_tableIn (off := 559) (tgt := 591) hx hb dL_law_32 (by decide +kernel) (by decide +kernel) (by decide +kernel) (by decide) (law_mean hx hb hml hown hts hX hbl hbA hA hK hN hST hro hMb hi3 hLx hI hS hl kk)
    · exact lv_tableIn (off := 602) (tgt := 634) hx hb dL_law_32 (by decide +kernel) (by decide +kernel) (by decide +kernel) (by decide) (law_reached hx hb hml hown hts hX hbl hbA hA hK hN hST hro hMb hi3 hLx hI hS hl kk)
    · exact lv_tableIn (off := 625) (tgt := 657) hx hb dL_law_32 (by decide +kernel) (by decide +kernel) (by decide +kernel) (by decide) (law_rehearse hx hb hml hown hts hX hbl hbA hA hK hN hST hro hMb hi3 hLx hI hS hl kk)
    · exact lv_tableIn (off := 658) (tgt := 690) hx hb dL_law_32 (by decide +kernel) (by decide +kernel) (by decide +kernel) (by decide) (law_keep hx hb hml hown hts hX hbl hbA hA hK hN hST hro hMb hi3 hLx hI hS hl kk)
    · exact lv_tableIn (off := 681) (tgt := 713) hx hb dL_law_32 (by decide +kernel) (by decide +kernel) (by decide +kernel) (by decide) (law_back hx hb hml hown hts hX hbl hbA hA hK hN hST hro hMb hi3 hLx hI hS hl kk)
  · have ht : (nI k).toInt = (k : Int) := by
      rw [nI_iI]
      exact iI_t (by omega)
    exact lv_tableOut (tgt := 736) hx hb dL_law_32 (by rw [ht]; exact Or.inr (by omega)) (by decide) (kk _ _ _ (INV_mono hI) hS hl)
set_option maxHeartbeats 4000000 in
theorem law_loop {p : Program} {l : Launch} {e : Env} {s : State} {m : MethodId} {args : Array Value} {below : List Frame} {meth : Method} {c : Code} {cells slots : Nat} {Q : State → Prop} {b Lx : Nat} {xs : Nat → Int32} {A : Nat → Prop} {dC : Nat → ClassId} {dI : Nat → Nat → Nat} {cI cZ cO : ClassId} {tL tM : Nat} {aX a_text d_aC d_a_letters d_a_passageOf d_a_cues d_a_rowOf d_a_firstOfRow aS a_settings aC a_letters a_passageOf a_cues a_rowOf a_firstOfRow aT a_times a_positions a_kept c_aS c_a_settings c_aC c_a_letters c_a_passageOf c_a_cues c_a_rowOf c_a_firstOfRow c_aT c_a_times c_a_positions c_a_kept a_history a_images a_imageKept aM m_a_w m_a_past m_a_images m_a_text m_a_rowOf m_a_readLetter m_a_readCue m_a_readPassage m_a_held : Nat} (hx : p.tables.exec = Jvm.exec) (hb : c.code = cL_law) (hml : c.maxLocals = 8) (hown : s.vm.findClass RL = some m.cls) (hts : ∀ w ∈ wsL_law, w.before args s = true) (hX : va_X b Lx xs s s.heap) (hbl : b < s.heap.size) (hbA : ¬ A b) (hA : ∀ q, s.heap.size ≤ q → A q) (hK : va_K (dC, dI) vwCl (tyA cI cZ cO) s) (hN : NW s) (hST : stA "LEAST" tL F_LEAST A s ∧ stA "MOST" tM F_MOST A s) (hro : cells ≤ room_1.cells ∧ slots ≤ room_1.slots) (hLx : Lx ≤ 1536) (kx : ∀ (H : Heap) (locs : List Loc) (ls : Array Slot), va_S A s.heap H locs → W p l e room_1 s m args below meth c H locs cells slots Q (F0 m 742 ls [])) : ∀ (n k : Nat) (H : Heap) (locs : List Loc) (ls : Array Slot), Lx ≤ 3 * k + 3 * n → 3 * k ≤ Lx → INV dC dI cI cZ cO aX a_text d_aC d_a_letters d_a_passageOf d_a_cues d_a_rowOf d_a_firstOfRow aS a_settings aC a_letters a_passageOf a_cues a_rowOf a_firstOfRow aT a_times a_positions a_kept c_aS c_a_settings c_aC c_a_letters c_a_passageOf c_a_cues c_a_rowOf c_a_firstOfRow c_aT c_a_times c_a_positions c_a_kept a_history a_images a_imageKept aM m_a_w m_a_past m_a_images m_a_text m_a_rowOf m_a_readLetter m_a_readCue m_a_readPassage m_a_held A (100 * k) H → va_S A s.heap H locs → lv_has ls 8 [(3, .int (nI (3 * k))), (2, .ref aM), (1, .ref aX), (0, .ref b)] → W p l e room_1 s m args below meth c H locs cells slots Q (F0 m 18 ls []) := by
  intro n
  induction n with
  | zero =>
    intro k H locs ls hn hk hI hS hl
    exact law_head hx hb hml hown hX hbl hbA hLx hk hS hl (fun _ => kx _ _ _ hS) (fun h3 => absurd h3 (by omega))
  | succ n ih =>
    intro k H locs ls hn hk hI hS hl
    refine law_head hx hb hml hown hX hbl hbA hLx hk hS hl (fun _ => kx _ _ _ hS) (fun h3 => ?_)
    refine law_body (M := 100 * k) (i := 3 * k) hx hb hml hown hts hX hbl hbA hA hK hN hST hro (by omega) h3 hLx hI hS hl (fun H locs ls hI hS hl => ?_)
    have e3 : nI (3 * k) + Int32.ofInt 3 = nI (3 * (k + 1)) := by
      rw [show Int32.ofInt 3 = nI 3 by decide]
      exact nI_add (3 * k) 3
    refine lv_iinc (v := nI (3 * (k + 1))) (lv' := [(3, .int (nI (3 * (k + 1)))), (2, .ref aM), (1, .ref aX), (0, .ref b)]) hx hb dL_law_736 hl (k := 0) rfl e3 (by decide) rfl (fun ls hl => ?_)
    refine lv_goto (tgt := 18) hx hb dL_law_739 (by decide) ?_
    have eM : 100 * (k + 1) = 100 * k + 100 := by omega
    have hI : INV dC dI cI cZ cO aX a_text d_aC d_a_letters d_a_passageOf d_a_cues d_a_rowOf d_a_firstOfRow aS a_settings aC a_letters a_passageOf a_cues a_rowOf a_firstOfRow aT a_times a_positions a_kept c_aS c_a_settings c_aC c_a_letters c_a_passageOf c_a_cues c_a_rowOf c_a_firstOfRow c_aT c_a_times c_a_positions c_a_kept a_history a_images a_imageKept aM m_a_w m_a_past m_a_images m_a_text m_a_rowOf m_a_readLetter m_a_readCue m_a_readPassage m_a_held A (100 * (k + 1)) H := by
      rw [eM]
      exact hI
    exact ih (k + 1) H locs ls (by omega) (by omega) hI hS hl
