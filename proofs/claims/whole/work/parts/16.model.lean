def f_X4_isIn (p0 : Int32) (p1 : Int32) (p2 : Int32) : Option Int32 :=
  if p0 < p1 then
    some (0 : Int32)
  else
    if p2 < p0 then
      some (0 : Int32)
    else
      some (1 : Int32)
def rm_X4_isIn : Room := { frames := 0, cells := 0, slots := 0, locals := 0 }
set_option maxHeartbeats 4000000 in
set_option maxRecDepth 100000 in
theorem c_X4_isIn (l : Launch) (dC : Nat → ClassId) (dI : Nat → Nat → Nat) (cI cZ cO : ClassId) (p0 : Int32) (p1 : Int32) (p2 : Int32) (r : Int32) (hF : f_X4_isIn p0 p1 p2 = some r) : Met l yX4_isIn wsX4_isIn rm_X4_isIn (va_Pc [.int p0, .int p1, .int p2] (rdW dC dI cI cZ cO [])) (vp_Si (fun q => r = q)) 0 0 (fun _ => False) := by
  refine Met.ofW (cc := cX4_isIn) (maxL := 3) (ret := (some .boolean)) (by decide) rfl ?_
  intro p e s m args below meth c s₁ B hml hv
  obtain ⟨rfl, hP, hK, hN⟩ := hv
  have hx := B.exec
  have hb := B.bytes
  have hr := B.returns
  have hts := atoms_spec (ws := wsX4_isIn) B.pre
  have hown : s.vm.findClass RX4 = some m.cls := findClass_of_methodNamed B.named
  have hlocks := B.notSynchronized
  obtain ⟨Q, hQ⟩ : ∃ Q, Q = MQ below (vp_Si (fun q => r = q)) ([.int p0, .int p1, .int p2] : List Value).toArray s 0 0 (fun _ => False) := ⟨_, rfl⟩
  rw [← hQ]
  have hS : va_S (fun _ => False) s.heap s.heap [] := va_S.rf
  have hl := lv_entry ([.int p0, .int p1, .int p2]) (n := 3) (Nat.le_of_ble_eq_true rfl)
  rw [lg_entry_eq]
  generalize (lg_sl ([.int p0, .int p1, .int p2]) ++ List.replicate (3 - (lg_sl ([.int p0, .int p1, .int p2])).length) Slot.unset).toArray = ls at hl ⊢
  have hl : lv_has ls 3 [(0, .int p0), (1, .int p1), (2, .int p2)] := hl
  unfold f_X4_isIn at hF
  refine lv_iload_n hx hb dX4_isIn_0 rfl (lv_at hl 0 rfl) ?_
  refine lv_iload_n hx hb dX4_isIn_1 rfl (lv_at hl 1 rfl) ?_
  refine lv_icmp_lt (tgt := 14) hx hb dX4_isIn_2 (by decide) (fun c_2 => ?_) (fun c_2 => ?_)
  · have hF := (if_pos c_2).symm.trans hF
    refine lv_iconst (v := (0 : Int32)) hx hb dX4_isIn_14 (by decide) ?_
    have hF : some (0 : Int32) = some r := hF
    cases hF
    subst hQ
    exact W.zret (ty := .boolean) hx hb hr rfl (fun t ht hW => ⟨_, rfl, rfl, ht⟩) (fun q hq => absurd hq List.not_mem_nil) dX4_isIn_15
  · have hF := (if_neg c_2).symm.trans hF
    refine lv_iload_n hx hb dX4_isIn_5 rfl (lv_at hl 0 rfl) ?_
    refine lv_iload_n hx hb dX4_isIn_6 rfl (lv_at hl 2 rfl) ?_
    refine lv_icmp_gt (tgt := 14) hx hb dX4_isIn_7 (by decide) (fun c_7 => ?_) (fun c_7 => ?_)
    · have hF := (if_pos c_7).symm.trans hF
      refine lv_iconst (v := (0 : Int32)) hx hb dX4_isIn_14 (by decide) ?_
      have hF : some (0 : Int32) = some r := hF
      cases hF
      subst hQ
      exact W.zret (ty := .boolean) hx hb hr rfl (fun t ht hW => ⟨_, rfl, rfl, ht⟩) (fun q hq => absurd hq List.not_mem_nil) dX4_isIn_15
    · have hF := (if_neg c_7).symm.trans hF
      refine lv_iconst (v := (1 : Int32)) hx hb dX4_isIn_10 (by decide) ?_
      refine lv_goto (tgt := 15) hx hb dX4_isIn_11 (by decide) ?_
      have hF : some (1 : Int32) = some r := hF
      cases hF
      subst hQ
      exact W.zret (ty := .boolean) hx hb hr rfl (fun t ht hW => ⟨_, rfl, rfl, ht⟩) (fun q hq => absurd hq List.not_mem_nil) dX4_isIn_15
def f_X4_greatestTop (v_w : (Nat → Int32)) (v_rows : Int32) : Option Int32 :=
  if (v_w 1) ≤ v_rows then
    some ((100 : Int32) * (v_rows - (v_w 1)))
  else
    some (0 : Int32)
def rm_X4_greatestTop : Room := { frames := 0, cells := 0, slots := 0, locals := 0 }
set_option maxHeartbeats 4000000 in
set_option maxRecDepth 100000 in
theorem c_X4_greatestTop (l : Launch) (dC : Nat → ClassId) (dI : Nat → Nat → Nat) (cI cZ cO : ClassId) (aM a_w a_past a_images a_text a_rowOf a_readLetter a_readCue a_readPassage a_held : Nat) (v_w : (Nat → Int32)) (v_past : (Nat → Int32)) (v_pastMany : Int32) (v_images : (Nat → Int32)) (v_filled : Int32) (v_text : (Nat → Int32)) (v_length : Int32) (v_faultKind : Int32) (v_faultPlace : Int32) (v_rowOf : (Nat → Int32)) (v_rows : Int32) (v_wrongKind : Int32) (v_wrongPlace : Int32) (v_readWords : Int32) (v_readPassages : Int32) (v_readLetter : (Nat → Int32)) (v_readCue : (Nat → Int32)) (v_readPassage : (Nat → Int32)) (v_held : (Nat → Int32)) (r : Int32) (hF : f_X4_greatestTop v_w v_rows = some r) : Met l yX4_greatestTop wsX4_greatestTop rm_X4_greatestTop (va_Pc [.ref aM] (rdW dC dI cI cZ cO [(aM, .inr (4, [.ref a_w, .ref a_past, .int v_pastMany, .ref a_images, .int v_filled, .ref a_text, .int v_length, .int v_faultKind, .int v_faultPlace, .ref a_rowOf, .int v_rows, .int v_wrongKind, .int v_wrongPlace, .int v_readWords, .int v_readPassages, .ref a_readLetter, .ref a_readCue, .ref a_readPassage, .ref a_held])), (a_w, .inl (cI, 510, .inl v_w)), (a_past, .inl (cI, 4080, .inl v_past)), (a_images, .inl (cI, 1020, .inl v_images)), (a_text, .inl (cI, 140, .inl v_text)), (a_rowOf, .inl (cI, 120, .inl v_rowOf)), (a_readLetter, .inl (cI, 120, .inl v_readLetter)), (a_readCue, .inl (cI, 120, .inl v_readCue)), (a_readPassage, .inl (cI, 120, .inl v_readPassage)), (a_held, .inl (cI, 510, .inl v_held))])) (vp_Si (fun q => r = q)) 0 0 (fun _ => False) := by
  refine Met.ofW (cc := cX4_greatestTop) (maxL := 1) (ret := (some .int)) (by decide) rfl ?_
  intro p e s m args below meth c s₁ B hml hv
  obtain ⟨rfl, hP, hK, hN⟩ := hv
  have hx := B.exec
  have hb := B.bytes
  have hr := B.returns
  have hts := atoms_spec (ws := wsX4_greatestTop) B.pre
  have hown : s.vm.findClass RX4 = some m.cls := findClass_of_methodNamed B.named
  have hlocks := B.notSynchronized
  obtain ⟨Q, hQ⟩ : ∃ Q, Q = MQ below (vp_Si (fun q => r = q)) ([.ref aM] : List Value).toArray s 0 0 (fun _ => False) := ⟨_, rfl⟩
  rw [← hQ]
  have hS : va_S (fun _ => False) s.heap s.heap [] := va_S.rf
  have fl50 := hts (.fieldLink RX4 50 "TeleprompterModel" "rows" "I") (by decide +kernel)
  have fl7 := hts (.fieldLink RX4 7 "TeleprompterModel" "w" "[I") (by decide +kernel)
  have inX4 : ∀ w ∈ u_ws RX4 TX4 19, w ∈ wsX4_greatestTop := by decide +kernel
  have hl := lv_entry ([.ref aM]) (n := 1) (Nat.le_of_ble_eq_true rfl)
  rw [lg_entry_eq]
  generalize (lg_sl ([.ref aM]) ++ List.replicate (1 - (lg_sl ([.ref aM])).length) Slot.unset).toArray = ls at hl ⊢
  have hl : lv_has ls 1 [(0, .ref aM)] := hl
  unfold f_X4_greatestTop at hF
  refine lv_aload_n hx hb dX4_greatestTop_0 rfl (lv_at hl 0 rfl) ?_
  refine va_get (D := (dC, dI)) (ci := 4) (v := .int v_rows) (C := RX4) (T := TX4) (N := 19) hx hb hts inX4 hown hK hP 0 rfl rfl 10 (by decide) fl50 (fun _ h9 => h9) rfl dX4_greatestTop_1 ?_
  refine lv_aload_n hx hb dX4_greatestTop_4 rfl (lv_at hl 0 rfl) ?_
  refine va_get (D := (dC, dI)) (ci := 4) (v := .ref a_w) (C := RX4) (T := TX4) (N := 19) hx hb hts inX4 hown hK hP 0 rfl rfl 0 (by decide) fl7 (fun _ h9 => h9) rfl dX4_greatestTop_5 ?_
  refine lv_iconst (v := (1 : Int32)) hx hb dX4_greatestTop_8 (by decide) ?_
  refine va_ialdK hx hb hK hP 1 0 rfl rfl (inK (by decide)) (j := 1) (by decide) dX4_greatestTop_9 ?_
  refine lv_icmp_ge (tgt := 17) hx hb dX4_greatestTop_10 (by decide) (fun c_10 => ?_) (fun c_10 => ?_)
  · have hF := (if_pos c_10).symm.trans hF
    refine lv_bipush (v := (100 : Int32)) hx hb dX4_greatestTop_17 (by decide) ?_
    refine lv_aload_n hx hb dX4_greatestTop_19 rfl (lv_at hl 0 rfl) ?_
    refine va_get (D := (dC, dI)) (ci := 4) (v := .int v_rows) (C := RX4) (T := TX4) (N := 19) hx hb hts inX4 hown hK hP 0 rfl rfl 10 (by decide) fl50 (fun _ h9 => h9) rfl dX4_greatestTop_20 ?_
    refine lv_aload_n hx hb dX4_greatestTop_23 rfl (lv_at hl 0 rfl) ?_
    refine va_get (D := (dC, dI)) (ci := 4) (v := .ref a_w) (C := RX4) (T := TX4) (N := 19) hx hb hts inX4 hown hK hP 0 rfl rfl 0 (by decide) fl7 (fun _ h9 => h9) rfl dX4_greatestTop_24 ?_
    refine lv_iconst (v := (1 : Int32)) hx hb dX4_greatestTop_27 (by decide) ?_
    refine va_ialdK hx hb hK hP 1 0 rfl rfl (inK (by decide)) (j := 1) (by decide) dX4_greatestTop_28 ?_
    refine lv_isub hx hb dX4_greatestTop_29 ?_
    refine lv_imul hx hb dX4_greatestTop_30 ?_
    have hF : some ((100 : Int32) * (v_rows - (v_w 1))) = some r := hF
    cases hF
    subst hQ
    exact W.iret hx hb hr (fun t ht hW => ⟨_, rfl, rfl, ht⟩) (fun q hq => absurd hq List.not_mem_nil) dX4_greatestTop_31
  · have hF := (if_neg c_10).symm.trans hF
    refine lv_iconst (v := (0 : Int32)) hx hb dX4_greatestTop_13 (by decide) ?_
    refine lv_goto (tgt := 31) hx hb dX4_greatestTop_14 (by decide) ?_
    have hF : some (0 : Int32) = some r := hF
    cases hF
    subst hQ
    exact W.iret hx hb hr (fun t ht hW => ⟨_, rfl, rfl, ht⟩) (fun q hq => absurd hq List.not_mem_nil) dX4_greatestTop_31
def f_X4_limited (p1 : Int32) (v_w : (Nat → Int32)) (v_rows : Int32) : Option Int32 :=
  if (0 : Int32) ≤ p1 then
    (f_X4_greatestTop v_w v_rows).bind fun q10 =>
    if p1 ≤ q10 then
      some p1
    else
      (f_X4_greatestTop v_w v_rows).bind fun q17 =>
      some q17
  else
    some (0 : Int32)
def rm_X4_limited : Room := { frames := 1, cells := 0, slots := 0, locals := 20 }
set_option maxHeartbeats 4000000 in
set_option maxRecDepth 100000 in
theorem c_X4_limited (l : Launch) (dC : Nat → ClassId) (dI : Nat → Nat → Nat) (cI cZ cO : ClassId) (aM a_w a_past a_images a_text a_rowOf a_readLetter a_readCue a_readPassage a_held : Nat) (p1 : Int32) (v_w : (Nat → Int32)) (v_past : (Nat → Int32)) (v_pastMany : Int32) (v_images : (Nat → Int32)) (v_filled : Int32) (v_text : (Nat → Int32)) (v_length : Int32) (v_faultKind : Int32) (v_faultPlace : Int32) (v_rowOf : (Nat → Int32)) (v_rows : Int32) (v_wrongKind : Int32) (v_wrongPlace : Int32) (v_readWords : Int32) (v_readPassages : Int32) (v_readLetter : (Nat → Int32)) (v_readCue : (Nat → Int32)) (v_readPassage : (Nat → Int32)) (v_held : (Nat → Int32)) (r : Int32) (hF : f_X4_limited p1 v_w v_rows = some r) : Met l yX4_limited wsX4_limited rm_X4_limited (va_Pc [.ref aM, .int p1] (rdW dC dI cI cZ cO [(aM, .inr (4, [.ref a_w, .ref a_past, .int v_pastMany, .ref a_images, .int v_filled, .ref a_text, .int v_length, .int v_faultKind, .int v_faultPlace, .ref a_rowOf, .int v_rows, .int v_wrongKind, .int v_wrongPlace, .int v_readWords, .int v_readPassages, .ref a_readLetter, .ref a_readCue, .ref a_readPassage, .ref a_held])), (a_w, .inl (cI, 510, .inl v_w)), (a_past, .inl (cI, 4080, .inl v_past)), (a_images, .inl (cI, 1020, .inl v_images)), (a_text, .inl (cI, 140, .inl v_text)), (a_rowOf, .inl (cI, 120, .inl v_rowOf)), (a_readLetter, .inl (cI, 120, .inl v_readLetter)), (a_readCue, .inl (cI, 120, .inl v_readCue)), (a_readPassage, .inl (cI, 120, .inl v_readPassage)), (a_held, .inl (cI, 510, .inl v_held))])) (vp_Si (fun q => r = q)) 0 0 (fun _ => False) := by
  refine Met.ofW (cc := cX4_limited) (maxL := 2) (ret := (some .int)) (by decide) rfl ?_
  intro p e s m args below meth c s₁ B hml hv
  obtain ⟨rfl, hP, hK, hN⟩ := hv
  have hx := B.exec
  have hb := B.bytes
  have hr := B.returns
  have hts := atoms_spec (ws := wsX4_limited) B.pre
  have hown : s.vm.findClass RX4 = some m.cls := findClass_of_methodNamed B.named
  have hlocks := B.notSynchronized
  obtain ⟨Q, hQ⟩ : ∃ Q, Q = MQ below (vp_Si (fun q => r = q)) ([.ref aM, .int p1] : List Value).toArray s 0 0 (fun _ => False) := ⟨_, rfl⟩
  rw [← hQ]
  have hS : va_S (fun _ => False) s.heap s.heap [] := va_S.rf
  have hl := lv_entry ([.ref aM, .int p1]) (n := 2) (Nat.le_of_ble_eq_true rfl)
  rw [lg_entry_eq]
  generalize (lg_sl ([.ref aM, .int p1]) ++ List.replicate (2 - (lg_sl ([.ref aM, .int p1])).length) Slot.unset).toArray = ls at hl ⊢
  have hl : lv_has ls 2 [(0, .ref aM), (1, .int p1)] := hl
  unfold f_X4_limited at hF
  refine lv_iload_n hx hb dX4_limited_0 rfl (lv_at hl 1 rfl) ?_
  refine lv_if_ge (tgt := 8) hx hb dX4_limited_1 (by decide) (fun c_1 => ?_) (fun c_1 => ?_)
  · have hF := (if_pos c_1).symm.trans hF
    refine lv_iload_n hx hb dX4_limited_8 rfl (lv_at hl 1 rfl) ?_
    refine lv_aload_n hx hb dX4_limited_9 rfl (lv_at hl 0 rfl) ?_
    obtain ⟨q_10, hq_10, hF⟩ := bindE hF
    have hPc := hP
    refine vp_callSi (va_Run.run (va_runV (As := []) (rest := [.int p1]) ⟨hx, hb, hml, hown, hts⟩ (c_X4_greatestTop l dC dI cI cZ cO aM a_w a_past a_images a_text a_rowOf a_readLetter a_readCue a_readPassage a_held v_w v_past v_pastMany v_images v_filled v_text v_length v_faultKind v_faultPlace v_rowOf v_rows v_wrongKind v_wrongPlace v_readWords v_readPassages v_readLetter v_readCue v_readPassage v_held q_10 hq_10) (cwV 0 hts gX4_limited_X4_greatestTop rfl rfl rfl (by decide +kernel) ⟨Nat.le_of_ble_eq_true rfl, Nat.le_of_ble_eq_true rfl⟩) ⟨fb_rd, va_recv hK hPc (ci := 4) (q0 := 0) rfl rfl, pre_rd hPc hK hN⟩ rfl rfl hl.1 rfl (lv_room (Nat.le_of_ble_eq_true rfl)) dX4_limited_10 ⟨Nat.zero_le _, Nat.zero_le _⟩)) (fun z_10 hz_10 => ?_)
    subst hz_10
    refine lv_icmp_le (tgt := 23) hx hb dX4_limited_13 (by decide) (fun c_13 => ?_) (fun c_13 => ?_)
    · have hF := (if_pos c_13).symm.trans hF
      refine lv_iload_n hx hb dX4_limited_23 rfl (lv_at hl 1 rfl) ?_
      have hF : some p1 = some r := hF
      cases hF
      subst hQ
      exact W.iret hx hb hr (fun t ht hW => ⟨_, rfl, rfl, ht⟩) (fun q hq => absurd hq List.not_mem_nil) dX4_limited_24
    · have hF := (if_neg c_13).symm.trans hF
      refine lv_aload_n hx hb dX4_limited_16 rfl (lv_at hl 0 rfl) ?_
      obtain ⟨q_17, hq_17, hF⟩ := bindE hF
      have hPc := hP
      refine vp_callSi (va_Run.run (va_runV (As := []) (rest := []) ⟨hx, hb, hml, hown, hts⟩ (c_X4_greatestTop l dC dI cI cZ cO aM a_w a_past a_images a_text a_rowOf a_readLetter a_readCue a_readPassage a_held v_w v_past v_pastMany v_images v_filled v_text v_length v_faultKind v_faultPlace v_rowOf v_rows v_wrongKind v_wrongPlace v_readWords v_readPassages v_readLetter v_readCue v_readPassage v_held q_17 hq_17) (cwV 0 hts gX4_limited_X4_greatestTop rfl rfl rfl (by decide +kernel) ⟨Nat.le_of_ble_eq_true rfl, Nat.le_of_ble_eq_true rfl⟩) ⟨fb_rd, va_recv hK hPc (ci := 4) (q0 := 0) rfl rfl, pre_rd hPc hK hN⟩ rfl rfl hl.1 rfl (lv_room (Nat.le_of_ble_eq_true rfl)) dX4_limited_17 ⟨Nat.zero_le _, Nat.zero_le _⟩)) (fun z_17 hz_17 => ?_)
      subst hz_17
      refine lv_goto (tgt := 24) hx hb dX4_limited_20 (by decide) ?_
      have hF : some q_17 = some r := hF
      cases hF
      subst hQ
      exact W.iret hx hb hr (fun t ht hW => ⟨_, rfl, rfl, ht⟩) (fun q hq => absurd hq List.not_mem_nil) dX4_limited_24
  · have hF := (if_neg c_1).symm.trans hF
    refine lv_iconst (v := (0 : Int32)) hx hb dX4_limited_4 (by decide) ?_
    refine lv_goto (tgt := 24) hx hb dX4_limited_5 (by decide) ?_
    have hF : some (0 : Int32) = some r := hF
    cases hF
    subst hQ
    exact W.iret hx hb hr (fun t ht hW => ⟨_, rfl, rfl, ht⟩) (fun q hq => absurd hq List.not_mem_nil) dX4_limited_24
def f_X4_isWord (p1 : Int32) (v_w : (Nat → Int32)) : Option Int32 :=
  (f_X4_isIn p1 (0 : Int32) ((v_w 9) - (1 : Int32))).bind fun q11 =>
  if q11 &&& 1 = q11 then some q11 else none
def rm_X4_isWord : Room := { frames := 1, cells := 0, slots := 0, locals := 22 }
set_option maxHeartbeats 4000000 in
set_option maxRecDepth 100000 in
theorem c_X4_isWord (l : Launch) (dC : Nat → ClassId) (dI : Nat → Nat → Nat) (cI cZ cO : ClassId) (aM a_w a_past a_images a_text a_rowOf a_readLetter a_readCue a_readPassage a_held : Nat) (p1 : Int32) (v_w : (Nat → Int32)) (v_past : (Nat → Int32)) (v_pastMany : Int32) (v_images : (Nat → Int32)) (v_filled : Int32) (v_text : (Nat → Int32)) (v_length : Int32) (v_faultKind : Int32) (v_faultPlace : Int32) (v_rowOf : (Nat → Int32)) (v_rows : Int32) (v_wrongKind : Int32) (v_wrongPlace : Int32) (v_readWords : Int32) (v_readPassages : Int32) (v_readLetter : (Nat → Int32)) (v_readCue : (Nat → Int32)) (v_readPassage : (Nat → Int32)) (v_held : (Nat → Int32)) (r : Int32) (hF : f_X4_isWord p1 v_w = some r) : Met l yX4_isWord wsX4_isWord rm_X4_isWord (va_Pc [.ref aM, .int p1] (rdW dC dI cI cZ cO [(aM, .inr (4, [.ref a_w, .ref a_past, .int v_pastMany, .ref a_images, .int v_filled, .ref a_text, .int v_length, .int v_faultKind, .int v_faultPlace, .ref a_rowOf, .int v_rows, .int v_wrongKind, .int v_wrongPlace, .int v_readWords, .int v_readPassages, .ref a_readLetter, .ref a_readCue, .ref a_readPassage, .ref a_held])), (a_w, .inl (cI, 510, .inl v_w)), (a_past, .inl (cI, 4080, .inl v_past)), (a_images, .inl (cI, 1020, .inl v_images)), (a_text, .inl (cI, 140, .inl v_text)), (a_rowOf, .inl (cI, 120, .inl v_rowOf)), (a_readLetter, .inl (cI, 120, .inl v_readLetter)), (a_readCue, .inl (cI, 120, .inl v_readCue)), (a_readPassage, .inl (cI, 120, .inl v_readPassage)), (a_held, .inl (cI, 510, .inl v_held))])) (vp_Si (fun q => r = q)) 0 0 (fun _ => False) := by
  refine Met.ofW (cc := cX4_isWord) (maxL := 2) (ret := (some .boolean)) (by decide) rfl ?_
  intro p e s m args below meth c s₁ B hml hv
  obtain ⟨rfl, hP, hK, hN⟩ := hv
  have hx := B.exec
  have hb := B.bytes
  have hr := B.returns
  have hts := atoms_spec (ws := wsX4_isWord) B.pre
  have hown : s.vm.findClass RX4 = some m.cls := findClass_of_methodNamed B.named
  have hlocks := B.notSynchronized
  obtain ⟨Q, hQ⟩ : ∃ Q, Q = MQ below (vp_Si (fun q => r = q)) ([.ref aM, .int p1] : List Value).toArray s 0 0 (fun _ => False) := ⟨_, rfl⟩
  rw [← hQ]
  have hS : va_S (fun _ => False) s.heap s.heap [] := va_S.rf
  have fl7 := hts (.fieldLink RX4 7 "TeleprompterModel" "w" "[I") (by decide +kernel)
  have inX4 : ∀ w ∈ u_ws RX4 TX4 19, w ∈ wsX4_isWord := by decide +kernel
  have hl := lv_entry ([.ref aM, .int p1]) (n := 2) (Nat.le_of_ble_eq_true rfl)
  rw [lg_entry_eq]
  generalize (lg_sl ([.ref aM, .int p1]) ++ List.replicate (2 - (lg_sl ([.ref aM, .int p1])).length) Slot.unset).toArray = ls at hl ⊢
  have hl : lv_has ls 2 [(0, .ref aM), (1, .int p1)] := hl
  unfold f_X4_isWord at hF
  refine lv_iload_n hx hb dX4_isWord_0 rfl (lv_at hl 1 rfl) ?_
  refine lv_iconst (v := (0 : Int32)) hx hb dX4_isWord_1 (by decide) ?_
  refine lv_aload_n hx hb dX4_isWord_2 rfl (lv_at hl 0 rfl) ?_
  refine va_get (D := (dC, dI)) (ci := 4) (v := .ref a_w) (C := RX4) (T := TX4) (N := 19) hx hb hts inX4 hown hK hP 0 rfl rfl 0 (by decide) fl7 (fun _ h9 => h9) rfl dX4_isWord_3 ?_
  refine lv_bipush (v := (9 : Int32)) hx hb dX4_isWord_6 (by decide) ?_
  refine va_ialdK hx hb hK hP 1 0 rfl rfl (inK (by decide)) (j := 9) (by decide) dX4_isWord_8 ?_
  refine lv_iconst (v := (1 : Int32)) hx hb dX4_isWord_9 (by decide) ?_
  refine lv_isub hx hb dX4_isWord_10 ?_
  obtain ⟨q_11, hq_11, hF⟩ := bindE hF
  have hPc := hP.sub (ws' := []) [] rfl
  refine vp_callSi (va_Run.run (va_runS (As := [.int p1, .int (0 : Int32), .int ((v_w 9) - (1 : Int32))]) (rest := []) ⟨hx, hb, hml, hown, hts⟩ (c_X4_isIn l dC dI cI cZ cO p1 (0 : Int32) ((v_w 9) - (1 : Int32)) q_11 hq_11) (cwS 3 hts gX4_isWord_X4_isIn rfl rfl rfl (by decide +kernel) ⟨Nat.le_of_ble_eq_true rfl, Nat.le_of_ble_eq_true rfl⟩) ⟨fb_rd, pre_rd hPc hK hN⟩ rfl rfl hl.1 rfl (lv_room (Nat.le_of_ble_eq_true rfl)) dX4_isWord_11 ⟨Nat.zero_le _, Nat.zero_le _⟩)) (fun z_11 hz_11 => ?_)
  subst hz_11
  by_cases b_14 : (q_11 &&& 1 = q_11)
  case neg => exact noneE ((if_neg b_14).symm.trans hF)
  have hF := (if_pos b_14).symm.trans hF
  have hF : some q_11 = some r := hF
  cases hF
  subst hQ
  exact W.zret (ty := .boolean) hx hb hr (nbK b_14) (fun t ht hW => ⟨_, rfl, rfl, ht⟩) (fun q hq => absurd hq List.not_mem_nil) dX4_isWord_14
def f_X4_isLetter (p0 : Int32) : Option Int32 :=
  (f_X4_isIn p0 (97 : Int32) (122 : Int32)).bind fun q5 =>
  if q5 &&& 1 = q5 then some q5 else none
def rm_X4_isLetter : Room := { frames := 1, cells := 0, slots := 0, locals := 22 }
set_option maxHeartbeats 4000000 in
set_option maxRecDepth 100000 in
theorem c_X4_isLetter (l : Launch) (dC : Nat → ClassId) (dI : Nat → Nat → Nat) (cI cZ cO : ClassId) (p0 : Int32) (r : Int32) (hF : f_X4_isLetter p0 = some r) : Met l yX4_isLetter wsX4_isLetter rm_X4_isLetter (va_Pc [.int p0] (rdW dC dI cI cZ cO [])) (vp_Si (fun q => r = q)) 0 0 (fun _ => False) := by
  refine Met.ofW (cc := cX4_isLetter) (maxL := 1) (ret := (some .boolean)) (by decide) rfl ?_
  intro p e s m args below meth c s₁ B hml hv
  obtain ⟨rfl, hP, hK, hN⟩ := hv
  have hx := B.exec
  have hb := B.bytes
  have hr := B.returns
  have hts := atoms_spec (ws := wsX4_isLetter) B.pre
  have hown : s.vm.findClass RX4 = some m.cls := findClass_of_methodNamed B.named
  have hlocks := B.notSynchronized
  obtain ⟨Q, hQ⟩ : ∃ Q, Q = MQ below (vp_Si (fun q => r = q)) ([.int p0] : List Value).toArray s 0 0 (fun _ => False) := ⟨_, rfl⟩
  rw [← hQ]
  have hS : va_S (fun _ => False) s.heap s.heap [] := va_S.rf
  have hl := lv_entry ([.int p0]) (n := 1) (Nat.le_of_ble_eq_true rfl)
  rw [lg_entry_eq]
  generalize (lg_sl ([.int p0]) ++ List.replicate (1 - (lg_sl ([.int p0])).length) Slot.unset).toArray = ls at hl ⊢
  have hl : lv_has ls 1 [(0, .int p0)] := hl
  unfold f_X4_isLetter at hF
  refine lv_iload_n hx hb dX4_isLetter_0 rfl (lv_at hl 0 rfl) ?_
  refine lv_bipush (v := (97 : Int32)) hx hb dX4_isLetter_1 (by decide) ?_
  refine lv_bipush (v := (122 : Int32)) hx hb dX4_isLetter_3 (by decide) ?_
  obtain ⟨q_5, hq_5, hF⟩ := bindE hF
  have hPc := hP
  refine vp_callSi (va_Run.run (va_runS (As := [.int p0, .int (97 : Int32), .int (122 : Int32)]) (rest := []) ⟨hx, hb, hml, hown, hts⟩ (c_X4_isIn l dC dI cI cZ cO p0 (97 : Int32) (122 : Int32) q_5 hq_5) (cwS 3 hts gX4_isLetter_X4_isIn rfl rfl rfl (by decide +kernel) ⟨Nat.le_of_ble_eq_true rfl, Nat.le_of_ble_eq_true rfl⟩) ⟨fb_rd, pre_rd hPc hK hN⟩ rfl rfl hl.1 rfl (lv_room (Nat.le_of_ble_eq_true rfl)) dX4_isLetter_5 ⟨Nat.zero_le _, Nat.zero_le _⟩)) (fun z_5 hz_5 => ?_)
  subst hz_5
  by_cases b_8 : (q_5 &&& 1 = q_5)
  case neg => exact noneE ((if_neg b_8).symm.trans hF)
  have hF := (if_pos b_8).symm.trans hF
  have hF : some q_5 = some r := hF
  cases hF
  subst hQ
  exact W.zret (ty := .boolean) hx hb hr (nbK b_8) (fun t ht hW => ⟨_, rfl, rfl, ht⟩) (fun q hq => absurd hq List.not_mem_nil) dX4_isLetter_8
def f_X4_scoreOf_2 (v_w : (Nat → Int32)) (x1 : Int32) : Nat → Int32 → Option Int32
  | 0, _ => none
  | n + 1, x2 =>
    if (3 : Int32) < x2 then
      some x2
    else
      if (v_w 20) < x2 then
        some x2
      else
        if (x1 - x2) < (0 : Int32) then
          some x2
        else
          if (((150 : Int32) + x1) - x2) < 0 ∨ 510 ≤ ((((150 : Int32) + x1) - x2)).toNatClampNeg then none else
          if (((21 : Int32) + x2) - (1 : Int32)) < 0 ∨ 510 ≤ ((((21 : Int32) + x2) - (1 : Int32))).toNatClampNeg then none else
          if (v_w (((((150 : Int32) + x1) - x2)).toNatClampNeg)) = (v_w (((((21 : Int32) + x2) - (1 : Int32))).toNatClampNeg)) then
            f_X4_scoreOf_2 v_w x1 n (x2 + 1)
          else
            some x2
def f_X4_scoreOf (p1 : Int32) (v_w : (Nat → Int32)) : Option Int32 :=
  f_X4_scoreOf_2 v_w p1 gas (1 : Int32)
def rm_X4_scoreOf : Room := { frames := 0, cells := 0, slots := 0, locals := 0 }
set_option maxHeartbeats 4000000 in
set_option maxRecDepth 100000 in
theorem c_X4_scoreOf (l : Launch) (dC : Nat → ClassId) (dI : Nat → Nat → Nat) (cI cZ cO : ClassId) (aM a_w a_past a_images a_text a_rowOf a_readLetter a_readCue a_readPassage a_held : Nat) (p1 : Int32) (v_w : (Nat → Int32)) (v_past : (Nat → Int32)) (v_pastMany : Int32) (v_images : (Nat → Int32)) (v_filled : Int32) (v_text : (Nat → Int32)) (v_length : Int32) (v_faultKind : Int32) (v_faultPlace : Int32) (v_rowOf : (Nat → Int32)) (v_rows : Int32) (v_wrongKind : Int32) (v_wrongPlace : Int32) (v_readWords : Int32) (v_readPassages : Int32) (v_readLetter : (Nat → Int32)) (v_readCue : (Nat → Int32)) (v_readPassage : (Nat → Int32)) (v_held : (Nat → Int32)) (r : Int32) (hF : f_X4_scoreOf p1 v_w = some r) : Met l yX4_scoreOf wsX4_scoreOf rm_X4_scoreOf (va_Pc [.ref aM, .int p1] (rdW dC dI cI cZ cO [(aM, .inr (4, [.ref a_w, .ref a_past, .int v_pastMany, .ref a_images, .int v_filled, .ref a_text, .int v_length, .int v_faultKind, .int v_faultPlace, .ref a_rowOf, .int v_rows, .int v_wrongKind, .int v_wrongPlace, .int v_readWords, .int v_readPassages, .ref a_readLetter, .ref a_readCue, .ref a_readPassage, .ref a_held])), (a_w, .inl (cI, 510, .inl v_w)), (a_past, .inl (cI, 4080, .inl v_past)), (a_images, .inl (cI, 1020, .inl v_images)), (a_text, .inl (cI, 140, .inl v_text)), (a_rowOf, .inl (cI, 120, .inl v_rowOf)), (a_readLetter, .inl (cI, 120, .inl v_readLetter)), (a_readCue, .inl (cI, 120, .inl v_readCue)), (a_readPassage, .inl (cI, 120, .inl v_readPassage)), (a_held, .inl (cI, 510, .inl v_held))])) (vp_Si (fun q => r = q)) 0 0 (fun _ => False) := by
  refine Met.ofW (cc := cX4_scoreOf) (maxL := 3) (ret := (some .int)) (by decide) rfl ?_
  intro p e s m args below meth c s₁ B hml hv
  obtain ⟨rfl, hP, hK, hN⟩ := hv
  have hx := B.exec
  have hb := B.bytes
  have hr := B.returns
  have hts := atoms_spec (ws := wsX4_scoreOf) B.pre
  have hown : s.vm.findClass RX4 = some m.cls := findClass_of_methodNamed B.named
  have hlocks := B.notSynchronized
  obtain ⟨Q, hQ⟩ : ∃ Q, Q = MQ below (vp_Si (fun q => r = q)) ([.ref aM, .int p1] : List Value).toArray s 0 0 (fun _ => False) := ⟨_, rfl⟩
  rw [← hQ]
  have hS : va_S (fun _ => False) s.heap s.heap [] := va_S.rf
  have fl7 := hts (.fieldLink RX4 7 "TeleprompterModel" "w" "[I") (by decide +kernel)
  have inX4 : ∀ w ∈ u_ws RX4 TX4 19, w ∈ wsX4_scoreOf := by decide +kernel
  have hl := lv_entry ([.ref aM, .int p1]) (n := 3) (Nat.le_of_ble_eq_true rfl)
  rw [lg_entry_eq]
  generalize (lg_sl ([.ref aM, .int p1]) ++ List.replicate (3 - (lg_sl ([.ref aM, .int p1])).length) Slot.unset).toArray = ls at hl ⊢
  have hl : lv_has ls 3 [(0, .ref aM), (1, .int p1)] := hl
  have B2 : ∀ (n_2 : Nat) (x1_2 : Int32) (x2_2 : Int32), f_X4_scoreOf_2 v_w x1_2 n_2 x2_2 = some r → ∀ ls : Array Slot, lv_has ls 3 [(0, .ref aM), (1, .int x1_2), (2, .int x2_2)] → W p l e (headSpec wsX4_scoreOf rm_X4_scoreOf).room s m ([.ref aM, .int p1] : List Value).toArray below meth c s.heap [] 0 0 Q (F0 m 2 ls []) := by
    intro n_2
    induction n_2 with
    | zero => intro x1_2 x2_2 hF; exact noneE hF
    | succ n_2 ih2 =>
      intro x1_2 x2_2 hF ls hl
      rw [f_X4_scoreOf_2] at hF
      refine lv_iload_n hx hb dX4_scoreOf_2 rfl (lv_at hl 2 rfl) ?_
      refine lv_iconst (v := (3 : Int32)) hx hb dX4_scoreOf_3 (by decide) ?_
      refine lv_icmp_gt (tgt := 56) hx hb dX4_scoreOf_4 (by decide) (fun c_4 => ?_) (fun c_4 => ?_)
      · have hF := (if_pos c_4).symm.trans hF
        refine lv_iload_n hx hb dX4_scoreOf_56 rfl (lv_at hl 2 rfl) ?_
        have hF : some x2_2 = some r := hF
        cases hF
        subst hQ
        exact W.iret hx hb hr (fun t ht hW => ⟨_, rfl, rfl, ht⟩) (fun q hq => absurd hq List.not_mem_nil) dX4_scoreOf_57
      · have hF := (if_neg c_4).symm.trans hF
        refine lv_iload_n hx hb dX4_scoreOf_7 rfl (lv_at hl 2 rfl) ?_
        refine lv_aload_n hx hb dX4_scoreOf_8 rfl (lv_at hl 0 rfl) ?_
        refine va_get (D := (dC, dI)) (ci := 4) (v := .ref a_w) (C := RX4) (T := TX4) (N := 19) hx hb hts inX4 hown hK hP 0 rfl rfl 0 (by decide) fl7 (fun _ h9 => h9) rfl dX4_scoreOf_9 ?_
        refine lv_bipush (v := (20 : Int32)) hx hb dX4_scoreOf_12 (by decide) ?_
        refine va_ialdK hx hb hK hP 1 0 rfl rfl (inK (by decide)) (j := 20) (by decide) dX4_scoreOf_14 ?_
        refine lv_icmp_gt (tgt := 56) hx hb dX4_scoreOf_15 (by decide) (fun c_15 => ?_) (fun c_15 => ?_)
        · have hF := (if_pos c_15).symm.trans hF
          refine lv_iload_n hx hb dX4_scoreOf_56 rfl (lv_at hl 2 rfl) ?_
          have hF : some x2_2 = some r := hF
          cases hF
          subst hQ
          exact W.iret hx hb hr (fun t ht hW => ⟨_, rfl, rfl, ht⟩) (fun q hq => absurd hq List.not_mem_nil) dX4_scoreOf_57
        · have hF := (if_neg c_15).symm.trans hF
          refine lv_iload_n hx hb dX4_scoreOf_18 rfl (lv_at hl 1 rfl) ?_
          refine lv_iload_n hx hb dX4_scoreOf_19 rfl (lv_at hl 2 rfl) ?_
          refine lv_isub hx hb dX4_scoreOf_20 ?_
          refine lv_if_lt (tgt := 56) hx hb dX4_scoreOf_21 (by decide) (fun c_21 => ?_) (fun c_21 => ?_)
          · have hF := (if_pos c_21).symm.trans hF
            refine lv_iload_n hx hb dX4_scoreOf_56 rfl (lv_at hl 2 rfl) ?_
            have hF : some x2_2 = some r := hF
            cases hF
            subst hQ
            exact W.iret hx hb hr (fun t ht hW => ⟨_, rfl, rfl, ht⟩) (fun q hq => absurd hq List.not_mem_nil) dX4_scoreOf_57
          · have hF := (if_neg c_21).symm.trans hF
            refine lv_aload_n hx hb dX4_scoreOf_24 rfl (lv_at hl 0 rfl) ?_
            refine va_get (D := (dC, dI)) (ci := 4) (v := .ref a_w) (C := RX4) (T := TX4) (N := 19) hx hb hts inX4 hown hK hP 0 rfl rfl 0 (by decide) fl7 (fun _ h9 => h9) rfl dX4_scoreOf_25 ?_
            refine lv_sipush (v := (150 : Int32)) hx hb dX4_scoreOf_28 (by decide) ?_
            refine lv_iload_n hx hb dX4_scoreOf_31 rfl (lv_at hl 1 rfl) ?_
            refine lv_iadd hx hb dX4_scoreOf_32 ?_
            refine lv_iload_n hx hb dX4_scoreOf_33 rfl (lv_at hl 2 rfl) ?_
            refine lv_isub hx hb dX4_scoreOf_34 ?_
            by_cases b_35 : ((((150 : Int32) + x1_2) - x2_2) < 0 ∨ 510 ≤ ((((150 : Int32) + x1_2) - x2_2)).toNatClampNeg)
            · exact noneE ((if_pos b_35).symm.trans hF)
            have hF := (if_neg b_35).symm.trans hF
            refine va_iald hx hb hK hP 1 0 rfl rfl b_35 dX4_scoreOf_35 ?_
            refine lv_aload_n hx hb dX4_scoreOf_36 rfl (lv_at hl 0 rfl) ?_
            refine va_get (D := (dC, dI)) (ci := 4) (v := .ref a_w) (C := RX4) (T := TX4) (N := 19) hx hb hts inX4 hown hK hP 0 rfl rfl 0 (by decide) fl7 (fun _ h9 => h9) rfl dX4_scoreOf_37 ?_
            refine lv_bipush (v := (21 : Int32)) hx hb dX4_scoreOf_40 (by decide) ?_
            refine lv_iload_n hx hb dX4_scoreOf_42 rfl (lv_at hl 2 rfl) ?_
            refine lv_iadd hx hb dX4_scoreOf_43 ?_
            refine lv_iconst (v := (1 : Int32)) hx hb dX4_scoreOf_44 (by decide) ?_
            refine lv_isub hx hb dX4_scoreOf_45 ?_
            by_cases b_46 : ((((21 : Int32) + x2_2) - (1 : Int32)) < 0 ∨ 510 ≤ ((((21 : Int32) + x2_2) - (1 : Int32))).toNatClampNeg)
            · exact noneE ((if_pos b_46).symm.trans hF)
            have hF := (if_neg b_46).symm.trans hF
            refine va_iald hx hb hK hP 1 0 rfl rfl b_46 dX4_scoreOf_46 ?_
            refine lv_icmp_ne (tgt := 56) hx hb dX4_scoreOf_47 (by decide) (fun c_47 => ?_) (fun c_47 => ?_)
            · have hF := (if_neg c_47).symm.trans hF
              refine lv_iload_n hx hb dX4_scoreOf_56 rfl (lv_at hl 2 rfl) ?_
              have hF : some x2_2 = some r := hF
              cases hF
              subst hQ
              exact W.iret hx hb hr (fun t ht hW => ⟨_, rfl, rfl, ht⟩) (fun q hq => absurd hq List.not_mem_nil) dX4_scoreOf_57
            · have hF := (if_pos c_47).symm.trans hF
              refine lv_iinc (v := (x2_2 + 1)) (lv' := [(2, .int (x2_2 + 1)), (0, .ref aM), (1, .int x1_2)]) hx hb dX4_scoreOf_50 hl (k := 2) rfl rfl (by decide) rfl (fun ls hl => ?_)
              refine lv_goto (tgt := 2) hx hb dX4_scoreOf_53 (by decide) ?_
              exact ih2 x1_2 (x2_2 + 1) hF _ (lv_sub hl [1, 2, 0] rfl)
  unfold f_X4_scoreOf at hF
  refine lv_iconst (v := (1 : Int32)) hx hb dX4_scoreOf_0 (by decide) ?_
  refine lv_istore_n (lv' := [(2, .int (1 : Int32)), (0, .ref aM), (1, .int p1)]) hx hb dX4_scoreOf_1 rfl hl (by decide) rfl (fun ls hl => ?_)
  exact B2 gas p1 (1 : Int32) hF _ (lv_sub hl [1, 2, 0] rfl)
def f_X4_far (p1 : Int32) (v_w : (Nat → Int32)) : Option Int32 :=
  if p1 ≤ (v_w 11) then
    some ((v_w 11) - p1)
  else
    some (p1 - (v_w 11))
def rm_X4_far : Room := { frames := 0, cells := 0, slots := 0, locals := 0 }
set_option maxHeartbeats 4000000 in
set_option maxRecDepth 100000 in
theorem c_X4_far (l : Launch) (dC : Nat → ClassId) (dI : Nat → Nat → Nat) (cI cZ cO : ClassId) (aM a_w a_past a_images a_text a_rowOf a_readLetter a_readCue a_readPassage a_held : Nat) (p1 : Int32) (v_w : (Nat → Int32)) (v_past : (Nat → Int32)) (v_pastMany : Int32) (v_images : (Nat → Int32)) (v_filled : Int32) (v_text : (Nat → Int32)) (v_length : Int32) (v_faultKind : Int32) (v_faultPlace : Int32) (v_rowOf : (Nat → Int32)) (v_rows : Int32) (v_wrongKind : Int32) (v_wrongPlace : Int32) (v_readWords : Int32) (v_readPassages : Int32) (v_readLetter : (Nat → Int32)) (v_readCue : (Nat → Int32)) (v_readPassage : (Nat → Int32)) (v_held : (Nat → Int32)) (r : Int32) (hF : f_X4_far p1 v_w = some r) : Met l yX4_far wsX4_far rm_X4_far (va_Pc [.ref aM, .int p1] (rdW dC dI cI cZ cO [(aM, .inr (4, [.ref a_w, .ref a_past, .int v_pastMany, .ref a_images, .int v_filled, .ref a_text, .int v_length, .int v_faultKind, .int v_faultPlace, .ref a_rowOf, .int v_rows, .int v_wrongKind, .int v_wrongPlace, .int v_readWords, .int v_readPassages, .ref a_readLetter, .ref a_readCue, .ref a_readPassage, .ref a_held])), (a_w, .inl (cI, 510, .inl v_w)), (a_past, .inl (cI, 4080, .inl v_past)), (a_images, .inl (cI, 1020, .inl v_images)), (a_text, .inl (cI, 140, .inl v_text)), (a_rowOf, .inl (cI, 120, .inl v_rowOf)), (a_readLetter, .inl (cI, 120, .inl v_readLetter)), (a_readCue, .inl (cI, 120, .inl v_readCue)), (a_readPassage, .inl (cI, 120, .inl v_readPassage)), (a_held, .inl (cI, 510, .inl v_held))])) (vp_Si (fun q => r = q)) 0 0 (fun _ => False) := by
  refine Met.ofW (cc := cX4_far) (maxL := 2) (ret := (some .int)) (by decide) rfl ?_
  intro p e s m args below meth c s₁ B hml hv
  obtain ⟨rfl, hP, hK, hN⟩ := hv
  have hx := B.exec
  have hb := B.bytes
  have hr := B.returns
  have hts := atoms_spec (ws := wsX4_far) B.pre
  have hown : s.vm.findClass RX4 = some m.cls := findClass_of_methodNamed B.named
  have hlocks := B.notSynchronized
  obtain ⟨Q, hQ⟩ : ∃ Q, Q = MQ below (vp_Si (fun q => r = q)) ([.ref aM, .int p1] : List Value).toArray s 0 0 (fun _ => False) := ⟨_, rfl⟩
  rw [← hQ]
  have hS : va_S (fun _ => False) s.heap s.heap [] := va_S.rf
  have fl7 := hts (.fieldLink RX4 7 "TeleprompterModel" "w" "[I") (by decide +kernel)
  have inX4 : ∀ w ∈ u_ws RX4 TX4 19, w ∈ wsX4_far := by decide +kernel
  have hl := lv_entry ([.ref aM, .int p1]) (n := 2) (Nat.le_of_ble_eq_true rfl)
  rw [lg_entry_eq]
  generalize (lg_sl ([.ref aM, .int p1]) ++ List.replicate (2 - (lg_sl ([.ref aM, .int p1])).length) Slot.unset).toArray = ls at hl ⊢
  have hl : lv_has ls 2 [(0, .ref aM), (1, .int p1)] := hl
  unfold f_X4_far at hF
  refine lv_iload_n hx hb dX4_far_0 rfl (lv_at hl 1 rfl) ?_
  refine lv_aload_n hx hb dX4_far_1 rfl (lv_at hl 0 rfl) ?_
  refine va_get (D := (dC, dI)) (ci := 4) (v := .ref a_w) (C := RX4) (T := TX4) (N := 19) hx hb hts inX4 hown hK hP 0 rfl rfl 0 (by decide) fl7 (fun _ h9 => h9) rfl dX4_far_2 ?_
  refine lv_bipush (v := (11 : Int32)) hx hb dX4_far_5 (by decide) ?_
  refine va_ialdK hx hb hK hP 1 0 rfl rfl (inK (by decide)) (j := 11) (by decide) dX4_far_7 ?_
  refine lv_icmp_le (tgt := 23) hx hb dX4_far_8 (by decide) (fun c_8 => ?_) (fun c_8 => ?_)
  · have hF := (if_pos c_8).symm.trans hF
    refine lv_aload_n hx hb dX4_far_23 rfl (lv_at hl 0 rfl) ?_
    refine va_get (D := (dC, dI)) (ci := 4) (v := .ref a_w) (C := RX4) (T := TX4) (N := 19) hx hb hts inX4 hown hK hP 0 rfl rfl 0 (by decide) fl7 (fun _ h9 => h9) rfl dX4_far_24 ?_
    refine lv_bipush (v := (11 : Int32)) hx hb dX4_far_27 (by decide) ?_
    refine va_ialdK hx hb hK hP 1 0 rfl rfl (inK (by decide)) (j := 11) (by decide) dX4_far_29 ?_
    refine lv_iload_n hx hb dX4_far_30 rfl (lv_at hl 1 rfl) ?_
    refine lv_isub hx hb dX4_far_31 ?_
    have hF : some ((v_w 11) - p1) = some r := hF
    cases hF
    subst hQ
    exact W.iret hx hb hr (fun t ht hW => ⟨_, rfl, rfl, ht⟩) (fun q hq => absurd hq List.not_mem_nil) dX4_far_32
  · have hF := (if_neg c_8).symm.trans hF
    refine lv_iload_n hx hb dX4_far_11 rfl (lv_at hl 1 rfl) ?_
    refine lv_aload_n hx hb dX4_far_12 rfl (lv_at hl 0 rfl) ?_
    refine va_get (D := (dC, dI)) (ci := 4) (v := .ref a_w) (C := RX4) (T := TX4) (N := 19) hx hb hts inX4 hown hK hP 0 rfl rfl 0 (by decide) fl7 (fun _ h9 => h9) rfl dX4_far_13 ?_
    refine lv_bipush (v := (11 : Int32)) hx hb dX4_far_16 (by decide) ?_
    refine va_ialdK hx hb hK hP 1 0 rfl rfl (inK (by decide)) (j := 11) (by decide) dX4_far_18 ?_
    refine lv_isub hx hb dX4_far_19 ?_
    refine lv_goto (tgt := 32) hx hb dX4_far_20 (by decide) ?_
    have hF : some (p1 - (v_w 11)) = some r := hF
    cases hF
    subst hQ
    exact W.iret hx hb hr (fun t ht hW => ⟨_, rfl, rfl, ht⟩) (fun q hq => absurd hq List.not_mem_nil) dX4_far_32
def f_X4_bestOf_108 (k5 : Int32 → Int32 → Option Int32) (x2 : Int32) (x3 : Int32) (s0 : Int32) : Option Int32 :=
  if s0 = (0 : Int32) then
      k5 x2 (x3 + 1)
    else
      k5 x3 (x3 + 1)
def f_X4_bestOf_103 (k5 : Int32 → Int32 → Option Int32) (x2 : Int32) (x3 : Int32) : Option Int32 :=
  f_X4_bestOf_108 k5 x2 x3 (1 : Int32)
def f_X4_bestOf_107 (k5 : Int32 → Int32 → Option Int32) (x2 : Int32) (x3 : Int32) : Option Int32 :=
  f_X4_bestOf_108 k5 x2 x3 (0 : Int32)
def f_X4_bestOf_5 (v_w : (Nat → Int32)) (x1 : Int32) : Nat → Int32 → Int32 → Option Int32
  | 0, _, _ => none
  | n + 1, x2, x3 =>
    if (v_w 9) ≤ x3 then
      some x2
    else
      if ((150 : Int32) + x3) < 0 ∨ 510 ≤ (((150 : Int32) + x3)).toNatClampNeg then none else
      if (v_w ((((150 : Int32) + x3)).toNatClampNeg)) = x1 then
        (f_X4_isIn (x3 - (v_w 11)) (-(v_w 3)) (v_w 4)).bind fun q52 =>
        if q52 = (0 : Int32) then
          f_X4_bestOf_5 v_w x1 n x2 (x3 + 1)
        else
          if x2 = (-9 : Int32) then
            f_X4_bestOf_103 (f_X4_bestOf_5 v_w x1 n) x2 x3
          else
            (f_X4_scoreOf x3 v_w).bind fun q66 =>
            (f_X4_scoreOf x2 v_w).bind fun q71 =>
            if q71 < q66 then
              f_X4_bestOf_103 (f_X4_bestOf_5 v_w x1 n) x2 x3
            else
              (f_X4_scoreOf x3 v_w).bind fun q79 =>
              (f_X4_scoreOf x2 v_w).bind fun q84 =>
              if q79 = q84 then
                (f_X4_far x3 v_w).bind fun q92 =>
                (f_X4_far x2 v_w).bind fun q97 =>
                if q97 ≤ q92 then
                  f_X4_bestOf_107 (f_X4_bestOf_5 v_w x1 n) x2 x3
                else
                  f_X4_bestOf_103 (f_X4_bestOf_5 v_w x1 n) x2 x3
              else
                f_X4_bestOf_107 (f_X4_bestOf_5 v_w x1 n) x2 x3
      else
        f_X4_bestOf_5 v_w x1 n x2 (x3 + 1)
def f_X4_bestOf (p1 : Int32) (v_w : (Nat → Int32)) : Option Int32 :=
  f_X4_bestOf_5 v_w p1 gas (-9 : Int32) (0 : Int32)
def rm_X4_bestOf : Room := { frames := 1, cells := 0, slots := 0, locals := 22 }
set_option maxHeartbeats 4000000 in
set_option maxRecDepth 100000 in
theorem c_X4_bestOf (l : Launch) (dC : Nat → ClassId) (dI : Nat → Nat → Nat) (cI cZ cO : ClassId) (aM a_w a_past a_images a_text a_rowOf a_readLetter a_readCue a_readPassage a_held : Nat) (p1 : Int32) (v_w : (Nat → Int32)) (v_past : (Nat → Int32)) (v_pastMany : Int32) (v_images : (Nat → Int32)) (v_filled : Int32) (v_text : (Nat → Int32)) (v_length : Int32) (v_faultKind : Int32) (v_faultPlace : Int32) (v_rowOf : (Nat → Int32)) (v_rows : Int32) (v_wrongKind : Int32) (v_wrongPlace : Int32) (v_readWords : Int32) (v_readPassages : Int32) (v_readLetter : (Nat → Int32)) (v_readCue : (Nat → Int32)) (v_readPassage : (Nat → Int32)) (v_held : (Nat → Int32)) (r : Int32) (hF : f_X4_bestOf p1 v_w = some r) : Met l yX4_bestOf wsX4_bestOf rm_X4_bestOf (va_Pc [.ref aM, .int p1] (rdW dC dI cI cZ cO [(aM, .inr (4, [.ref a_w, .ref a_past, .int v_pastMany, .ref a_images, .int v_filled, .ref a_text, .int v_length, .int v_faultKind, .int v_faultPlace, .ref a_rowOf, .int v_rows, .int v_wrongKind, .int v_wrongPlace, .int v_readWords, .int v_readPassages, .ref a_readLetter, .ref a_readCue, .ref a_readPassage, .ref a_held])), (a_w, .inl (cI, 510, .inl v_w)), (a_past, .inl (cI, 4080, .inl v_past)), (a_images, .inl (cI, 1020, .inl v_images)), (a_text, .inl (cI, 140, .inl v_text)), (a_rowOf, .inl (cI, 120, .inl v_rowOf)), (a_readLetter, .inl (cI, 120, .inl v_readLetter)), (a_readCue, .inl (cI, 120, .inl v_readCue)), (a_readPassage, .inl (cI, 120, .inl v_readPassage)), (a_held, .inl (cI, 510, .inl v_held))])) (vp_Si (fun q => r = q)) 0 0 (fun _ => False) := by
  refine Met.ofW (cc := cX4_bestOf) (maxL := 5) (ret := (some .int)) (by decide) rfl ?_
  intro p e s m args below meth c s₁ B hml hv
  obtain ⟨rfl, hP, hK, hN⟩ := hv
  have hx := B.exec
  have hb := B.bytes
  have hr := B.returns
  have hts := atoms_spec (ws := wsX4_bestOf) B.pre
  have hown : s.vm.findClass RX4 = some m.cls := findClass_of_methodNamed B.named
  have hlocks := B.notSynchronized
  obtain ⟨Q, hQ⟩ : ∃ Q, Q = MQ below (vp_Si (fun q => r = q)) ([.ref aM, .int p1] : List Value).toArray s 0 0 (fun _ => False) := ⟨_, rfl⟩
  rw [← hQ]
  have hS : va_S (fun _ => False) s.heap s.heap [] := va_S.rf
  have fl7 := hts (.fieldLink RX4 7 "TeleprompterModel" "w" "[I") (by decide +kernel)
  have inX4 : ∀ w ∈ u_ws RX4 TX4 19, w ∈ wsX4_bestOf := by decide +kernel
  have hl := lv_entry ([.ref aM, .int p1]) (n := 5) (Nat.le_of_ble_eq_true rfl)
  rw [lg_entry_eq]
  generalize (lg_sl ([.ref aM, .int p1]) ++ List.replicate (5 - (lg_sl ([.ref aM, .int p1])).length) Slot.unset).toArray = ls at hl ⊢
  have hl : lv_has ls 5 [(0, .ref aM), (1, .int p1)] := hl
  have B5 : ∀ (n_5 : Nat) (x1_5 : Int32) (x2_5 : Int32) (x3_5 : Int32), f_X4_bestOf_5 v_w x1_5 n_5 x2_5 x3_5 = some r → ∀ ls : Array Slot, lv_has ls 5 [(0, .ref aM), (1, .int x1_5), (2, .int x2_5), (3, .int x3_5)] → W p l e (headSpec wsX4_bestOf rm_X4_bestOf).room s m ([.ref aM, .int p1] : List Value).toArray below meth c s.heap [] 0 0 Q (F0 m 5 ls []) := by
    intro n_5
    induction n_5 with
    | zero => intro x1_5 x2_5 x3_5 hF; exact noneE hF
    | succ n_5 ih5 =>
      intro x1_5 x2_5 x3_5 hF ls hl
      have B108 : ∀ (x2_108 : Int32) (x3_108 : Int32) (s0_108 : Int32), f_X4_bestOf_108 (f_X4_bestOf_5 v_w x1_5 n_5) x2_108 x3_108 s0_108 = some r → ∀ ls : Array Slot, lv_has ls 5 [(0, .ref aM), (1, .int x1_5), (2, .int x2_108), (3, .int x3_108)] → W p l e (headSpec wsX4_bestOf rm_X4_bestOf).room s m ([.ref aM, .int p1] : List Value).toArray below meth c s.heap [] 0 0 Q (F0 m 108 ls [.int s0_108]) := by
        intro x2_108 x3_108 s0_108 hF ls hl
        unfold f_X4_bestOf_108 at hF
        refine lv_istore (lv' := [(4, .int s0_108), (0, .ref aM), (1, .int x1_5), (2, .int x2_108), (3, .int x3_108)]) hx hb dX4_bestOf_108 hl (by decide) rfl (fun ls hl => ?_)
        refine lv_iload hx hb dX4_bestOf_110 (lv_at hl 0 rfl) ?_
        refine lv_if_eq (tgt := 119) hx hb dX4_bestOf_112 (by decide) (fun c_112 => ?_) (fun c_112 => ?_)
        · have hF := (if_pos c_112).symm.trans hF
          refine lv_iload_n hx hb dX4_bestOf_119 rfl (lv_at hl 3 rfl) ?_
          refine lv_istore_n (lv' := [(2, .int x2_108), (4, .int s0_108), (0, .ref aM), (1, .int x1_5), (3, .int x3_108)]) hx hb dX4_bestOf_120 rfl hl (by decide) rfl (fun ls hl => ?_)
          refine lv_iinc (v := (x3_108 + 1)) (lv' := [(3, .int (x3_108 + 1)), (2, .int x2_108), (4, .int s0_108), (0, .ref aM), (1, .int x1_5)]) hx hb dX4_bestOf_121 hl (k := 4) rfl rfl (by decide) rfl (fun ls hl => ?_)
          refine lv_goto (tgt := 5) hx hb dX4_bestOf_124 (by decide) ?_
          exact ih5 x1_5 x2_108 (x3_108 + 1) hF _ (lv_sub hl [3, 4, 1, 0] rfl)
        · have hF := (if_neg c_112).symm.trans hF
          refine lv_iload_n hx hb dX4_bestOf_115 rfl (lv_at hl 4 rfl) ?_
          refine lv_goto (tgt := 120) hx hb dX4_bestOf_116 (by decide) ?_
          refine lv_istore_n (lv' := [(2, .int x3_108), (4, .int s0_108), (0, .ref aM), (1, .int x1_5), (3, .int x3_108)]) hx hb dX4_bestOf_120 rfl hl (by decide) rfl (fun ls hl => ?_)
          refine lv_iinc (v := (x3_108 + 1)) (lv' := [(3, .int (x3_108 + 1)), (2, .int x3_108), (4, .int s0_108), (0, .ref aM), (1, .int x1_5)]) hx hb dX4_bestOf_121 hl (k := 4) rfl rfl (by decide) rfl (fun ls hl => ?_)
          refine lv_goto (tgt := 5) hx hb dX4_bestOf_124 (by decide) ?_
          exact ih5 x1_5 x3_108 (x3_108 + 1) hF _ (lv_sub hl [3, 4, 1, 0] rfl)
      have B107 : ∀ (x2_107 : Int32) (x3_107 : Int32), f_X4_bestOf_107 (f_X4_bestOf_5 v_w x1_5 n_5) x2_107 x3_107 = some r → ∀ ls : Array Slot, lv_has ls 5 [(0, .ref aM), (1, .int x1_5), (2, .int x2_107), (3, .int x3_107)] → W p l e (headSpec wsX4_bestOf rm_X4_bestOf).room s m ([.ref aM, .int p1] : List Value).toArray below meth c s.heap [] 0 0 Q (F0 m 107 ls []) := by
        intro x2_107 x3_107 hF ls hl
        unfold f_X4_bestOf_107 at hF
        refine lv_iconst (v := (0 : Int32)) hx hb dX4_bestOf_107 (by decide) ?_
        exact B108 x2_107 x3_107 (0 : Int32) hF _ (lv_sub hl [0, 1, 2, 3] rfl)
      have B103 : ∀ (x2_103 : Int32) (x3_103 : Int32), f_X4_bestOf_103 (f_X4_bestOf_5 v_w x1_5 n_5) x2_103 x3_103 = some r → ∀ ls : Array Slot, lv_has ls 5 [(0, .ref aM), (1, .int x1_5), (2, .int x2_103), (3, .int x3_103)] → W p l e (headSpec wsX4_bestOf rm_X4_bestOf).room s m ([.ref aM, .int p1] : List Value).toArray below meth c s.heap [] 0 0 Q (F0 m 103 ls []) := by
        intro x2_103 x3_103 hF ls hl
        unfold f_X4_bestOf_103 at hF
        refine lv_iconst (v := (1 : Int32)) hx hb dX4_bestOf_103 (by decide) ?_
        refine lv_goto (tgt := 108) hx hb dX4_bestOf_104 (by decide) ?_
        exact B108 x2_103 x3_103 (1 : Int32) hF _ (lv_sub hl [0, 1, 2, 3] rfl)
      rw [f_X4_bestOf_5] at hF
      refine lv_iload_n hx hb dX4_bestOf_5 rfl (lv_at hl 3 rfl) ?_
      refine lv_aload_n hx hb dX4_bestOf_6 rfl (lv_at hl 0 rfl) ?_
      refine va_get (D := (dC, dI)) (ci := 4) (v := .ref a_w) (C := RX4) (T := TX4) (N := 19) hx hb hts inX4 hown hK hP 0 rfl rfl 0 (by decide) fl7 (fun _ h9 => h9) rfl dX4_bestOf_7 ?_
      refine lv_bipush (v := (9 : Int32)) hx hb dX4_bestOf_10 (by decide) ?_
      refine va_ialdK hx hb hK hP 1 0 rfl rfl (inK (by decide)) (j := 9) (by decide) dX4_bestOf_12 ?_
      refine lv_icmp_ge (tgt := 127) hx hb dX4_bestOf_13 (by decide) (fun c_13 => ?_) (fun c_13 => ?_)
      · have hF := (if_pos c_13).symm.trans hF
        refine lv_iload_n hx hb dX4_bestOf_127 rfl (lv_at hl 2 rfl) ?_
        have hF : some x2_5 = some r := hF
        cases hF
        subst hQ
        exact W.iret hx hb hr (fun t ht hW => ⟨_, rfl, rfl, ht⟩) (fun q hq => absurd hq List.not_mem_nil) dX4_bestOf_128
      · have hF := (if_neg c_13).symm.trans hF
        refine lv_aload_n hx hb dX4_bestOf_16 rfl (lv_at hl 0 rfl) ?_
        refine va_get (D := (dC, dI)) (ci := 4) (v := .ref a_w) (C := RX4) (T := TX4) (N := 19) hx hb hts inX4 hown hK hP 0 rfl rfl 0 (by decide) fl7 (fun _ h9 => h9) rfl dX4_bestOf_17 ?_
        refine lv_sipush (v := (150 : Int32)) hx hb dX4_bestOf_20 (by decide) ?_
        refine lv_iload_n hx hb dX4_bestOf_23 rfl (lv_at hl 3 rfl) ?_
        refine lv_iadd hx hb dX4_bestOf_24 ?_
        by_cases b_25 : (((150 : Int32) + x3_5) < 0 ∨ 510 ≤ (((150 : Int32) + x3_5)).toNatClampNeg)
        · exact noneE ((if_pos b_25).symm.trans hF)
        have hF := (if_neg b_25).symm.trans hF
        refine va_iald hx hb hK hP 1 0 rfl rfl b_25 dX4_bestOf_25 ?_
        refine lv_iload_n hx hb dX4_bestOf_26 rfl (lv_at hl 1 rfl) ?_
        refine lv_icmp_ne (tgt := 121) hx hb dX4_bestOf_27 (by decide) (fun c_27 => ?_) (fun c_27 => ?_)
        · have hF := (if_neg c_27).symm.trans hF
          refine lv_iinc (v := (x3_5 + 1)) (lv' := [(3, .int (x3_5 + 1)), (0, .ref aM), (1, .int x1_5), (2, .int x2_5)]) hx hb dX4_bestOf_121 hl (k := 3) rfl rfl (by decide) rfl (fun ls hl => ?_)
          refine lv_goto (tgt := 5) hx hb dX4_bestOf_124 (by decide) ?_
          exact ih5 x1_5 x2_5 (x3_5 + 1) hF _ (lv_sub hl [1, 2, 3, 0] rfl)
        · have hF := (if_pos c_27).symm.trans hF
          refine lv_iload_n hx hb dX4_bestOf_30 rfl (lv_at hl 3 rfl) ?_
          refine lv_aload_n hx hb dX4_bestOf_31 rfl (lv_at hl 0 rfl) ?_
          refine va_get (D := (dC, dI)) (ci := 4) (v := .ref a_w) (C := RX4) (T := TX4) (N := 19) hx hb hts inX4 hown hK hP 0 rfl rfl 0 (by decide) fl7 (fun _ h9 => h9) rfl dX4_bestOf_32 ?_
          refine lv_bipush (v := (11 : Int32)) hx hb dX4_bestOf_35 (by decide) ?_
          refine va_ialdK hx hb hK hP 1 0 rfl rfl (inK (by decide)) (j := 11) (by decide) dX4_bestOf_37 ?_
          refine lv_isub hx hb dX4_bestOf_38 ?_
          refine lv_aload_n hx hb dX4_bestOf_39 rfl (lv_at hl 0 rfl) ?_
          refine va_get (D := (dC, dI)) (ci := 4) (v := .ref a_w) (C := RX4) (T := TX4) (N := 19) hx hb hts inX4 hown hK hP 0 rfl rfl 0 (by decide) fl7 (fun _ h9 => h9) rfl dX4_bestOf_40 ?_
          refine lv_iconst (v := (3 : Int32)) hx hb dX4_bestOf_43 (by decide) ?_
          refine va_ialdK hx hb hK hP 1 0 rfl rfl (inK (by decide)) (j := 3) (by decide) dX4_bestOf_44 ?_
          refine lv_ineg hx hb dX4_bestOf_45 ?_
          refine lv_aload_n hx hb dX4_bestOf_46 rfl (lv_at hl 0 rfl) ?_
          refine va_get (D := (dC, dI)) (ci := 4) (v := .ref a_w) (C := RX4) (T := TX4) (N := 19) hx hb hts inX4 hown hK hP 0 rfl rfl 0 (by decide) fl7 (fun _ h9 => h9) rfl dX4_bestOf_47 ?_
          refine lv_iconst (v := (4 : Int32)) hx hb dX4_bestOf_50 (by decide) ?_
          refine va_ialdK hx hb hK hP 1 0 rfl rfl (inK (by decide)) (j := 4) (by decide) dX4_bestOf_51 ?_
          obtain ⟨q_52, hq_52, hF⟩ := bindE hF
          have hPc := hP.sub (ws' := []) [] rfl
          refine vp_callSi (va_Run.run (va_runS (As := [.int (x3_5 - (v_w 11)), .int (-(v_w 3)), .int (v_w 4)]) (rest := []) ⟨hx, hb, hml, hown, hts⟩ (c_X4_isIn l dC dI cI cZ cO (x3_5 - (v_w 11)) (-(v_w 3)) (v_w 4) q_52 hq_52) (cwS 3 hts gX4_bestOf_X4_isIn rfl rfl rfl (by decide +kernel) ⟨Nat.le_of_ble_eq_true rfl, Nat.le_of_ble_eq_true rfl⟩) ⟨fb_rd, pre_rd hPc hK hN⟩ rfl rfl hl.1 rfl (lv_room (Nat.le_of_ble_eq_true rfl)) dX4_bestOf_52 ⟨Nat.zero_le _, Nat.zero_le _⟩)) (fun z_52 hz_52 => ?_)
          subst hz_52
          refine lv_if_eq (tgt := 121) hx hb dX4_bestOf_55 (by decide) (fun c_55 => ?_) (fun c_55 => ?_)
          · have hF := (if_pos c_55).symm.trans hF
            refine lv_iinc (v := (x3_5 + 1)) (lv' := [(3, .int (x3_5 + 1)), (0, .ref aM), (1, .int x1_5), (2, .int x2_5)]) hx hb dX4_bestOf_121 hl (k := 3) rfl rfl (by decide) rfl (fun ls hl => ?_)
            refine lv_goto (tgt := 5) hx hb dX4_bestOf_124 (by decide) ?_
            exact ih5 x1_5 x2_5 (x3_5 + 1) hF _ (lv_sub hl [1, 2, 3, 0] rfl)
          · have hF := (if_neg c_55).symm.trans hF
            refine lv_iload_n hx hb dX4_bestOf_58 rfl (lv_at hl 2 rfl) ?_
            refine lv_bipush (v := (-9 : Int32)) hx hb dX4_bestOf_59 (by decide) ?_
            refine lv_icmp_eq (tgt := 103) hx hb dX4_bestOf_61 (by decide) (fun c_61 => ?_) (fun c_61 => ?_)
            · have hF := (if_pos c_61).symm.trans hF
              exact B103 x2_5 x3_5 hF _ (lv_sub hl [0, 1, 2, 3] rfl)
            · have hF := (if_neg c_61).symm.trans hF
              refine lv_aload_n hx hb dX4_bestOf_64 rfl (lv_at hl 0 rfl) ?_
              refine lv_iload_n hx hb dX4_bestOf_65 rfl (lv_at hl 3 rfl) ?_
              obtain ⟨q_66, hq_66, hF⟩ := bindE hF
              have hPc := hP
              refine vp_callSi (va_Run.run (va_runV (As := [.int x3_5]) (rest := []) ⟨hx, hb, hml, hown, hts⟩ (c_X4_scoreOf l dC dI cI cZ cO aM a_w a_past a_images a_text a_rowOf a_readLetter a_readCue a_readPassage a_held x3_5 v_w v_past v_pastMany v_images v_filled v_text v_length v_faultKind v_faultPlace v_rowOf v_rows v_wrongKind v_wrongPlace v_readWords v_readPassages v_readLetter v_readCue v_readPassage v_held q_66 hq_66) (cwV 1 hts gX4_bestOf_X4_scoreOf rfl rfl rfl (by decide +kernel) ⟨Nat.le_of_ble_eq_true rfl, Nat.le_of_ble_eq_true rfl⟩) ⟨fb_rd, va_recv hK hPc (ci := 4) (q0 := 0) rfl rfl, pre_rd hPc hK hN⟩ rfl rfl hl.1 rfl (lv_room (Nat.le_of_ble_eq_true rfl)) dX4_bestOf_66 ⟨Nat.zero_le _, Nat.zero_le _⟩)) (fun z_66 hz_66 => ?_)
              subst hz_66
              refine lv_aload_n hx hb dX4_bestOf_69 rfl (lv_at hl 0 rfl) ?_
              refine lv_iload_n hx hb dX4_bestOf_70 rfl (lv_at hl 2 rfl) ?_
              obtain ⟨q_71, hq_71, hF⟩ := bindE hF
              have hPc := hP
              refine vp_callSi (va_Run.run (va_runV (As := [.int x2_5]) (rest := [.int q_66]) ⟨hx, hb, hml, hown, hts⟩ (c_X4_scoreOf l dC dI cI cZ cO aM a_w a_past a_images a_text a_rowOf a_readLetter a_readCue a_readPassage a_held x2_5 v_w v_past v_pastMany v_images v_filled v_text v_length v_faultKind v_faultPlace v_rowOf v_rows v_wrongKind v_wrongPlace v_readWords v_readPassages v_readLetter v_readCue v_readPassage v_held q_71 hq_71) (cwV 1 hts gX4_bestOf_X4_scoreOf rfl rfl rfl (by decide +kernel) ⟨Nat.le_of_ble_eq_true rfl, Nat.le_of_ble_eq_true rfl⟩) ⟨fb_rd, va_recv hK hPc (ci := 4) (q0 := 0) rfl rfl, pre_rd hPc hK hN⟩ rfl rfl hl.1 rfl (lv_room (Nat.le_of_ble_eq_true rfl)) dX4_bestOf_71 ⟨Nat.zero_le _, Nat.zero_le _⟩)) (fun z_71 hz_71 => ?_)
              subst hz_71
              refine lv_icmp_gt (tgt := 103) hx hb dX4_bestOf_74 (by decide) (fun c_74 => ?_) (fun c_74 => ?_)
              · have hF := (if_pos c_74).symm.trans hF
                exact B103 x2_5 x3_5 hF _ (lv_sub hl [0, 1, 2, 3] rfl)
              · have hF := (if_neg c_74).symm.trans hF
                refine lv_aload_n hx hb dX4_bestOf_77 rfl (lv_at hl 0 rfl) ?_
                refine lv_iload_n hx hb dX4_bestOf_78 rfl (lv_at hl 3 rfl) ?_
                obtain ⟨q_79, hq_79, hF⟩ := bindE hF
                have hPc := hP
                refine vp_callSi (va_Run.run (va_runV (As := [.int x3_5]) (rest := []) ⟨hx, hb, hml, hown, hts⟩ (c_X4_scoreOf l dC dI cI cZ cO aM a_w a_past a_images a_text a_rowOf a_readLetter a_readCue a_readPassage a_held x3_5 v_w v_past v_pastMany v_images v_filled v_text v_length v_faultKind v_faultPlace v_rowOf v_rows v_wrongKind v_wrongPlace v_readWords v_readPassages v_readLetter v_readCue v_readPassage v_held q_79 hq_79) (cwV 1 hts gX4_bestOf_X4_scoreOf rfl rfl rfl (by decide +kernel) ⟨Nat.le_of_ble_eq_true rfl, Nat.le_of_ble_eq_true rfl⟩) ⟨fb_rd, va_recv hK hPc (ci := 4) (q0 := 0) rfl rfl, pre_rd hPc hK hN⟩ rfl rfl hl.1 rfl (lv_room (Nat.le_of_ble_eq_true rfl)) dX4_bestOf_79 ⟨Nat.zero_le _, Nat.zero_le _⟩)) (fun z_79 hz_79 => ?_)
                subst hz_79
                refine lv_aload_n hx hb dX4_bestOf_82 rfl (lv_at hl 0 rfl) ?_
                refine lv_iload_n hx hb dX4_bestOf_83 rfl (lv_at hl 2 rfl) ?_
                obtain ⟨q_84, hq_84, hF⟩ := bindE hF
                have hPc := hP
                refine vp_callSi (va_Run.run (va_runV (As := [.int x2_5]) (rest := [.int q_79]) ⟨hx, hb, hml, hown, hts⟩ (c_X4_scoreOf l dC dI cI cZ cO aM a_w a_past a_images a_text a_rowOf a_readLetter a_readCue a_readPassage a_held x2_5 v_w v_past v_pastMany v_images v_filled v_text v_length v_faultKind v_faultPlace v_rowOf v_rows v_wrongKind v_wrongPlace v_readWords v_readPassages v_readLetter v_readCue v_readPassage v_held q_84 hq_84) (cwV 1 hts gX4_bestOf_X4_scoreOf rfl rfl rfl (by decide +kernel) ⟨Nat.le_of_ble_eq_true rfl, Nat.le_of_ble_eq_true rfl⟩) ⟨fb_rd, va_recv hK hPc (ci := 4) (q0 := 0) rfl rfl, pre_rd hPc hK hN⟩ rfl rfl hl.1 rfl (lv_room (Nat.le_of_ble_eq_true rfl)) dX4_bestOf_84 ⟨Nat.zero_le _, Nat.zero_le _⟩)) (fun z_84 hz_84 => ?_)
                subst hz_84
                refine lv_icmp_ne (tgt := 107) hx hb dX4_bestOf_87 (by decide) (fun c_87 => ?_) (fun c_87 => ?_)
                · have hF := (if_neg c_87).symm.trans hF
                  exact B107 x2_5 x3_5 hF _ (lv_sub hl [0, 1, 2, 3] rfl)
                · have hF := (if_pos c_87).symm.trans hF
                  refine lv_aload_n hx hb dX4_bestOf_90 rfl (lv_at hl 0 rfl) ?_
                  refine lv_iload_n hx hb dX4_bestOf_91 rfl (lv_at hl 3 rfl) ?_
                  obtain ⟨q_92, hq_92, hF⟩ := bindE hF
                  have hPc := hP
                  refine vp_callSi (va_Run.run (va_runV (As := [.int x3_5]) (rest := []) ⟨hx, hb, hml, hown, hts⟩ (c_X4_far l dC dI cI cZ cO aM a_w a_past a_images a_text a_rowOf a_readLetter a_readCue a_readPassage a_held x3_5 v_w v_past v_pastMany v_images v_filled v_text v_length v_faultKind v_faultPlace v_rowOf v_rows v_wrongKind v_wrongPlace v_readWords v_readPassages v_readLetter v_readCue v_readPassage v_held q_92 hq_92) (cwV 1 hts gX4_bestOf_X4_far rfl rfl rfl (by decide +kernel) ⟨Nat.le_of_ble_eq_true rfl, Nat.le_of_ble_eq_true rfl⟩) ⟨fb_rd, va_recv hK hPc (ci := 4) (q0 := 0) rfl rfl, pre_rd hPc hK hN⟩ rfl rfl hl.1 rfl (lv_room (Nat.le_of_ble_eq_true rfl)) dX4_bestOf_92 ⟨Nat.zero_le _, Nat.zero_le _⟩)) (fun z_92 hz_92 => ?_)
                  subst hz_92
                  refine lv_aload_n hx hb dX4_bestOf_95 rfl (lv_at hl 0 rfl) ?_
                  refine lv_iload_n hx hb dX4_bestOf_96 rfl (lv_at hl 2 rfl) ?_
                  obtain ⟨q_97, hq_97, hF⟩ := bindE hF
                  have hPc := hP
                  refine vp_callSi (va_Run.run (va_runV (As := [.int x2_5]) (rest := [.int q_92]) ⟨hx, hb, hml, hown, hts⟩ (c_X4_far l dC dI cI cZ cO aM a_w a_past a_images a_text a_rowOf a_readLetter a_readCue a_readPassage a_held x2_5 v_w v_past v_pastMany v_images v_filled v_text v_length v_faultKind v_faultPlace v_rowOf v_rows v_wrongKind v_wrongPlace v_readWords v_readPassages v_readLetter v_readCue v_readPassage v_held q_97 hq_97) (cwV 1 hts gX4_bestOf_X4_far rfl rfl rfl (by decide +kernel) ⟨Nat.le_of_ble_eq_true rfl, Nat.le_of_ble_eq_true rfl⟩) ⟨fb_rd, va_recv hK hPc (ci := 4) (q0 := 0) rfl rfl, pre_rd hPc hK hN⟩ rfl rfl hl.1 rfl (lv_room (Nat.le_of_ble_eq_true rfl)) dX4_bestOf_97 ⟨Nat.zero_le _, Nat.zero_le _⟩)) (fun z_97 hz_97 => ?_)
                  subst hz_97
                  refine lv_icmp_ge (tgt := 107) hx hb dX4_bestOf_100 (by decide) (fun c_100 => ?_) (fun c_100 => ?_)
                  · have hF := (if_pos c_100).symm.trans hF
                    exact B107 x2_5 x3_5 hF _ (lv_sub hl [0, 1, 2, 3] rfl)
                  · have hF := (if_neg c_100).symm.trans hF
                    exact B103 x2_5 x3_5 hF _ (lv_sub hl [0, 1, 2, 3] rfl)
  unfold f_X4_bestOf at hF
  refine lv_bipush (v := (-9 : Int32)) hx hb dX4_bestOf_0 (by decide) ?_
  refine lv_istore_n (lv' := [(2, .int (-9 : Int32)), (0, .ref aM), (1, .int p1)]) hx hb dX4_bestOf_2 rfl hl (by decide) rfl (fun ls hl => ?_)
  refine lv_iconst (v := (0 : Int32)) hx hb dX4_bestOf_3 (by decide) ?_
  refine lv_istore_n (lv' := [(3, .int (0 : Int32)), (2, .int (-9 : Int32)), (0, .ref aM), (1, .int p1)]) hx hb dX4_bestOf_4 rfl hl (by decide) rfl (fun ls hl => ?_)
  exact B5 gas p1 (-9 : Int32) (0 : Int32) hF _ (lv_sub hl [2, 3, 1, 0] rfl)
def f_X4_isAccepted (p1 : Int32) (v_w : (Nat → Int32)) : Option Int32 :=
  if p1 = (v_w 11) then
    some (1 : Int32)
  else
    (f_X4_scoreOf p1 v_w).bind fun q13 =>
    if q13 < (v_w 5) then
      some (0 : Int32)
    else
      some (1 : Int32)
def rm_X4_isAccepted : Room := { frames := 1, cells := 0, slots := 0, locals := 22 }
set_option maxHeartbeats 4000000 in
set_option maxRecDepth 100000 in
theorem c_X4_isAccepted (l : Launch) (dC : Nat → ClassId) (dI : Nat → Nat → Nat) (cI cZ cO : ClassId) (aM a_w a_past a_images a_text a_rowOf a_readLetter a_readCue a_readPassage a_held : Nat) (p1 : Int32) (v_w : (Nat → Int32)) (v_past : (Nat → Int32)) (v_pastMany : Int32) (v_images : (Nat → Int32)) (v_filled : Int32) (v_text : (Nat → Int32)) (v_length : Int32) (v_faultKind : Int32) (v_faultPlace : Int32) (v_rowOf : (Nat → Int32)) (v_rows : Int32) (v_wrongKind : Int32) (v_wrongPlace : Int32) (v_readWords : Int32) (v_readPassages : Int32) (v_readLetter : (Nat → Int32)) (v_readCue : (Nat → Int32)) (v_readPassage : (Nat → Int32)) (v_held : (Nat → Int32)) (r : Int32) (hF : f_X4_isAccepted p1 v_w = some r) : Met l yX4_isAccepted wsX4_isAccepted rm_X4_isAccepted (va_Pc [.ref aM, .int p1] (rdW dC dI cI cZ cO [(aM, .inr (4, [.ref a_w, .ref a_past, .int v_pastMany, .ref a_images, .int v_filled, .ref a_text, .int v_length, .int v_faultKind, .int v_faultPlace, .ref a_rowOf, .int v_rows, .int v_wrongKind, .int v_wrongPlace, .int v_readWords, .int v_readPassages, .ref a_readLetter, .ref a_readCue, .ref a_readPassage, .ref a_held])), (a_w, .inl (cI, 510, .inl v_w)), (a_past, .inl (cI, 4080, .inl v_past)), (a_images, .inl (cI, 1020, .inl v_images)), (a_text, .inl (cI, 140, .inl v_text)), (a_rowOf, .inl (cI, 120, .inl v_rowOf)), (a_readLetter, .inl (cI, 120, .inl v_readLetter)), (a_readCue, .inl (cI, 120, .inl v_readCue)), (a_readPassage, .inl (cI, 120, .inl v_readPassage)), (a_held, .inl (cI, 510, .inl v_held))])) (vp_Si (fun q => r = q)) 0 0 (fun _ => False) := by
  refine Met.ofW (cc := cX4_isAccepted) (maxL := 2) (ret := (some .boolean)) (by decide) rfl ?_
  intro p e s m args below meth c s₁ B hml hv
  obtain ⟨rfl, hP, hK, hN⟩ := hv
  have hx := B.exec
  have hb := B.bytes
  have hr := B.returns
  have hts := atoms_spec (ws := wsX4_isAccepted) B.pre
  have hown : s.vm.findClass RX4 = some m.cls := findClass_of_methodNamed B.named
  have hlocks := B.notSynchronized
  obtain ⟨Q, hQ⟩ : ∃ Q, Q = MQ below (vp_Si (fun q => r = q)) ([.ref aM, .int p1] : List Value).toArray s 0 0 (fun _ => False) := ⟨_, rfl⟩
  rw [← hQ]
  have hS : va_S (fun _ => False) s.heap s.heap [] := va_S.rf
  have fl7 := hts (.fieldLink RX4 7 "TeleprompterModel" "w" "[I") (by decide +kernel)
  have inX4 : ∀ w ∈ u_ws RX4 TX4 19, w ∈ wsX4_isAccepted := by decide +kernel
  have hl := lv_entry ([.ref aM, .int p1]) (n := 2) (Nat.le_of_ble_eq_true rfl)
  rw [lg_entry_eq]
  generalize (lg_sl ([.ref aM, .int p1]) ++ List.replicate (2 - (lg_sl ([.ref aM, .int p1])).length) Slot.unset).toArray = ls at hl ⊢
  have hl : lv_has ls 2 [(0, .ref aM), (1, .int p1)] := hl
  unfold f_X4_isAccepted at hF
  refine lv_iload_n hx hb dX4_isAccepted_0 rfl (lv_at hl 1 rfl) ?_
  refine lv_aload_n hx hb dX4_isAccepted_1 rfl (lv_at hl 0 rfl) ?_
  refine va_get (D := (dC, dI)) (ci := 4) (v := .ref a_w) (C := RX4) (T := TX4) (N := 19) hx hb hts inX4 hown hK hP 0 rfl rfl 0 (by decide) fl7 (fun _ h9 => h9) rfl dX4_isAccepted_2 ?_
  refine lv_bipush (v := (11 : Int32)) hx hb dX4_isAccepted_5 (by decide) ?_
  refine va_ialdK hx hb hK hP 1 0 rfl rfl (inK (by decide)) (j := 11) (by decide) dX4_isAccepted_7 ?_
  refine lv_icmp_eq (tgt := 25) hx hb dX4_isAccepted_8 (by decide) (fun c_8 => ?_) (fun c_8 => ?_)
  · have hF := (if_pos c_8).symm.trans hF
    refine lv_iconst (v := (1 : Int32)) hx hb dX4_isAccepted_25 (by decide) ?_
    refine lv_goto (tgt := 30) hx hb dX4_isAccepted_26 (by decide) ?_
    have hF : some (1 : Int32) = some r := hF
    cases hF
    subst hQ
    exact W.zret (ty := .boolean) hx hb hr rfl (fun t ht hW => ⟨_, rfl, rfl, ht⟩) (fun q hq => absurd hq List.not_mem_nil) dX4_isAccepted_30
  · have hF := (if_neg c_8).symm.trans hF
    refine lv_aload_n hx hb dX4_isAccepted_11 rfl (lv_at hl 0 rfl) ?_
    refine lv_iload_n hx hb dX4_isAccepted_12 rfl (lv_at hl 1 rfl) ?_
    obtain ⟨q_13, hq_13, hF⟩ := bindE hF
    have hPc := hP
    refine vp_callSi (va_Run.run (va_runV (As := [.int p1]) (rest := []) ⟨hx, hb, hml, hown, hts⟩ (c_X4_scoreOf l dC dI cI cZ cO aM a_w a_past a_images a_text a_rowOf a_readLetter a_readCue a_readPassage a_held p1 v_w v_past v_pastMany v_images v_filled v_text v_length v_faultKind v_faultPlace v_rowOf v_rows v_wrongKind v_wrongPlace v_readWords v_readPassages v_readLetter v_readCue v_readPassage v_held q_13 hq_13) (cwV 1 hts gX4_isAccepted_X4_scoreOf rfl rfl rfl (by decide +kernel) ⟨Nat.le_of_ble_eq_true rfl, Nat.le_of_ble_eq_true rfl⟩) ⟨fb_rd, va_recv hK hPc (ci := 4) (q0 := 0) rfl rfl, pre_rd hPc hK hN⟩ rfl rfl hl.1 rfl (lv_room (Nat.le_of_ble_eq_true rfl)) dX4_isAccepted_13 ⟨Nat.zero_le _, Nat.zero_le _⟩)) (fun z_13 hz_13 => ?_)
    subst hz_13
    refine lv_aload_n hx hb dX4_isAccepted_16 rfl (lv_at hl 0 rfl) ?_
    refine va_get (D := (dC, dI)) (ci := 4) (v := .ref a_w) (C := RX4) (T := TX4) (N := 19) hx hb hts inX4 hown hK hP 0 rfl rfl 0 (by decide) fl7 (fun _ h9 => h9) rfl dX4_isAccepted_17 ?_
    refine lv_iconst (v := (5 : Int32)) hx hb dX4_isAccepted_20 (by decide) ?_
    refine va_ialdK hx hb hK hP 1 0 rfl rfl (inK (by decide)) (j := 5) (by decide) dX4_isAccepted_21 ?_
    refine lv_icmp_lt (tgt := 29) hx hb dX4_isAccepted_22 (by decide) (fun c_22 => ?_) (fun c_22 => ?_)
    · have hF := (if_pos c_22).symm.trans hF
      refine lv_iconst (v := (0 : Int32)) hx hb dX4_isAccepted_29 (by decide) ?_
      have hF : some (0 : Int32) = some r := hF
      cases hF
      subst hQ
      exact W.zret (ty := .boolean) hx hb hr rfl (fun t ht hW => ⟨_, rfl, rfl, ht⟩) (fun q hq => absurd hq List.not_mem_nil) dX4_isAccepted_30
    · have hF := (if_neg c_22).symm.trans hF
      refine lv_iconst (v := (1 : Int32)) hx hb dX4_isAccepted_25 (by decide) ?_
      refine lv_goto (tgt := 30) hx hb dX4_isAccepted_26 (by decide) ?_
      have hF : some (1 : Int32) = some r := hF
      cases hF
      subst hQ
      exact W.zret (ty := .boolean) hx hb hr rfl (fun t ht hW => ⟨_, rfl, rfl, ht⟩) (fun q hq => absurd hq List.not_mem_nil) dX4_isAccepted_30
def f_X4_nextCue_2 (v_w : (Nat → Int32)) : Nat → Int32 → Option Int32
  | 0, _ => none
  | n + 1, x1 =>
    if (v_w 9) ≤ x1 then
      some (-9 : Int32)
    else
      if ((270 : Int32) + x1) < 0 ∨ 510 ≤ (((270 : Int32) + x1)).toNatClampNeg then none else
      if (v_w ((((270 : Int32) + x1)).toNatClampNeg)) = (1 : Int32) then
        some x1
      else
        f_X4_nextCue_2 v_w n (x1 + 1)
def f_X4_nextCue (v_w : (Nat → Int32)) : Option Int32 :=
  f_X4_nextCue_2 v_w gas (0 : Int32)
def rm_X4_nextCue : Room := { frames := 0, cells := 0, slots := 0, locals := 0 }
set_option maxHeartbeats 4000000 in
set_option maxRecDepth 100000 in
theorem c_X4_nextCue (l : Launch) (dC : Nat → ClassId) (dI : Nat → Nat → Nat) (cI cZ cO : ClassId) (aM a_w a_past a_images a_text a_rowOf a_readLetter a_readCue a_readPassage a_held : Nat) (v_w : (Nat → Int32)) (v_past : (Nat → Int32)) (v_pastMany : Int32) (v_images : (Nat → Int32)) (v_filled : Int32) (v_text : (Nat → Int32)) (v_length : Int32) (v_faultKind : Int32) (v_faultPlace : Int32) (v_rowOf : (Nat → Int32)) (v_rows : Int32) (v_wrongKind : Int32) (v_wrongPlace : Int32) (v_readWords : Int32) (v_readPassages : Int32) (v_readLetter : (Nat → Int32)) (v_readCue : (Nat → Int32)) (v_readPassage : (Nat → Int32)) (v_held : (Nat → Int32)) (r : Int32) (hF : f_X4_nextCue v_w = some r) : Met l yX4_nextCue wsX4_nextCue rm_X4_nextCue (va_Pc [.ref aM] (rdW dC dI cI cZ cO [(aM, .inr (4, [.ref a_w, .ref a_past, .int v_pastMany, .ref a_images, .int v_filled, .ref a_text, .int v_length, .int v_faultKind, .int v_faultPlace, .ref a_rowOf, .int v_rows, .int v_wrongKind, .int v_wrongPlace, .int v_readWords, .int v_readPassages, .ref a_readLetter, .ref a_readCue, .ref a_readPassage, .ref a_held])), (a_w, .inl (cI, 510, .inl v_w)), (a_past, .inl (cI, 4080, .inl v_past)), (a_images, .inl (cI, 1020, .inl v_images)), (a_text, .inl (cI, 140, .inl v_text)), (a_rowOf, .inl (cI, 120, .inl v_rowOf)), (a_readLetter, .inl (cI, 120, .inl v_readLetter)), (a_readCue, .inl (cI, 120, .inl v_readCue)), (a_readPassage, .inl (cI, 120, .inl v_readPassage)), (a_held, .inl (cI, 510, .inl v_held))])) (vp_Si (fun q => r = q)) 0 0 (fun _ => False) := by
  refine Met.ofW (cc := cX4_nextCue) (maxL := 2) (ret := (some .int)) (by decide) rfl ?_
  intro p e s m args below meth c s₁ B hml hv
  obtain ⟨rfl, hP, hK, hN⟩ := hv
  have hx := B.exec
  have hb := B.bytes
  have hr := B.returns
  have hts := atoms_spec (ws := wsX4_nextCue) B.pre
  have hown : s.vm.findClass RX4 = some m.cls := findClass_of_methodNamed B.named
  have hlocks := B.notSynchronized
  obtain ⟨Q, hQ⟩ : ∃ Q, Q = MQ below (vp_Si (fun q => r = q)) ([.ref aM] : List Value).toArray s 0 0 (fun _ => False) := ⟨_, rfl⟩
  rw [← hQ]
  have hS : va_S (fun _ => False) s.heap s.heap [] := va_S.rf
  have fl7 := hts (.fieldLink RX4 7 "TeleprompterModel" "w" "[I") (by decide +kernel)
  have inX4 : ∀ w ∈ u_ws RX4 TX4 19, w ∈ wsX4_nextCue := by decide +kernel
  have hl := lv_entry ([.ref aM]) (n := 2) (Nat.le_of_ble_eq_true rfl)
  rw [lg_entry_eq]
  generalize (lg_sl ([.ref aM]) ++ List.replicate (2 - (lg_sl ([.ref aM])).length) Slot.unset).toArray = ls at hl ⊢
  have hl : lv_has ls 2 [(0, .ref aM)] := hl
  have B2 : ∀ (n_2 : Nat) (x1_2 : Int32), f_X4_nextCue_2 v_w n_2 x1_2 = some r → ∀ ls : Array Slot, lv_has ls 2 [(0, .ref aM), (1, .int x1_2)] → W p l e (headSpec wsX4_nextCue rm_X4_nextCue).room s m ([.ref aM] : List Value).toArray below meth c s.heap [] 0 0 Q (F0 m 2 ls []) := by
    intro n_2
    induction n_2 with
    | zero => intro x1_2 hF; exact noneE hF
    | succ n_2 ih2 =>
      intro x1_2 hF ls hl
      rw [f_X4_nextCue_2] at hF
      refine lv_iload_n hx hb dX4_nextCue_2 rfl (lv_at hl 1 rfl) ?_
      refine lv_aload_n hx hb dX4_nextCue_3 rfl (lv_at hl 0 rfl) ?_
      refine va_get (D := (dC, dI)) (ci := 4) (v := .ref a_w) (C := RX4) (T := TX4) (N := 19) hx hb hts inX4 hown hK hP 0 rfl rfl 0 (by decide) fl7 (fun _ h9 => h9) rfl dX4_nextCue_4 ?_
      refine lv_bipush (v := (9 : Int32)) hx hb dX4_nextCue_7 (by decide) ?_
      refine va_ialdK hx hb hK hP 1 0 rfl rfl (inK (by decide)) (j := 9) (by decide) dX4_nextCue_9 ?_
      refine lv_icmp_ge (tgt := 35) hx hb dX4_nextCue_10 (by decide) (fun c_10 => ?_) (fun c_10 => ?_)
      · have hF := (if_pos c_10).symm.trans hF
        refine lv_bipush (v := (-9 : Int32)) hx hb dX4_nextCue_35 (by decide) ?_
        have hF : some (-9 : Int32) = some r := hF
        cases hF
        subst hQ
        exact W.iret hx hb hr (fun t ht hW => ⟨_, rfl, rfl, ht⟩) (fun q hq => absurd hq List.not_mem_nil) dX4_nextCue_37
      · have hF := (if_neg c_10).symm.trans hF
        refine lv_aload_n hx hb dX4_nextCue_13 rfl (lv_at hl 0 rfl) ?_
        refine va_get (D := (dC, dI)) (ci := 4) (v := .ref a_w) (C := RX4) (T := TX4) (N := 19) hx hb hts inX4 hown hK hP 0 rfl rfl 0 (by decide) fl7 (fun _ h9 => h9) rfl dX4_nextCue_14 ?_
        refine lv_sipush (v := (270 : Int32)) hx hb dX4_nextCue_17 (by decide) ?_
        refine lv_iload_n hx hb dX4_nextCue_20 rfl (lv_at hl 1 rfl) ?_
        refine lv_iadd hx hb dX4_nextCue_21 ?_
        by_cases b_22 : (((270 : Int32) + x1_2) < 0 ∨ 510 ≤ (((270 : Int32) + x1_2)).toNatClampNeg)
        · exact noneE ((if_pos b_22).symm.trans hF)
        have hF := (if_neg b_22).symm.trans hF
        refine va_iald hx hb hK hP 1 0 rfl rfl b_22 dX4_nextCue_22 ?_
        refine lv_iconst (v := (1 : Int32)) hx hb dX4_nextCue_23 (by decide) ?_
        refine lv_icmp_ne (tgt := 29) hx hb dX4_nextCue_24 (by decide) (fun c_24 => ?_) (fun c_24 => ?_)
        · have hF := (if_neg c_24).symm.trans hF
          refine lv_iinc (v := (x1_2 + 1)) (lv' := [(1, .int (x1_2 + 1)), (0, .ref aM)]) hx hb dX4_nextCue_29 hl (k := 1) rfl rfl (by decide) rfl (fun ls hl => ?_)
          refine lv_goto (tgt := 2) hx hb dX4_nextCue_32 (by decide) ?_
          exact ih2 (x1_2 + 1) hF _ (lv_sub hl [1, 0] rfl)
        · have hF := (if_pos c_24).symm.trans hF
          refine lv_iload_n hx hb dX4_nextCue_27 rfl (lv_at hl 1 rfl) ?_
          have hF : some x1_2 = some r := hF
          cases hF
          subst hQ
          exact W.iret hx hb hr (fun t ht hW => ⟨_, rfl, rfl, ht⟩) (fun q hq => absurd hq List.not_mem_nil) dX4_nextCue_28
  unfold f_X4_nextCue at hF
  refine lv_iconst (v := (0 : Int32)) hx hb dX4_nextCue_0 (by decide) ?_
  refine lv_istore_n (lv' := [(1, .int (0 : Int32)), (0, .ref aM)]) hx hb dX4_nextCue_1 rfl hl (by decide) rfl (fun ls hl => ?_)
  exact B2 gas (0 : Int32) hF _ (lv_sub hl [1, 0] rfl)
def f_X4_estimated_67 (v_w : (Nat → Int32)) (s0 : Int32) : Option Int32 :=
  if ((v_w 9) - (1 : Int32)) ≤ s0 then
      some ((v_w 9) - (1 : Int32))
    else
      some s0
def f_X4_estimated_66 (v_w : (Nat → Int32)) (x1 : Int32) : Option Int32 :=
  f_X4_estimated_67 v_w x1
def f_X4_estimated (v_w : (Nat → Int32)) : Option Int32 :=
  (f_X4_nextCue v_w).bind fun q47 =>
  if q47 = (-9 : Int32) then
    f_X4_estimated_66 v_w ((((100 : Int32) * (v_w 11)) + ((v_w 12) * (((v_w 10) - (v_w 13)) + (v_w 8)))) / (100 : Int32))
  else
    if ((((100 : Int32) * (v_w 11)) + ((v_w 12) * (((v_w 10) - (v_w 13)) + (v_w 8)))) / (100 : Int32)) ≤ q47 then
      f_X4_estimated_66 v_w ((((100 : Int32) * (v_w 11)) + ((v_w 12) * (((v_w 10) - (v_w 13)) + (v_w 8)))) / (100 : Int32))
    else
      f_X4_estimated_67 v_w q47
def rm_X4_estimated : Room := { frames := 1, cells := 0, slots := 0, locals := 21 }
set_option maxHeartbeats 4000000 in
set_option maxRecDepth 100000 in
theorem c_X4_estimated (l : Launch) (dC : Nat → ClassId) (dI : Nat → Nat → Nat) (cI cZ cO : ClassId) (aM a_w a_past a_images a_text a_rowOf a_readLetter a_readCue a_readPassage a_held : Nat) (v_w : (Nat → Int32)) (v_past : (Nat → Int32)) (v_pastMany : Int32) (v_images : (Nat → Int32)) (v_filled : Int32) (v_text : (Nat → Int32)) (v_length : Int32) (v_faultKind : Int32) (v_faultPlace : Int32) (v_rowOf : (Nat → Int32)) (v_rows : Int32) (v_wrongKind : Int32) (v_wrongPlace : Int32) (v_readWords : Int32) (v_readPassages : Int32) (v_readLetter : (Nat → Int32)) (v_readCue : (Nat → Int32)) (v_readPassage : (Nat → Int32)) (v_held : (Nat → Int32)) (r : Int32) (hF : f_X4_estimated v_w = some r) : Met l yX4_estimated wsX4_estimated rm_X4_estimated (va_Pc [.ref aM] (rdW dC dI cI cZ cO [(aM, .inr (4, [.ref a_w, .ref a_past, .int v_pastMany, .ref a_images, .int v_filled, .ref a_text, .int v_length, .int v_faultKind, .int v_faultPlace, .ref a_rowOf, .int v_rows, .int v_wrongKind, .int v_wrongPlace, .int v_readWords, .int v_readPassages, .ref a_readLetter, .ref a_readCue, .ref a_readPassage, .ref a_held])), (a_w, .inl (cI, 510, .inl v_w)), (a_past, .inl (cI, 4080, .inl v_past)), (a_images, .inl (cI, 1020, .inl v_images)), (a_text, .inl (cI, 140, .inl v_text)), (a_rowOf, .inl (cI, 120, .inl v_rowOf)), (a_readLetter, .inl (cI, 120, .inl v_readLetter)), (a_readCue, .inl (cI, 120, .inl v_readCue)), (a_readPassage, .inl (cI, 120, .inl v_readPassage)), (a_held, .inl (cI, 510, .inl v_held))])) (vp_Si (fun q => r = q)) 0 0 (fun _ => False) := by
  refine Met.ofW (cc := cX4_estimated) (maxL := 3) (ret := (some .int)) (by decide) rfl ?_
  intro p e s m args below meth c s₁ B hml hv
  obtain ⟨rfl, hP, hK, hN⟩ := hv
  have hx := B.exec
  have hb := B.bytes
  have hr := B.returns
  have hts := atoms_spec (ws := wsX4_estimated) B.pre
  have hown : s.vm.findClass RX4 = some m.cls := findClass_of_methodNamed B.named
  have hlocks := B.notSynchronized
  obtain ⟨Q, hQ⟩ : ∃ Q, Q = MQ below (vp_Si (fun q => r = q)) ([.ref aM] : List Value).toArray s 0 0 (fun _ => False) := ⟨_, rfl⟩
  rw [← hQ]
  have hS : va_S (fun _ => False) s.heap s.heap [] := va_S.rf
  have fl7 := hts (.fieldLink RX4 7 "TeleprompterModel" "w" "[I") (by decide +kernel)
  have inX4 : ∀ w ∈ u_ws RX4 TX4 19, w ∈ wsX4_estimated := by decide +kernel
  have hl := lv_entry ([.ref aM]) (n := 3) (Nat.le_of_ble_eq_true rfl)
  rw [lg_entry_eq]
  generalize (lg_sl ([.ref aM]) ++ List.replicate (3 - (lg_sl ([.ref aM])).length) Slot.unset).toArray = ls at hl ⊢
  have hl : lv_has ls 3 [(0, .ref aM)] := hl
  have B67 : ∀ (s0_67 : Int32), f_X4_estimated_67 v_w s0_67 = some r → ∀ ls : Array Slot, lv_has ls 3 [(0, .ref aM)] → W p l e (headSpec wsX4_estimated rm_X4_estimated).room s m ([.ref aM] : List Value).toArray below meth c s.heap [] 0 0 Q (F0 m 67 ls [.int s0_67]) := by
    intro s0_67 hF ls hl
    unfold f_X4_estimated_67 at hF
    refine lv_istore_n (lv' := [(1, .int s0_67), (0, .ref aM)]) hx hb dX4_estimated_67 rfl hl (by decide) rfl (fun ls hl => ?_)
    refine lv_iload_n hx hb dX4_estimated_68 rfl (lv_at hl 0 rfl) ?_
    refine lv_aload_n hx hb dX4_estimated_69 rfl (lv_at hl 1 rfl) ?_
    refine va_get (D := (dC, dI)) (ci := 4) (v := .ref a_w) (C := RX4) (T := TX4) (N := 19) hx hb hts inX4 hown hK hP 0 rfl rfl 0 (by decide) fl7 (fun _ h9 => h9) rfl dX4_estimated_70 ?_
    refine lv_bipush (v := (9 : Int32)) hx hb dX4_estimated_73 (by decide) ?_
    refine va_ialdK hx hb hK hP 1 0 rfl rfl (inK (by decide)) (j := 9) (by decide) dX4_estimated_75 ?_
    refine lv_iconst (v := (1 : Int32)) hx hb dX4_estimated_76 (by decide) ?_
    refine lv_isub hx hb dX4_estimated_77 ?_
    refine lv_icmp_ge (tgt := 85) hx hb dX4_estimated_78 (by decide) (fun c_78 => ?_) (fun c_78 => ?_)
    · have hF := (if_pos c_78).symm.trans hF
      refine lv_aload_n hx hb dX4_estimated_85 rfl (lv_at hl 1 rfl) ?_
      refine va_get (D := (dC, dI)) (ci := 4) (v := .ref a_w) (C := RX4) (T := TX4) (N := 19) hx hb hts inX4 hown hK hP 0 rfl rfl 0 (by decide) fl7 (fun _ h9 => h9) rfl dX4_estimated_86 ?_
      refine lv_bipush (v := (9 : Int32)) hx hb dX4_estimated_89 (by decide) ?_
      refine va_ialdK hx hb hK hP 1 0 rfl rfl (inK (by decide)) (j := 9) (by decide) dX4_estimated_91 ?_
      refine lv_iconst (v := (1 : Int32)) hx hb dX4_estimated_92 (by decide) ?_
      refine lv_isub hx hb dX4_estimated_93 ?_
      have hF : some ((v_w 9) - (1 : Int32)) = some r := hF
      cases hF
      subst hQ
      exact W.iret hx hb hr (fun t ht hW => ⟨_, rfl, rfl, ht⟩) (fun q hq => absurd hq List.not_mem_nil) dX4_estimated_94
    · have hF := (if_neg c_78).symm.trans hF
      refine lv_iload_n hx hb dX4_estimated_81 rfl (lv_at hl 0 rfl) ?_
      refine lv_goto (tgt := 94) hx hb dX4_estimated_82 (by decide) ?_
      have hF : some s0_67 = some r := hF
      cases hF
      subst hQ
      exact W.iret hx hb hr (fun t ht hW => ⟨_, rfl, rfl, ht⟩) (fun q hq => absurd hq List.not_mem_nil) dX4_estimated_94
  have B66 : ∀ (x1_66 : Int32), f_X4_estimated_66 v_w x1_66 = some r → ∀ ls : Array Slot, lv_has ls 3 [(0, .ref aM), (1, .int x1_66)] → W p l e (headSpec wsX4_estimated rm_X4_estimated).room s m ([.ref aM] : List Value).toArray below meth c s.heap [] 0 0 Q (F0 m 66 ls []) := by
    intro x1_66 hF ls hl
    unfold f_X4_estimated_66 at hF
    refine lv_iload_n hx hb dX4_estimated_66 rfl (lv_at hl 1 rfl) ?_
    exact B67 x1_66 hF _ (lv_sub hl [0] rfl)
  unfold f_X4_estimated at hF
  refine lv_bipush (v := (100 : Int32)) hx hb dX4_estimated_0 (by decide) ?_
  refine lv_aload_n hx hb dX4_estimated_2 rfl (lv_at hl 0 rfl) ?_
  refine va_get (D := (dC, dI)) (ci := 4) (v := .ref a_w) (C := RX4) (T := TX4) (N := 19) hx hb hts inX4 hown hK hP 0 rfl rfl 0 (by decide) fl7 (fun _ h9 => h9) rfl dX4_estimated_3 ?_
  refine lv_bipush (v := (11 : Int32)) hx hb dX4_estimated_6 (by decide) ?_
  refine va_ialdK hx hb hK hP 1 0 rfl rfl (inK (by decide)) (j := 11) (by decide) dX4_estimated_8 ?_
  refine lv_imul hx hb dX4_estimated_9 ?_
  refine lv_aload_n hx hb dX4_estimated_10 rfl (lv_at hl 0 rfl) ?_
  refine va_get (D := (dC, dI)) (ci := 4) (v := .ref a_w) (C := RX4) (T := TX4) (N := 19) hx hb hts inX4 hown hK hP 0 rfl rfl 0 (by decide) fl7 (fun _ h9 => h9) rfl dX4_estimated_11 ?_
  refine lv_bipush (v := (12 : Int32)) hx hb dX4_estimated_14 (by decide) ?_
  refine va_ialdK hx hb hK hP 1 0 rfl rfl (inK (by decide)) (j := 12) (by decide) dX4_estimated_16 ?_
  refine lv_aload_n hx hb dX4_estimated_17 rfl (lv_at hl 0 rfl) ?_
  refine va_get (D := (dC, dI)) (ci := 4) (v := .ref a_w) (C := RX4) (T := TX4) (N := 19) hx hb hts inX4 hown hK hP 0 rfl rfl 0 (by decide) fl7 (fun _ h9 => h9) rfl dX4_estimated_18 ?_
  refine lv_bipush (v := (10 : Int32)) hx hb dX4_estimated_21 (by decide) ?_
  refine va_ialdK hx hb hK hP 1 0 rfl rfl (inK (by decide)) (j := 10) (by decide) dX4_estimated_23 ?_
  refine lv_aload_n hx hb dX4_estimated_24 rfl (lv_at hl 0 rfl) ?_
  refine va_get (D := (dC, dI)) (ci := 4) (v := .ref a_w) (C := RX4) (T := TX4) (N := 19) hx hb hts inX4 hown hK hP 0 rfl rfl 0 (by decide) fl7 (fun _ h9 => h9) rfl dX4_estimated_25 ?_
  refine lv_bipush (v := (13 : Int32)) hx hb dX4_estimated_28 (by decide) ?_
  refine va_ialdK hx hb hK hP 1 0 rfl rfl (inK (by decide)) (j := 13) (by decide) dX4_estimated_30 ?_
  refine lv_isub hx hb dX4_estimated_31 ?_
  refine lv_aload_n hx hb dX4_estimated_32 rfl (lv_at hl 0 rfl) ?_
  refine va_get (D := (dC, dI)) (ci := 4) (v := .ref a_w) (C := RX4) (T := TX4) (N := 19) hx hb hts inX4 hown hK hP 0 rfl rfl 0 (by decide) fl7 (fun _ h9 => h9) rfl dX4_estimated_33 ?_
  refine lv_bipush (v := (8 : Int32)) hx hb dX4_estimated_36 (by decide) ?_
  refine va_ialdK hx hb hK hP 1 0 rfl rfl (inK (by decide)) (j := 8) (by decide) dX4_estimated_38 ?_
  refine lv_iadd hx hb dX4_estimated_39 ?_
  refine lv_imul hx hb dX4_estimated_40 ?_
  refine lv_iadd hx hb dX4_estimated_41 ?_
  refine lv_bipush (v := (100 : Int32)) hx hb dX4_estimated_42 (by decide) ?_
  refine lv_idiv hx hb dX4_estimated_44 (by decide) ?_
  refine lv_istore_n (lv' := [(1, .int ((((100 : Int32) * (v_w 11)) + ((v_w 12) * (((v_w 10) - (v_w 13)) + (v_w 8)))) / (100 : Int32))), (0, .ref aM)]) hx hb dX4_estimated_45 rfl hl (by decide) rfl (fun ls hl => ?_)
  refine lv_aload_n hx hb dX4_estimated_46 rfl (lv_at hl 1 rfl) ?_
  obtain ⟨q_47, hq_47, hF⟩ := bindE hF
  have hPc := hP
  refine vp_callSi (va_Run.run (va_runV (As := []) (rest := []) ⟨hx, hb, hml, hown, hts⟩ (c_X4_nextCue l dC dI cI cZ cO aM a_w a_past a_images a_text a_rowOf a_readLetter a_readCue a_readPassage a_held v_w v_past v_pastMany v_images v_filled v_text v_length v_faultKind v_faultPlace v_rowOf v_rows v_wrongKind v_wrongPlace v_readWords v_readPassages v_readLetter v_readCue v_readPassage v_held q_47 hq_47) (cwV 0 hts gX4_estimated_X4_nextCue rfl rfl rfl (by decide +kernel) ⟨Nat.le_of_ble_eq_true rfl, Nat.le_of_ble_eq_true rfl⟩) ⟨fb_rd, va_recv hK hPc (ci := 4) (q0 := 0) rfl rfl, pre_rd hPc hK hN⟩ rfl rfl hl.1 rfl (lv_room (Nat.le_of_ble_eq_true rfl)) dX4_estimated_47 ⟨Nat.zero_le _, Nat.zero_le _⟩)) (fun z_47 hz_47 => ?_)
  subst hz_47
  refine lv_istore_n (lv' := [(2, .int q_47), (1, .int ((((100 : Int32) * (v_w 11)) + ((v_w 12) * (((v_w 10) - (v_w 13)) + (v_w 8)))) / (100 : Int32))), (0, .ref aM)]) hx hb dX4_estimated_50 rfl hl (by decide) rfl (fun ls hl => ?_)
  refine lv_iload_n hx hb dX4_estimated_51 rfl (lv_at hl 0 rfl) ?_
  refine lv_bipush (v := (-9 : Int32)) hx hb dX4_estimated_52 (by decide) ?_
  refine lv_icmp_eq (tgt := 66) hx hb dX4_estimated_54 (by decide) (fun c_54 => ?_) (fun c_54 => ?_)
  · have hF := (if_pos c_54).symm.trans hF
    exact B66 ((((100 : Int32) * (v_w 11)) + ((v_w 12) * (((v_w 10) - (v_w 13)) + (v_w 8)))) / (100 : Int32)) hF _ (lv_sub hl [2, 1] rfl)
  · have hF := (if_neg c_54).symm.trans hF
    refine lv_iload_n hx hb dX4_estimated_57 rfl (lv_at hl 0 rfl) ?_
    refine lv_iload_n hx hb dX4_estimated_58 rfl (lv_at hl 1 rfl) ?_
    refine lv_icmp_ge (tgt := 66) hx hb dX4_estimated_59 (by decide) (fun c_59 => ?_) (fun c_59 => ?_)
    · have hF := (if_pos c_59).symm.trans hF
      exact B66 ((((100 : Int32) * (v_w 11)) + ((v_w 12) * (((v_w 10) - (v_w 13)) + (v_w 8)))) / (100 : Int32)) hF _ (lv_sub hl [2, 1] rfl)
    · have hF := (if_neg c_59).symm.trans hF
      refine lv_iload_n hx hb dX4_estimated_62 rfl (lv_at hl 0 rfl) ?_
      refine lv_goto (tgt := 67) hx hb dX4_estimated_63 (by decide) ?_
      exact B67 q_47 hF _ (lv_sub hl [2] rfl)
def f_X4_desired_34 (v_w : (Nat → Int32)) (v_rowOf : (Nat → Int32)) (v_rows : Int32) (s0 : Int32) : Option Int32 :=
  (f_X4_estimated v_w).bind fun q43 =>
    if q43 < 0 ∨ 120 ≤ q43.toNatClampNeg then none else
    (f_X4_limited ((100 : Int32) * ((v_rowOf q43.toNatClampNeg) - s0)) v_w v_rows).bind fun q50 =>
    some q50
def f_X4_desired (v_w : (Nat → Int32)) (v_rowOf : (Nat → Int32)) (v_rows : Int32) : Option Int32 :=
  if ((v_w 1) - (1 : Int32)) ≤ (v_w 2) then
    f_X4_desired_34 v_w v_rowOf v_rows ((v_w 1) - (1 : Int32))
  else
    f_X4_desired_34 v_w v_rowOf v_rows (v_w 2)
def rm_X4_desired : Room := { frames := 2, cells := 0, slots := 0, locals := 43 }
set_option maxHeartbeats 4000000 in
set_option maxRecDepth 100000 in
theorem c_X4_desired (l : Launch) (dC : Nat → ClassId) (dI : Nat → Nat → Nat) (cI cZ cO : ClassId) (aM a_w a_past a_images a_text a_rowOf a_readLetter a_readCue a_readPassage a_held : Nat) (v_w : (Nat → Int32)) (v_past : (Nat → Int32)) (v_pastMany : Int32) (v_images : (Nat → Int32)) (v_filled : Int32) (v_text : (Nat → Int32)) (v_length : Int32) (v_faultKind : Int32) (v_faultPlace : Int32) (v_rowOf : (Nat → Int32)) (v_rows : Int32) (v_wrongKind : Int32) (v_wrongPlace : Int32) (v_readWords : Int32) (v_readPassages : Int32) (v_readLetter : (Nat → Int32)) (v_readCue : (Nat → Int32)) (v_readPassage : (Nat → Int32)) (v_held : (Nat → Int32)) (r : Int32) (hF : f_X4_desired v_w v_rowOf v_rows = some r) : Met l yX4_desired wsX4_desired rm_X4_desired (va_Pc [.ref aM] (rdW dC dI cI cZ cO [(aM, .inr (4, [.ref a_w, .ref a_past, .int v_pastMany, .ref a_images, .int v_filled, .ref a_text, .int v_length, .int v_faultKind, .int v_faultPlace, .ref a_rowOf, .int v_rows, .int v_wrongKind, .int v_wrongPlace, .int v_readWords, .int v_readPassages, .ref a_readLetter, .ref a_readCue, .ref a_readPassage, .ref a_held])), (a_w, .inl (cI, 510, .inl v_w)), (a_past, .inl (cI, 4080, .inl v_past)), (a_images, .inl (cI, 1020, .inl v_images)), (a_text, .inl (cI, 140, .inl v_text)), (a_rowOf, .inl (cI, 120, .inl v_rowOf)), (a_readLetter, .inl (cI, 120, .inl v_readLetter)), (a_readCue, .inl (cI, 120, .inl v_readCue)), (a_readPassage, .inl (cI, 120, .inl v_readPassage)), (a_held, .inl (cI, 510, .inl v_held))])) (vp_Si (fun q => r = q)) 0 0 (fun _ => False) := by
  refine Met.ofW (cc := cX4_desired) (maxL := 2) (ret := (some .int)) (by decide) rfl ?_
  intro p e s m args below meth c s₁ B hml hv
  obtain ⟨rfl, hP, hK, hN⟩ := hv
  have hx := B.exec
  have hb := B.bytes
  have hr := B.returns
  have hts := atoms_spec (ws := wsX4_desired) B.pre
  have hown : s.vm.findClass RX4 = some m.cls := findClass_of_methodNamed B.named
  have hlocks := B.notSynchronized
  obtain ⟨Q, hQ⟩ : ∃ Q, Q = MQ below (vp_Si (fun q => r = q)) ([.ref aM] : List Value).toArray s 0 0 (fun _ => False) := ⟨_, rfl⟩
  rw [← hQ]
  have hS : va_S (fun _ => False) s.heap s.heap [] := va_S.rf
  have fl29 := hts (.fieldLink RX4 29 "TeleprompterModel" "rowOf" "[I") (by decide +kernel)
  have fl7 := hts (.fieldLink RX4 7 "TeleprompterModel" "w" "[I") (by decide +kernel)
  have inX4 : ∀ w ∈ u_ws RX4 TX4 19, w ∈ wsX4_desired := by decide +kernel
  have hl := lv_entry ([.ref aM]) (n := 2) (Nat.le_of_ble_eq_true rfl)
  rw [lg_entry_eq]
  generalize (lg_sl ([.ref aM]) ++ List.replicate (2 - (lg_sl ([.ref aM])).length) Slot.unset).toArray = ls at hl ⊢
  have hl : lv_has ls 2 [(0, .ref aM)] := hl
  have B34 : ∀ (s0_34 : Int32), f_X4_desired_34 v_w v_rowOf v_rows s0_34 = some r → ∀ ls : Array Slot, lv_has ls 2 [(0, .ref aM)] → W p l e (headSpec wsX4_desired rm_X4_desired).room s m ([.ref aM] : List Value).toArray below meth c s.heap [] 0 0 Q (F0 m 34 ls [.int s0_34]) := by
    intro s0_34 hF ls hl
    unfold f_X4_desired_34 at hF
    refine lv_istore_n (lv' := [(1, .int s0_34), (0, .ref aM)]) hx hb dX4_desired_34 rfl hl (by decide) rfl (fun ls hl => ?_)
    refine lv_aload_n hx hb dX4_desired_35 rfl (lv_at hl 1 rfl) ?_
    refine lv_bipush (v := (100 : Int32)) hx hb dX4_desired_36 (by decide) ?_
    refine lv_aload_n hx hb dX4_desired_38 rfl (lv_at hl 1 rfl) ?_
    refine va_get (D := (dC, dI)) (ci := 4) (v := .ref a_rowOf) (C := RX4) (T := TX4) (N := 19) hx hb hts inX4 hown hK hP 0 rfl rfl 9 (by decide) fl29 (fun _ h9 => h9) rfl dX4_desired_39 ?_
    refine lv_aload_n hx hb dX4_desired_42 rfl (lv_at hl 1 rfl) ?_
    obtain ⟨q_43, hq_43, hF⟩ := bindE hF
    have hPc := hP
    refine vp_callSi (va_Run.run (va_runV (As := []) (rest := [.ref a_rowOf, .int (100 : Int32), .ref aM]) ⟨hx, hb, hml, hown, hts⟩ (c_X4_estimated l dC dI cI cZ cO aM a_w a_past a_images a_text a_rowOf a_readLetter a_readCue a_readPassage a_held v_w v_past v_pastMany v_images v_filled v_text v_length v_faultKind v_faultPlace v_rowOf v_rows v_wrongKind v_wrongPlace v_readWords v_readPassages v_readLetter v_readCue v_readPassage v_held q_43 hq_43) (cwV 0 hts gX4_desired_X4_estimated rfl rfl rfl (by decide +kernel) ⟨Nat.le_of_ble_eq_true rfl, Nat.le_of_ble_eq_true rfl⟩) ⟨fb_rd, va_recv hK hPc (ci := 4) (q0 := 0) rfl rfl, pre_rd hPc hK hN⟩ rfl rfl hl.1 rfl (lv_room (Nat.le_of_ble_eq_true rfl)) dX4_desired_43 ⟨Nat.zero_le _, Nat.zero_le _⟩)) (fun z_43 hz_43 => ?_)
    subst hz_43
    by_cases b_46 : (q_43 < 0 ∨ 120 ≤ q_43.toNatClampNeg)
    · exact noneE ((if_pos b_46).symm.trans hF)
    have hF := (if_neg b_46).symm.trans hF
    refine va_iald hx hb hK hP 5 0 rfl rfl b_46 dX4_desired_46 ?_
    refine lv_iload_n hx hb dX4_desired_47 rfl (lv_at hl 0 rfl) ?_
    refine lv_isub hx hb dX4_desired_48 ?_
    refine lv_imul hx hb dX4_desired_49 ?_
    obtain ⟨q_50, hq_50, hF⟩ := bindE hF
    have hPc := hP
    refine vp_callSi (va_Run.run (va_runV (As := [.int ((100 : Int32) * ((v_rowOf q_43.toNatClampNeg) - s0_34))]) (rest := []) ⟨hx, hb, hml, hown, hts⟩ (c_X4_limited l dC dI cI cZ cO aM a_w a_past a_images a_text a_rowOf a_readLetter a_readCue a_readPassage a_held ((100 : Int32) * ((v_rowOf q_43.toNatClampNeg) - s0_34)) v_w v_past v_pastMany v_images v_filled v_text v_length v_faultKind v_faultPlace v_rowOf v_rows v_wrongKind v_wrongPlace v_readWords v_readPassages v_readLetter v_readCue v_readPassage v_held q_50 hq_50) (cwV 1 hts gX4_desired_X4_limited rfl rfl rfl (by decide +kernel) ⟨Nat.le_of_ble_eq_true rfl, Nat.le_of_ble_eq_true rfl⟩) ⟨fb_rd, va_recv hK hPc (ci := 4) (q0 := 0) rfl rfl, pre_rd hPc hK hN⟩ rfl rfl hl.1 rfl (lv_room (Nat.le_of_ble_eq_true rfl)) dX4_desired_50 ⟨Nat.zero_le _, Nat.zero_le _⟩)) (fun z_50 hz_50 => ?_)
    subst hz_50
    have hF : some q_50 = some r := hF
    cases hF
    subst hQ
    exact W.iret hx hb hr (fun t ht hW => ⟨_, rfl, rfl, ht⟩) (fun q hq => absurd hq List.not_mem_nil) dX4_desired_53
  unfold f_X4_desired at hF
  refine lv_aload_n hx hb dX4_desired_0 rfl (lv_at hl 0 rfl) ?_
  refine va_get (D := (dC, dI)) (ci := 4) (v := .ref a_w) (C := RX4) (T := TX4) (N := 19) hx hb hts inX4 hown hK hP 0 rfl rfl 0 (by decide) fl7 (fun _ h9 => h9) rfl dX4_desired_1 ?_
  refine lv_iconst (v := (2 : Int32)) hx hb dX4_desired_4 (by decide) ?_
  refine va_ialdK hx hb hK hP 1 0 rfl rfl (inK (by decide)) (j := 2) (by decide) dX4_desired_5 ?_
  refine lv_aload_n hx hb dX4_desired_6 rfl (lv_at hl 0 rfl) ?_
  refine va_get (D := (dC, dI)) (ci := 4) (v := .ref a_w) (C := RX4) (T := TX4) (N := 19) hx hb hts inX4 hown hK hP 0 rfl rfl 0 (by decide) fl7 (fun _ h9 => h9) rfl dX4_desired_7 ?_
  refine lv_iconst (v := (1 : Int32)) hx hb dX4_desired_10 (by decide) ?_
  refine va_ialdK hx hb hK hP 1 0 rfl rfl (inK (by decide)) (j := 1) (by decide) dX4_desired_11 ?_
  refine lv_iconst (v := (1 : Int32)) hx hb dX4_desired_12 (by decide) ?_
  refine lv_isub hx hb dX4_desired_13 ?_
  refine lv_icmp_ge (tgt := 26) hx hb dX4_desired_14 (by decide) (fun c_14 => ?_) (fun c_14 => ?_)
  · have hF := (if_pos c_14).symm.trans hF
    refine lv_aload_n hx hb dX4_desired_26 rfl (lv_at hl 0 rfl) ?_
    refine va_get (D := (dC, dI)) (ci := 4) (v := .ref a_w) (C := RX4) (T := TX4) (N := 19) hx hb hts inX4 hown hK hP 0 rfl rfl 0 (by decide) fl7 (fun _ h9 => h9) rfl dX4_desired_27 ?_
    refine lv_iconst (v := (1 : Int32)) hx hb dX4_desired_30 (by decide) ?_
    refine va_ialdK hx hb hK hP 1 0 rfl rfl (inK (by decide)) (j := 1) (by decide) dX4_desired_31 ?_
    refine lv_iconst (v := (1 : Int32)) hx hb dX4_desired_32 (by decide) ?_
    refine lv_isub hx hb dX4_desired_33 ?_
    exact B34 ((v_w 1) - (1 : Int32)) hF _ (lv_sub hl [0] rfl)
  · have hF := (if_neg c_14).symm.trans hF
    refine lv_aload_n hx hb dX4_desired_17 rfl (lv_at hl 0 rfl) ?_
    refine va_get (D := (dC, dI)) (ci := 4) (v := .ref a_w) (C := RX4) (T := TX4) (N := 19) hx hb hts inX4 hown hK hP 0 rfl rfl 0 (by decide) fl7 (fun _ h9 => h9) rfl dX4_desired_18 ?_
    refine lv_iconst (v := (2 : Int32)) hx hb dX4_desired_21 (by decide) ?_
    refine va_ialdK hx hb hK hP 1 0 rfl rfl (inK (by decide)) (j := 2) (by decide) dX4_desired_22 ?_
    refine lv_goto (tgt := 34) hx hb dX4_desired_23 (by decide) ?_
    exact B34 (v_w 2) hF _ (lv_sub hl [0] rfl)
def f_X4_isShown (p1 : Int32) (v_w : (Nat → Int32)) : Option Int32 :=
  if ((100 : Int32) * p1) < (v_w 14) then
    some (0 : Int32)
  else
    if ((v_w 14) + ((100 : Int32) * ((v_w 1) - (1 : Int32)))) < ((100 : Int32) * p1) then
      some (0 : Int32)
    else
      some (1 : Int32)
def rm_X4_isShown : Room := { frames := 0, cells := 0, slots := 0, locals := 0 }
set_option maxHeartbeats 4000000 in
set_option maxRecDepth 100000 in
theorem c_X4_isShown (l : Launch) (dC : Nat → ClassId) (dI : Nat → Nat → Nat) (cI cZ cO : ClassId) (aM a_w a_past a_images a_text a_rowOf a_readLetter a_readCue a_readPassage a_held : Nat) (p1 : Int32) (v_w : (Nat → Int32)) (v_past : (Nat → Int32)) (v_pastMany : Int32) (v_images : (Nat → Int32)) (v_filled : Int32) (v_text : (Nat → Int32)) (v_length : Int32) (v_faultKind : Int32) (v_faultPlace : Int32) (v_rowOf : (Nat → Int32)) (v_rows : Int32) (v_wrongKind : Int32) (v_wrongPlace : Int32) (v_readWords : Int32) (v_readPassages : Int32) (v_readLetter : (Nat → Int32)) (v_readCue : (Nat → Int32)) (v_readPassage : (Nat → Int32)) (v_held : (Nat → Int32)) (r : Int32) (hF : f_X4_isShown p1 v_w = some r) : Met l yX4_isShown wsX4_isShown rm_X4_isShown (va_Pc [.ref aM, .int p1] (rdW dC dI cI cZ cO [(aM, .inr (4, [.ref a_w, .ref a_past, .int v_pastMany, .ref a_images, .int v_filled, .ref a_text, .int v_length, .int v_faultKind, .int v_faultPlace, .ref a_rowOf, .int v_rows, .int v_wrongKind, .int v_wrongPlace, .int v_readWords, .int v_readPassages, .ref a_readLetter, .ref a_readCue, .ref a_readPassage, .ref a_held])), (a_w, .inl (cI, 510, .inl v_w)), (a_past, .inl (cI, 4080, .inl v_past)), (a_images, .inl (cI, 1020, .inl v_images)), (a_text, .inl (cI, 140, .inl v_text)), (a_rowOf, .inl (cI, 120, .inl v_rowOf)), (a_readLetter, .inl (cI, 120, .inl v_readLetter)), (a_readCue, .inl (cI, 120, .inl v_readCue)), (a_readPassage, .inl (cI, 120, .inl v_readPassage)), (a_held, .inl (cI, 510, .inl v_held))])) (vp_Si (fun q => r = q)) 0 0 (fun _ => False) := by
  refine Met.ofW (cc := cX4_isShown) (maxL := 2) (ret := (some .boolean)) (by decide) rfl ?_
  intro p e s m args below meth c s₁ B hml hv
  obtain ⟨rfl, hP, hK, hN⟩ := hv
  have hx := B.exec
  have hb := B.bytes
  have hr := B.returns
  have hts := atoms_spec (ws := wsX4_isShown) B.pre
  have hown : s.vm.findClass RX4 = some m.cls := findClass_of_methodNamed B.named
  have hlocks := B.notSynchronized
  obtain ⟨Q, hQ⟩ : ∃ Q, Q = MQ below (vp_Si (fun q => r = q)) ([.ref aM, .int p1] : List Value).toArray s 0 0 (fun _ => False) := ⟨_, rfl⟩
  rw [← hQ]
  have hS : va_S (fun _ => False) s.heap s.heap [] := va_S.rf
  have fl7 := hts (.fieldLink RX4 7 "TeleprompterModel" "w" "[I") (by decide +kernel)
  have inX4 : ∀ w ∈ u_ws RX4 TX4 19, w ∈ wsX4_isShown := by decide +kernel
  have hl := lv_entry ([.ref aM, .int p1]) (n := 2) (Nat.le_of_ble_eq_true rfl)
  rw [lg_entry_eq]
  generalize (lg_sl ([.ref aM, .int p1]) ++ List.replicate (2 - (lg_sl ([.ref aM, .int p1])).length) Slot.unset).toArray = ls at hl ⊢
  have hl : lv_has ls 2 [(0, .ref aM), (1, .int p1)] := hl
  unfold f_X4_isShown at hF
  refine lv_bipush (v := (100 : Int32)) hx hb dX4_isShown_0 (by decide) ?_
  refine lv_iload_n hx hb dX4_isShown_2 rfl (lv_at hl 1 rfl) ?_
  refine lv_imul hx hb dX4_isShown_3 ?_
  refine lv_aload_n hx hb dX4_isShown_4 rfl (lv_at hl 0 rfl) ?_
  refine va_get (D := (dC, dI)) (ci := 4) (v := .ref a_w) (C := RX4) (T := TX4) (N := 19) hx hb hts inX4 hown hK hP 0 rfl rfl 0 (by decide) fl7 (fun _ h9 => h9) rfl dX4_isShown_5 ?_
  refine lv_bipush (v := (14 : Int32)) hx hb dX4_isShown_8 (by decide) ?_
  refine va_ialdK hx hb hK hP 1 0 rfl rfl (inK (by decide)) (j := 14) (by decide) dX4_isShown_10 ?_
  refine lv_icmp_lt (tgt := 44) hx hb dX4_isShown_11 (by decide) (fun c_11 => ?_) (fun c_11 => ?_)
  · have hF := (if_pos c_11).symm.trans hF
    refine lv_iconst (v := (0 : Int32)) hx hb dX4_isShown_44 (by decide) ?_
    have hF : some (0 : Int32) = some r := hF
    cases hF
    subst hQ
    exact W.zret (ty := .boolean) hx hb hr rfl (fun t ht hW => ⟨_, rfl, rfl, ht⟩) (fun q hq => absurd hq List.not_mem_nil) dX4_isShown_45
  · have hF := (if_neg c_11).symm.trans hF
    refine lv_bipush (v := (100 : Int32)) hx hb dX4_isShown_14 (by decide) ?_
    refine lv_iload_n hx hb dX4_isShown_16 rfl (lv_at hl 1 rfl) ?_
    refine lv_imul hx hb dX4_isShown_17 ?_
    refine lv_aload_n hx hb dX4_isShown_18 rfl (lv_at hl 0 rfl) ?_
    refine va_get (D := (dC, dI)) (ci := 4) (v := .ref a_w) (C := RX4) (T := TX4) (N := 19) hx hb hts inX4 hown hK hP 0 rfl rfl 0 (by decide) fl7 (fun _ h9 => h9) rfl dX4_isShown_19 ?_
    refine lv_bipush (v := (14 : Int32)) hx hb dX4_isShown_22 (by decide) ?_
    refine va_ialdK hx hb hK hP 1 0 rfl rfl (inK (by decide)) (j := 14) (by decide) dX4_isShown_24 ?_
    refine lv_bipush (v := (100 : Int32)) hx hb dX4_isShown_25 (by decide) ?_
    refine lv_aload_n hx hb dX4_isShown_27 rfl (lv_at hl 0 rfl) ?_
    refine va_get (D := (dC, dI)) (ci := 4) (v := .ref a_w) (C := RX4) (T := TX4) (N := 19) hx hb hts inX4 hown hK hP 0 rfl rfl 0 (by decide) fl7 (fun _ h9 => h9) rfl dX4_isShown_28 ?_
    refine lv_iconst (v := (1 : Int32)) hx hb dX4_isShown_31 (by decide) ?_
    refine va_ialdK hx hb hK hP 1 0 rfl rfl (inK (by decide)) (j := 1) (by decide) dX4_isShown_32 ?_
    refine lv_iconst (v := (1 : Int32)) hx hb dX4_isShown_33 (by decide) ?_
    refine lv_isub hx hb dX4_isShown_34 ?_
    refine lv_imul hx hb dX4_isShown_35 ?_
    refine lv_iadd hx hb dX4_isShown_36 ?_
    refine lv_icmp_gt (tgt := 44) hx hb dX4_isShown_37 (by decide) (fun c_37 => ?_) (fun c_37 => ?_)
    · have hF := (if_pos c_37).symm.trans hF
      refine lv_iconst (v := (0 : Int32)) hx hb dX4_isShown_44 (by decide) ?_
      have hF : some (0 : Int32) = some r := hF
      cases hF
      subst hQ
      exact W.zret (ty := .boolean) hx hb hr rfl (fun t ht hW => ⟨_, rfl, rfl, ht⟩) (fun q hq => absurd hq List.not_mem_nil) dX4_isShown_45
    · have hF := (if_neg c_37).symm.trans hF
      refine lv_iconst (v := (1 : Int32)) hx hb dX4_isShown_40 (by decide) ?_
      refine lv_goto (tgt := 45) hx hb dX4_isShown_41 (by decide) ?_
      have hF : some (1 : Int32) = some r := hF
      cases hF
      subst hQ
      exact W.zret (ty := .boolean) hx hb hr rfl (fun t ht hW => ⟨_, rfl, rfl, ht⟩) (fun q hq => absurd hq List.not_mem_nil) dX4_isShown_45
def f_X4_hasWord (v_readWords : Int32) (v_readPassages : Int32) (v_readPassage : (Nat → Int32)) : Option Int32 :=
  if v_readWords ≤ (0 : Int32) then
    some (0 : Int32)
  else
    if (v_readWords - (1 : Int32)) < 0 ∨ 120 ≤ ((v_readWords - (1 : Int32))).toNatClampNeg then none else
    if (v_readPassage (((v_readWords - (1 : Int32))).toNatClampNeg)) = v_readPassages then
      some (1 : Int32)
    else
      some (0 : Int32)
def rm_X4_hasWord : Room := { frames := 0, cells := 0, slots := 0, locals := 0 }
set_option maxHeartbeats 4000000 in
set_option maxRecDepth 100000 in
theorem c_X4_hasWord (l : Launch) (dC : Nat → ClassId) (dI : Nat → Nat → Nat) (cI cZ cO : ClassId) (aM a_w a_past a_images a_text a_rowOf a_readLetter a_readCue a_readPassage a_held : Nat) (v_w : (Nat → Int32)) (v_past : (Nat → Int32)) (v_pastMany : Int32) (v_images : (Nat → Int32)) (v_filled : Int32) (v_text : (Nat → Int32)) (v_length : Int32) (v_faultKind : Int32) (v_faultPlace : Int32) (v_rowOf : (Nat → Int32)) (v_rows : Int32) (v_wrongKind : Int32) (v_wrongPlace : Int32) (v_readWords : Int32) (v_readPassages : Int32) (v_readLetter : (Nat → Int32)) (v_readCue : (Nat → Int32)) (v_readPassage : (Nat → Int32)) (v_held : (Nat → Int32)) (r : Int32) (hF : f_X4_hasWord v_readWords v_readPassages v_readPassage = some r) : Met l yX4_hasWord wsX4_hasWord rm_X4_hasWord (va_Pc [.ref aM] (rdW dC dI cI cZ cO [(aM, .inr (4, [.ref a_w, .ref a_past, .int v_pastMany, .ref a_images, .int v_filled, .ref a_text, .int v_length, .int v_faultKind, .int v_faultPlace, .ref a_rowOf, .int v_rows, .int v_wrongKind, .int v_wrongPlace, .int v_readWords, .int v_readPassages, .ref a_readLetter, .ref a_readCue, .ref a_readPassage, .ref a_held])), (a_w, .inl (cI, 510, .inl v_w)), (a_past, .inl (cI, 4080, .inl v_past)), (a_images, .inl (cI, 1020, .inl v_images)), (a_text, .inl (cI, 140, .inl v_text)), (a_rowOf, .inl (cI, 120, .inl v_rowOf)), (a_readLetter, .inl (cI, 120, .inl v_readLetter)), (a_readCue, .inl (cI, 120, .inl v_readCue)), (a_readPassage, .inl (cI, 120, .inl v_readPassage)), (a_held, .inl (cI, 510, .inl v_held))])) (vp_Si (fun q => r = q)) 0 0 (fun _ => False) := by
  refine Met.ofW (cc := cX4_hasWord) (maxL := 1) (ret := (some .boolean)) (by decide) rfl ?_
  intro p e s m args below meth c s₁ B hml hv
  obtain ⟨rfl, hP, hK, hN⟩ := hv
  have hx := B.exec
  have hb := B.bytes
  have hr := B.returns
  have hts := atoms_spec (ws := wsX4_hasWord) B.pre
  have hown : s.vm.findClass RX4 = some m.cls := findClass_of_methodNamed B.named
  have hlocks := B.notSynchronized
  obtain ⟨Q, hQ⟩ : ∃ Q, Q = MQ below (vp_Si (fun q => r = q)) ([.ref aM] : List Value).toArray s 0 0 (fun _ => False) := ⟨_, rfl⟩
  rw [← hQ]
  have hS : va_S (fun _ => False) s.heap s.heap [] := va_S.rf
  have fl106 := hts (.fieldLink RX4 106 "TeleprompterModel" "readWords" "I") (by decide +kernel)
  have fl38 := hts (.fieldLink RX4 38 "TeleprompterModel" "readPassage" "[I") (by decide +kernel)
  have fl113 := hts (.fieldLink RX4 113 "TeleprompterModel" "readPassages" "I") (by decide +kernel)
  have inX4 : ∀ w ∈ u_ws RX4 TX4 19, w ∈ wsX4_hasWord := by decide +kernel
  have hl := lv_entry ([.ref aM]) (n := 1) (Nat.le_of_ble_eq_true rfl)
  rw [lg_entry_eq]
  generalize (lg_sl ([.ref aM]) ++ List.replicate (1 - (lg_sl ([.ref aM])).length) Slot.unset).toArray = ls at hl ⊢
  have hl : lv_has ls 1 [(0, .ref aM)] := hl
  unfold f_X4_hasWord at hF
  refine lv_aload_n hx hb dX4_hasWord_0 rfl (lv_at hl 0 rfl) ?_
  refine va_get (D := (dC, dI)) (ci := 4) (v := .int v_readWords) (C := RX4) (T := TX4) (N := 19) hx hb hts inX4 hown hK hP 0 rfl rfl 13 (by decide) fl106 (fun _ h9 => h9) rfl dX4_hasWord_1 ?_
  refine lv_if_le (tgt := 29) hx hb dX4_hasWord_4 (by decide) (fun c_4 => ?_) (fun c_4 => ?_)
  · have hF := (if_pos c_4).symm.trans hF
    refine lv_iconst (v := (0 : Int32)) hx hb dX4_hasWord_29 (by decide) ?_
    have hF : some (0 : Int32) = some r := hF
    cases hF
    subst hQ
    exact W.zret (ty := .boolean) hx hb hr rfl (fun t ht hW => ⟨_, rfl, rfl, ht⟩) (fun q hq => absurd hq List.not_mem_nil) dX4_hasWord_30
  · have hF := (if_neg c_4).symm.trans hF
    refine lv_aload_n hx hb dX4_hasWord_7 rfl (lv_at hl 0 rfl) ?_
    refine va_get (D := (dC, dI)) (ci := 4) (v := .ref a_readPassage) (C := RX4) (T := TX4) (N := 19) hx hb hts inX4 hown hK hP 0 rfl rfl 17 (by decide) fl38 (fun _ h9 => h9) rfl dX4_hasWord_8 ?_
    refine lv_aload_n hx hb dX4_hasWord_11 rfl (lv_at hl 0 rfl) ?_
    refine va_get (D := (dC, dI)) (ci := 4) (v := .int v_readWords) (C := RX4) (T := TX4) (N := 19) hx hb hts inX4 hown hK hP 0 rfl rfl 13 (by decide) fl106 (fun _ h9 => h9) rfl dX4_hasWord_12 ?_
    refine lv_iconst (v := (1 : Int32)) hx hb dX4_hasWord_15 (by decide) ?_
    refine lv_isub hx hb dX4_hasWord_16 ?_
    by_cases b_17 : ((v_readWords - (1 : Int32)) < 0 ∨ 120 ≤ ((v_readWords - (1 : Int32))).toNatClampNeg)
    · exact noneE ((if_pos b_17).symm.trans hF)
    have hF := (if_neg b_17).symm.trans hF
    refine va_iald hx hb hK hP 8 0 rfl rfl b_17 dX4_hasWord_17 ?_
    refine lv_aload_n hx hb dX4_hasWord_18 rfl (lv_at hl 0 rfl) ?_
    refine va_get (D := (dC, dI)) (ci := 4) (v := .int v_readPassages) (C := RX4) (T := TX4) (N := 19) hx hb hts inX4 hown hK hP 0 rfl rfl 14 (by decide) fl113 (fun _ h9 => h9) rfl dX4_hasWord_19 ?_
    refine lv_icmp_ne (tgt := 29) hx hb dX4_hasWord_22 (by decide) (fun c_22 => ?_) (fun c_22 => ?_)
    · have hF := (if_neg c_22).symm.trans hF
      refine lv_iconst (v := (0 : Int32)) hx hb dX4_hasWord_29 (by decide) ?_
      have hF : some (0 : Int32) = some r := hF
      cases hF
      subst hQ
      exact W.zret (ty := .boolean) hx hb hr rfl (fun t ht hW => ⟨_, rfl, rfl, ht⟩) (fun q hq => absurd hq List.not_mem_nil) dX4_hasWord_30
    · have hF := (if_pos c_22).symm.trans hF
      refine lv_iconst (v := (1 : Int32)) hx hb dX4_hasWord_25 (by decide) ?_
      refine lv_goto (tgt := 30) hx hb dX4_hasWord_26 (by decide) ?_
      have hF : some (1 : Int32) = some r := hF
      cases hF
      subst hQ
      exact W.zret (ty := .boolean) hx hb hr rfl (fun t ht hW => ⟨_, rfl, rfl, ht⟩) (fun q hq => absurd hq List.not_mem_nil) dX4_hasWord_30
def f_X4_fault (p1 : Int32) (v_faultKind : Int32) (v_faultPlace : Int32) : Option Int32 :=
  if p1 = (0 : Int32) then
    some v_faultKind
  else
    if p1 = (1 : Int32) then
      some v_faultPlace
    else
      some (-1 : Int32)
def rm_X4_fault : Room := { frames := 0, cells := 0, slots := 0, locals := 0 }
set_option maxHeartbeats 4000000 in
set_option maxRecDepth 100000 in
theorem c_X4_fault (l : Launch) (dC : Nat → ClassId) (dI : Nat → Nat → Nat) (cI cZ cO : ClassId) (aM a_w a_past a_images a_text a_rowOf a_readLetter a_readCue a_readPassage a_held : Nat) (p1 : Int32) (v_w : (Nat → Int32)) (v_past : (Nat → Int32)) (v_pastMany : Int32) (v_images : (Nat → Int32)) (v_filled : Int32) (v_text : (Nat → Int32)) (v_length : Int32) (v_faultKind : Int32) (v_faultPlace : Int32) (v_rowOf : (Nat → Int32)) (v_rows : Int32) (v_wrongKind : Int32) (v_wrongPlace : Int32) (v_readWords : Int32) (v_readPassages : Int32) (v_readLetter : (Nat → Int32)) (v_readCue : (Nat → Int32)) (v_readPassage : (Nat → Int32)) (v_held : (Nat → Int32)) (r : Int32) (hF : f_X4_fault p1 v_faultKind v_faultPlace = some r) : Met l yX4_fault wsX4_fault rm_X4_fault (va_Pc [.ref aM, .int p1] (rdW dC dI cI cZ cO [(aM, .inr (4, [.ref a_w, .ref a_past, .int v_pastMany, .ref a_images, .int v_filled, .ref a_text, .int v_length, .int v_faultKind, .int v_faultPlace, .ref a_rowOf, .int v_rows, .int v_wrongKind, .int v_wrongPlace, .int v_readWords, .int v_readPassages, .ref a_readLetter, .ref a_readCue, .ref a_readPassage, .ref a_held])), (a_w, .inl (cI, 510, .inl v_w)), (a_past, .inl (cI, 4080, .inl v_past)), (a_images, .inl (cI, 1020, .inl v_images)), (a_text, .inl (cI, 140, .inl v_text)), (a_rowOf, .inl (cI, 120, .inl v_rowOf)), (a_readLetter, .inl (cI, 120, .inl v_readLetter)), (a_readCue, .inl (cI, 120, .inl v_readCue)), (a_readPassage, .inl (cI, 120, .inl v_readPassage)), (a_held, .inl (cI, 510, .inl v_held))])) (vp_Si (fun q => r = q)) 0 0 (fun _ => False) := by
  refine Met.ofW (cc := cX4_fault) (maxL := 2) (ret := (some .int)) (by decide) rfl ?_
  intro p e s m args below meth c s₁ B hml hv
  obtain ⟨rfl, hP, hK, hN⟩ := hv
  have hx := B.exec
  have hb := B.bytes
  have hr := B.returns
  have hts := atoms_spec (ws := wsX4_fault) B.pre
  have hown : s.vm.findClass RX4 = some m.cls := findClass_of_methodNamed B.named
  have hlocks := B.notSynchronized
  obtain ⟨Q, hQ⟩ : ∃ Q, Q = MQ below (vp_Si (fun q => r = q)) ([.ref aM, .int p1] : List Value).toArray s 0 0 (fun _ => False) := ⟨_, rfl⟩
  rw [← hQ]
  have hS : va_S (fun _ => False) s.heap s.heap [] := va_S.rf
  have fl26 := hts (.fieldLink RX4 26 "TeleprompterModel" "faultPlace" "I") (by decide +kernel)
  have fl22 := hts (.fieldLink RX4 22 "TeleprompterModel" "faultKind" "I") (by decide +kernel)
  have inX4 : ∀ w ∈ u_ws RX4 TX4 19, w ∈ wsX4_fault := by decide +kernel
  have hl := lv_entry ([.ref aM, .int p1]) (n := 2) (Nat.le_of_ble_eq_true rfl)
  rw [lg_entry_eq]
  generalize (lg_sl ([.ref aM, .int p1]) ++ List.replicate (2 - (lg_sl ([.ref aM, .int p1])).length) Slot.unset).toArray = ls at hl ⊢
  have hl : lv_has ls 2 [(0, .ref aM), (1, .int p1)] := hl
  unfold f_X4_fault at hF
  refine lv_iload_n hx hb dX4_fault_0 rfl (lv_at hl 1 rfl) ?_
  refine lv_if_ne (tgt := 11) hx hb dX4_fault_1 (by decide) (fun c_1 => ?_) (fun c_1 => ?_)
  · have hF := (if_neg c_1).symm.trans hF
    refine lv_iload_n hx hb dX4_fault_11 rfl (lv_at hl 1 rfl) ?_
    refine lv_iconst (v := (1 : Int32)) hx hb dX4_fault_12 (by decide) ?_
    refine lv_icmp_ne (tgt := 23) hx hb dX4_fault_13 (by decide) (fun c_13 => ?_) (fun c_13 => ?_)
    · have hF := (if_neg c_13).symm.trans hF
      refine lv_iconst (v := (-1 : Int32)) hx hb dX4_fault_23 (by decide) ?_
      have hF : some (-1 : Int32) = some r := hF
      cases hF
      subst hQ
      exact W.iret hx hb hr (fun t ht hW => ⟨_, rfl, rfl, ht⟩) (fun q hq => absurd hq List.not_mem_nil) dX4_fault_24
    · have hF := (if_pos c_13).symm.trans hF
      refine lv_aload_n hx hb dX4_fault_16 rfl (lv_at hl 0 rfl) ?_
      refine va_get (D := (dC, dI)) (ci := 4) (v := .int v_faultPlace) (C := RX4) (T := TX4) (N := 19) hx hb hts inX4 hown hK hP 0 rfl rfl 8 (by decide) fl26 (fun _ h9 => h9) rfl dX4_fault_17 ?_
      refine lv_goto (tgt := 24) hx hb dX4_fault_20 (by decide) ?_
      have hF : some v_faultPlace = some r := hF
      cases hF
      subst hQ
      exact W.iret hx hb hr (fun t ht hW => ⟨_, rfl, rfl, ht⟩) (fun q hq => absurd hq List.not_mem_nil) dX4_fault_24
  · have hF := (if_pos c_1).symm.trans hF
    refine lv_aload_n hx hb dX4_fault_4 rfl (lv_at hl 0 rfl) ?_
    refine va_get (D := (dC, dI)) (ci := 4) (v := .int v_faultKind) (C := RX4) (T := TX4) (N := 19) hx hb hts inX4 hown hK hP 0 rfl rfl 7 (by decide) fl22 (fun _ h9 => h9) rfl dX4_fault_5 ?_
    refine lv_goto (tgt := 24) hx hb dX4_fault_8 (by decide) ?_
    have hF : some v_faultKind = some r := hF
    cases hF
    subst hQ
    exact W.iret hx hb hr (fun t ht hW => ⟨_, rfl, rfl, ht⟩) (fun q hq => absurd hq List.not_mem_nil) dX4_fault_24
def f_X4_isOf (p0 : Int32) (p1 : Int32) : Option Int32 :=
  if p0 = (0 : Int32) then
    (f_X4_isIn p1 (1 : Int32) (12 : Int32)).bind fun q52 =>
    if q52 &&& 1 = q52 then some q52 else none
  else if p0 = (1 : Int32) then
    (f_X4_isIn p1 (1 : Int32) (8 : Int32)).bind fun q60 =>
    if q60 &&& 1 = q60 then some q60 else none
  else if p0 = (2 : Int32) then
    (f_X4_isIn p1 (0 : Int32) (7 : Int32)).bind fun q68 =>
    if q68 &&& 1 = q68 then some q68 else none
  else if p0 = (3 : Int32) then
    (f_X4_isIn p1 (0 : Int32) (30 : Int32)).bind fun q76 =>
    if q76 &&& 1 = q76 then some q76 else none
  else if p0 = (4 : Int32) then
    (f_X4_isIn p1 (1 : Int32) (60 : Int32)).bind fun q84 =>
    if q84 &&& 1 = q84 then some q84 else none
  else if p0 = (5 : Int32) then
    (f_X4_isIn p1 (1 : Int32) (4 : Int32)).bind fun q91 =>
    if q91 &&& 1 = q91 then some q91 else none
  else if p0 = (6 : Int32) then
    (f_X4_isIn p1 (1 : Int32) (60 : Int32)).bind fun q84 =>
    if q84 &&& 1 = q84 then some q84 else none
  else if p0 = (7 : Int32) then
    (f_X4_isIn p1 (1 : Int32) (100 : Int32)).bind fun q99 =>
    if q99 &&& 1 = q99 then some q99 else none
  else if p0 = (8 : Int32) then
      (f_X4_isIn p1 (0 : Int32) (10 : Int32)).bind fun q113 =>
      if q113 = (0 : Int32) then
        some (0 : Int32)
      else
        some (1 : Int32)
    else
      some (0 : Int32)
def rm_X4_isOf : Room := { frames := 1, cells := 0, slots := 0, locals := 22 }
set_option maxHeartbeats 4000000 in
set_option maxRecDepth 100000 in
theorem c_X4_isOf (l : Launch) (dC : Nat → ClassId) (dI : Nat → Nat → Nat) (cI cZ cO : ClassId) (p0 : Int32) (p1 : Int32) (r : Int32) (hF : f_X4_isOf p0 p1 = some r) : Met l yX4_isOf wsX4_isOf rm_X4_isOf (va_Pc [.int p0, .int p1] (rdW dC dI cI cZ cO [])) (vp_Si (fun q => r = q)) 0 0 (fun _ => False) := by
  refine Met.ofW (cc := cX4_isOf) (maxL := 2) (ret := (some .boolean)) (by decide) rfl ?_
  intro p e s m args below meth c s₁ B hml hv
  obtain ⟨rfl, hP, hK, hN⟩ := hv
  have hx := B.exec
  have hb := B.bytes
  have hr := B.returns
  have hts := atoms_spec (ws := wsX4_isOf) B.pre
  have hown : s.vm.findClass RX4 = some m.cls := findClass_of_methodNamed B.named
  have hlocks := B.notSynchronized
  obtain ⟨Q, hQ⟩ : ∃ Q, Q = MQ below (vp_Si (fun q => r = q)) ([.int p0, .int p1] : List Value).toArray s 0 0 (fun _ => False) := ⟨_, rfl⟩
  rw [← hQ]
  have hS : va_S (fun _ => False) s.heap s.heap [] := va_S.rf
  have hl := lv_entry ([.int p0, .int p1]) (n := 2) (Nat.le_of_ble_eq_true rfl)
  rw [lg_entry_eq]
  generalize (lg_sl ([.int p0, .int p1]) ++ List.replicate (2 - (lg_sl ([.int p0, .int p1])).length) Slot.unset).toArray = ls at hl ⊢
  have hl : lv_has ls 2 [(0, .int p0), (1, .int p1)] := hl
  unfold f_X4_isOf at hF
  refine lv_iload_n hx hb dX4_isOf_0 rfl (lv_at hl 0 rfl) ?_
  by_cases c_1_0 : p0 = (0 : Int32)
  · have hF := (if_pos c_1_0).symm.trans hF
    refine lv_tableIn (tgt := 48) (off := 47) hx hb dX4_isOf_1 (by rw [c_1_0]; decide) (by rw [c_1_0]; decide) (by rw [c_1_0]; rfl) (by decide) ?_
    refine lv_iload_n hx hb dX4_isOf_48 rfl (lv_at hl 1 rfl) ?_
    refine lv_iconst (v := (1 : Int32)) hx hb dX4_isOf_49 (by decide) ?_
    refine lv_bipush (v := (12 : Int32)) hx hb dX4_isOf_50 (by decide) ?_
    obtain ⟨q_52, hq_52, hF⟩ := bindE hF
    have hPc := hP
    refine vp_callSi (va_Run.run (va_runS (As := [.int p1, .int (1 : Int32), .int (12 : Int32)]) (rest := []) ⟨hx, hb, hml, hown, hts⟩ (c_X4_isIn l dC dI cI cZ cO p1 (1 : Int32) (12 : Int32) q_52 hq_52) (cwS 3 hts gX4_isOf_X4_isIn rfl rfl rfl (by decide +kernel) ⟨Nat.le_of_ble_eq_true rfl, Nat.le_of_ble_eq_true rfl⟩) ⟨fb_rd, pre_rd hPc hK hN⟩ rfl rfl hl.1 rfl (lv_room (Nat.le_of_ble_eq_true rfl)) dX4_isOf_52 ⟨Nat.zero_le _, Nat.zero_le _⟩)) (fun z_52 hz_52 => ?_)
    subst hz_52
    by_cases b_55 : (q_52 &&& 1 = q_52)
    case neg => exact noneE ((if_neg b_55).symm.trans hF)
    have hF := (if_pos b_55).symm.trans hF
    have hF : some q_52 = some r := hF
    cases hF
    subst hQ
    exact W.zret (ty := .boolean) hx hb hr (nbK b_55) (fun t ht hW => ⟨_, rfl, rfl, ht⟩) (fun q hq => absurd hq List.not_mem_nil) dX4_isOf_55
  have hF := (if_neg c_1_0).symm.trans hF
  by_cases c_1_1 : p0 = (1 : Int32)
  · have hF := (if_pos c_1_1).symm.trans hF
    refine lv_tableIn (tgt := 56) (off := 55) hx hb dX4_isOf_1 (by rw [c_1_1]; decide) (by rw [c_1_1]; decide) (by rw [c_1_1]; rfl) (by decide) ?_
    refine lv_iload_n hx hb dX4_isOf_56 rfl (lv_at hl 1 rfl) ?_
    refine lv_iconst (v := (1 : Int32)) hx hb dX4_isOf_57 (by decide) ?_
    refine lv_bipush (v := (8 : Int32)) hx hb dX4_isOf_58 (by decide) ?_
    obtain ⟨q_60, hq_60, hF⟩ := bindE hF
    have hPc := hP
    refine vp_callSi (va_Run.run (va_runS (As := [.int p1, .int (1 : Int32), .int (8 : Int32)]) (rest := []) ⟨hx, hb, hml, hown, hts⟩ (c_X4_isIn l dC dI cI cZ cO p1 (1 : Int32) (8 : Int32) q_60 hq_60) (cwS 3 hts gX4_isOf_X4_isIn rfl rfl rfl (by decide +kernel) ⟨Nat.le_of_ble_eq_true rfl, Nat.le_of_ble_eq_true rfl⟩) ⟨fb_rd, pre_rd hPc hK hN⟩ rfl rfl hl.1 rfl (lv_room (Nat.le_of_ble_eq_true rfl)) dX4_isOf_60 ⟨Nat.zero_le _, Nat.zero_le _⟩)) (fun z_60 hz_60 => ?_)
    subst hz_60
    by_cases b_63 : (q_60 &&& 1 = q_60)
    case neg => exact noneE ((if_neg b_63).symm.trans hF)
    have hF := (if_pos b_63).symm.trans hF
    have hF : some q_60 = some r := hF
    cases hF
    subst hQ
    exact W.zret (ty := .boolean) hx hb hr (nbK b_63) (fun t ht hW => ⟨_, rfl, rfl, ht⟩) (fun q hq => absurd hq List.not_mem_nil) dX4_isOf_63
  have hF := (if_neg c_1_1).symm.trans hF
  by_cases c_1_2 : p0 = (2 : Int32)
  · have hF := (if_pos c_1_2).symm.trans hF
    refine lv_tableIn (tgt := 64) (off := 63) hx hb dX4_isOf_1 (by rw [c_1_2]; decide) (by rw [c_1_2]; decide) (by rw [c_1_2]; rfl) (by decide) ?_
    refine lv_iload_n hx hb dX4_isOf_64 rfl (lv_at hl 1 rfl) ?_
    refine lv_iconst (v := (0 : Int32)) hx hb dX4_isOf_65 (by decide) ?_
    refine lv_bipush (v := (7 : Int32)) hx hb dX4_isOf_66 (by decide) ?_
    obtain ⟨q_68, hq_68, hF⟩ := bindE hF
    have hPc := hP
    refine vp_callSi (va_Run.run (va_runS (As := [.int p1, .int (0 : Int32), .int (7 : Int32)]) (rest := []) ⟨hx, hb, hml, hown, hts⟩ (c_X4_isIn l dC dI cI cZ cO p1 (0 : Int32) (7 : Int32) q_68 hq_68) (cwS 3 hts gX4_isOf_X4_isIn rfl rfl rfl (by decide +kernel) ⟨Nat.le_of_ble_eq_true rfl, Nat.le_of_ble_eq_true rfl⟩) ⟨fb_rd, pre_rd hPc hK hN⟩ rfl rfl hl.1 rfl (lv_room (Nat.le_of_ble_eq_true rfl)) dX4_isOf_68 ⟨Nat.zero_le _, Nat.zero_le _⟩)) (fun z_68 hz_68 => ?_)
    subst hz_68
    by_cases b_71 : (q_68 &&& 1 = q_68)
    case neg => exact noneE ((if_neg b_71).symm.trans hF)
    have hF := (if_pos b_71).symm.trans hF
    have hF : some q_68 = some r := hF
    cases hF
    subst hQ
    exact W.zret (ty := .boolean) hx hb hr (nbK b_71) (fun t ht hW => ⟨_, rfl, rfl, ht⟩) (fun q hq => absurd hq List.not_mem_nil) dX4_isOf_71
  have hF := (if_neg c_1_2).symm.trans hF
  by_cases c_1_3 : p0 = (3 : Int32)
  · have hF := (if_pos c_1_3).symm.trans hF
    refine lv_tableIn (tgt := 72) (off := 71) hx hb dX4_isOf_1 (by rw [c_1_3]; decide) (by rw [c_1_3]; decide) (by rw [c_1_3]; rfl) (by decide) ?_
    refine lv_iload_n hx hb dX4_isOf_72 rfl (lv_at hl 1 rfl) ?_
    refine lv_iconst (v := (0 : Int32)) hx hb dX4_isOf_73 (by decide) ?_
    refine lv_bipush (v := (30 : Int32)) hx hb dX4_isOf_74 (by decide) ?_
    obtain ⟨q_76, hq_76, hF⟩ := bindE hF
    have hPc := hP
    refine vp_callSi (va_Run.run (va_runS (As := [.int p1, .int (0 : Int32), .int (30 : Int32)]) (rest := []) ⟨hx, hb, hml, hown, hts⟩ (c_X4_isIn l dC dI cI cZ cO p1 (0 : Int32) (30 : Int32) q_76 hq_76) (cwS 3 hts gX4_isOf_X4_isIn rfl rfl rfl (by decide +kernel) ⟨Nat.le_of_ble_eq_true rfl, Nat.le_of_ble_eq_true rfl⟩) ⟨fb_rd, pre_rd hPc hK hN⟩ rfl rfl hl.1 rfl (lv_room (Nat.le_of_ble_eq_true rfl)) dX4_isOf_76 ⟨Nat.zero_le _, Nat.zero_le _⟩)) (fun z_76 hz_76 => ?_)
    subst hz_76
    by_cases b_79 : (q_76 &&& 1 = q_76)
    case neg => exact noneE ((if_neg b_79).symm.trans hF)
    have hF := (if_pos b_79).symm.trans hF
    have hF : some q_76 = some r := hF
    cases hF
    subst hQ
    exact W.zret (ty := .boolean) hx hb hr (nbK b_79) (fun t ht hW => ⟨_, rfl, rfl, ht⟩) (fun q hq => absurd hq List.not_mem_nil) dX4_isOf_79
  have hF := (if_neg c_1_3).symm.trans hF
  by_cases c_1_4 : p0 = (4 : Int32)
  · have hF := (if_pos c_1_4).symm.trans hF
    refine lv_tableIn (tgt := 80) (off := 79) hx hb dX4_isOf_1 (by rw [c_1_4]; decide) (by rw [c_1_4]; decide) (by rw [c_1_4]; rfl) (by decide) ?_
    refine lv_iload_n hx hb dX4_isOf_80 rfl (lv_at hl 1 rfl) ?_
    refine lv_iconst (v := (1 : Int32)) hx hb dX4_isOf_81 (by decide) ?_
    refine lv_bipush (v := (60 : Int32)) hx hb dX4_isOf_82 (by decide) ?_
    obtain ⟨q_84, hq_84, hF⟩ := bindE hF
    have hPc := hP
    refine vp_callSi (va_Run.run (va_runS (As := [.int p1, .int (1 : Int32), .int (60 : Int32)]) (rest := []) ⟨hx, hb, hml, hown, hts⟩ (c_X4_isIn l dC dI cI cZ cO p1 (1 : Int32) (60 : Int32) q_84 hq_84) (cwS 3 hts gX4_isOf_X4_isIn rfl rfl rfl (by decide +kernel) ⟨Nat.le_of_ble_eq_true rfl, Nat.le_of_ble_eq_true rfl⟩) ⟨fb_rd, pre_rd hPc hK hN⟩ rfl rfl hl.1 rfl (lv_room (Nat.le_of_ble_eq_true rfl)) dX4_isOf_84 ⟨Nat.zero_le _, Nat.zero_le _⟩)) (fun z_84 hz_84 => ?_)
    subst hz_84
    by_cases b_87 : (q_84 &&& 1 = q_84)
    case neg => exact noneE ((if_neg b_87).symm.trans hF)
    have hF := (if_pos b_87).symm.trans hF
    have hF : some q_84 = some r := hF
    cases hF
    subst hQ
    exact W.zret (ty := .boolean) hx hb hr (nbK b_87) (fun t ht hW => ⟨_, rfl, rfl, ht⟩) (fun q hq => absurd hq List.not_mem_nil) dX4_isOf_87
  have hF := (if_neg c_1_4).symm.trans hF
  by_cases c_1_5 : p0 = (5 : Int32)
  · have hF := (if_pos c_1_5).symm.trans hF
    refine lv_tableIn (tgt := 88) (off := 87) hx hb dX4_isOf_1 (by rw [c_1_5]; decide) (by rw [c_1_5]; decide) (by rw [c_1_5]; rfl) (by decide) ?_
    refine lv_iload_n hx hb dX4_isOf_88 rfl (lv_at hl 1 rfl) ?_
    refine lv_iconst (v := (1 : Int32)) hx hb dX4_isOf_89 (by decide) ?_
    refine lv_iconst (v := (4 : Int32)) hx hb dX4_isOf_90 (by decide) ?_
    obtain ⟨q_91, hq_91, hF⟩ := bindE hF
    have hPc := hP
    refine vp_callSi (va_Run.run (va_runS (As := [.int p1, .int (1 : Int32), .int (4 : Int32)]) (rest := []) ⟨hx, hb, hml, hown, hts⟩ (c_X4_isIn l dC dI cI cZ cO p1 (1 : Int32) (4 : Int32) q_91 hq_91) (cwS 3 hts gX4_isOf_X4_isIn rfl rfl rfl (by decide +kernel) ⟨Nat.le_of_ble_eq_true rfl, Nat.le_of_ble_eq_true rfl⟩) ⟨fb_rd, pre_rd hPc hK hN⟩ rfl rfl hl.1 rfl (lv_room (Nat.le_of_ble_eq_true rfl)) dX4_isOf_91 ⟨Nat.zero_le _, Nat.zero_le _⟩)) (fun z_91 hz_91 => ?_)
    subst hz_91
    by_cases b_94 : (q_91 &&& 1 = q_91)
    case neg => exact noneE ((if_neg b_94).symm.trans hF)
    have hF := (if_pos b_94).symm.trans hF
    have hF : some q_91 = some r := hF
    cases hF
    subst hQ
    exact W.zret (ty := .boolean) hx hb hr (nbK b_94) (fun t ht hW => ⟨_, rfl, rfl, ht⟩) (fun q hq => absurd hq List.not_mem_nil) dX4_isOf_94
  have hF := (if_neg c_1_5).symm.trans hF
  by_cases c_1_6 : p0 = (6 : Int32)
  · have hF := (if_pos c_1_6).symm.trans hF
    refine lv_tableIn (tgt := 80) (off := 79) hx hb dX4_isOf_1 (by rw [c_1_6]; decide) (by rw [c_1_6]; decide) (by rw [c_1_6]; rfl) (by decide) ?_
    refine lv_iload_n hx hb dX4_isOf_80 rfl (lv_at hl 1 rfl) ?_
    refine lv_iconst (v := (1 : Int32)) hx hb dX4_isOf_81 (by decide) ?_
    refine lv_bipush (v := (60 : Int32)) hx hb dX4_isOf_82 (by decide) ?_
    obtain ⟨q_84, hq_84, hF⟩ := bindE hF
    have hPc := hP
    refine vp_callSi (va_Run.run (va_runS (As := [.int p1, .int (1 : Int32), .int (60 : Int32)]) (rest := []) ⟨hx, hb, hml, hown, hts⟩ (c_X4_isIn l dC dI cI cZ cO p1 (1 : Int32) (60 : Int32) q_84 hq_84) (cwS 3 hts gX4_isOf_X4_isIn rfl rfl rfl (by decide +kernel) ⟨Nat.le_of_ble_eq_true rfl, Nat.le_of_ble_eq_true rfl⟩) ⟨fb_rd, pre_rd hPc hK hN⟩ rfl rfl hl.1 rfl (lv_room (Nat.le_of_ble_eq_true rfl)) dX4_isOf_84 ⟨Nat.zero_le _, Nat.zero_le _⟩)) (fun z_84 hz_84 => ?_)
    subst hz_84
    by_cases b_87 : (q_84 &&& 1 = q_84)
    case neg => exact noneE ((if_neg b_87).symm.trans hF)
    have hF := (if_pos b_87).symm.trans hF
    have hF : some q_84 = some r := hF
    cases hF
    subst hQ
    exact W.zret (ty := .boolean) hx hb hr (nbK b_87) (fun t ht hW => ⟨_, rfl, rfl, ht⟩) (fun q hq => absurd hq List.not_mem_nil) dX4_isOf_87
  have hF := (if_neg c_1_6).symm.trans hF
  by_cases c_1_7 : p0 = (7 : Int32)
  · have hF := (if_pos c_1_7).symm.trans hF
    refine lv_tableIn (tgt := 95) (off := 94) hx hb dX4_isOf_1 (by rw [c_1_7]; decide) (by rw [c_1_7]; decide) (by rw [c_1_7]; rfl) (by decide) ?_
    refine lv_iload_n hx hb dX4_isOf_95 rfl (lv_at hl 1 rfl) ?_
    refine lv_iconst (v := (1 : Int32)) hx hb dX4_isOf_96 (by decide) ?_
    refine lv_bipush (v := (100 : Int32)) hx hb dX4_isOf_97 (by decide) ?_
    obtain ⟨q_99, hq_99, hF⟩ := bindE hF
    have hPc := hP
    refine vp_callSi (va_Run.run (va_runS (As := [.int p1, .int (1 : Int32), .int (100 : Int32)]) (rest := []) ⟨hx, hb, hml, hown, hts⟩ (c_X4_isIn l dC dI cI cZ cO p1 (1 : Int32) (100 : Int32) q_99 hq_99) (cwS 3 hts gX4_isOf_X4_isIn rfl rfl rfl (by decide +kernel) ⟨Nat.le_of_ble_eq_true rfl, Nat.le_of_ble_eq_true rfl⟩) ⟨fb_rd, pre_rd hPc hK hN⟩ rfl rfl hl.1 rfl (lv_room (Nat.le_of_ble_eq_true rfl)) dX4_isOf_99 ⟨Nat.zero_le _, Nat.zero_le _⟩)) (fun z_99 hz_99 => ?_)
    subst hz_99
    by_cases b_102 : (q_99 &&& 1 = q_99)
    case neg => exact noneE ((if_neg b_102).symm.trans hF)
    have hF := (if_pos b_102).symm.trans hF
    have hF : some q_99 = some r := hF
    cases hF
    subst hQ
    exact W.zret (ty := .boolean) hx hb hr (nbK b_102) (fun t ht hW => ⟨_, rfl, rfl, ht⟩) (fun q hq => absurd hq List.not_mem_nil) dX4_isOf_102
  have hF := (if_neg c_1_7).symm.trans hF
  refine lv_tableOut (tgt := 103) hx hb dX4_isOf_1 (tsOut (by decide) (by decide) (by
      intro k h1 h2; rcases (show k = 0 ∨ k = 1 ∨ k = 2 ∨ k = 3 ∨ k = 4 ∨ k = 5 ∨ k = 6 ∨ k = 7 by omega) with rfl | rfl | rfl | rfl | rfl | rfl | rfl | rfl
      · exact c_1_0
      · exact c_1_1
      · exact c_1_2
      · exact c_1_3
      · exact c_1_4
      · exact c_1_5
      · exact c_1_6
      · exact c_1_7
      )) (by decide) ?_
  refine lv_iload_n hx hb dX4_isOf_103 rfl (lv_at hl 0 rfl) ?_
  refine lv_bipush (v := (8 : Int32)) hx hb dX4_isOf_104 (by decide) ?_
  refine lv_icmp_ne (tgt := 123) hx hb dX4_isOf_106 (by decide) (fun c_106 => ?_) (fun c_106 => ?_)
  · have hF := (if_neg c_106).symm.trans hF
    refine lv_iconst (v := (0 : Int32)) hx hb dX4_isOf_123 (by decide) ?_
    have hF : some (0 : Int32) = some r := hF
    cases hF
    subst hQ
    exact W.zret (ty := .boolean) hx hb hr rfl (fun t ht hW => ⟨_, rfl, rfl, ht⟩) (fun q hq => absurd hq List.not_mem_nil) dX4_isOf_124
  · have hF := (if_pos c_106).symm.trans hF
    refine lv_iload_n hx hb dX4_isOf_109 rfl (lv_at hl 1 rfl) ?_
    refine lv_iconst (v := (0 : Int32)) hx hb dX4_isOf_110 (by decide) ?_
    refine lv_bipush (v := (10 : Int32)) hx hb dX4_isOf_111 (by decide) ?_
    obtain ⟨q_113, hq_113, hF⟩ := bindE hF
    have hPc := hP
    refine vp_callSi (va_Run.run (va_runS (As := [.int p1, .int (0 : Int32), .int (10 : Int32)]) (rest := []) ⟨hx, hb, hml, hown, hts⟩ (c_X4_isIn l dC dI cI cZ cO p1 (0 : Int32) (10 : Int32) q_113 hq_113) (cwS 3 hts gX4_isOf_X4_isIn rfl rfl rfl (by decide +kernel) ⟨Nat.le_of_ble_eq_true rfl, Nat.le_of_ble_eq_true rfl⟩) ⟨fb_rd, pre_rd hPc hK hN⟩ rfl rfl hl.1 rfl (lv_room (Nat.le_of_ble_eq_true rfl)) dX4_isOf_113 ⟨Nat.zero_le _, Nat.zero_le _⟩)) (fun z_113 hz_113 => ?_)
    subst hz_113
    refine lv_if_eq (tgt := 123) hx hb dX4_isOf_116 (by decide) (fun c_116 => ?_) (fun c_116 => ?_)
    · have hF := (if_pos c_116).symm.trans hF
      refine lv_iconst (v := (0 : Int32)) hx hb dX4_isOf_123 (by decide) ?_
      have hF : some (0 : Int32) = some r := hF
      cases hF
      subst hQ
      exact W.zret (ty := .boolean) hx hb hr rfl (fun t ht hW => ⟨_, rfl, rfl, ht⟩) (fun q hq => absurd hq List.not_mem_nil) dX4_isOf_124
    · have hF := (if_neg c_116).symm.trans hF
      refine lv_iconst (v := (1 : Int32)) hx hb dX4_isOf_119 (by decide) ?_
      refine lv_goto (tgt := 124) hx hb dX4_isOf_120 (by decide) ?_
      have hF : some (1 : Int32) = some r := hF
      cases hF
      subst hQ
      exact W.zret (ty := .boolean) hx hb hr rfl (fun t ht hW => ⟨_, rfl, rfl, ht⟩) (fun q hq => absurd hq List.not_mem_nil) dX4_isOf_124
def f_X4_cues_4 (v_w : (Nat → Int32)) : Nat → Int32 → Int32 → Option Int32
  | 0, _, _ => none
  | n + 1, x1, x2 =>
    if (v_w 9) ≤ x2 then
      some x1
    else
      if ((270 : Int32) + x2) < 0 ∨ 510 ≤ (((270 : Int32) + x2)).toNatClampNeg then none else
      if (v_w ((((270 : Int32) + x2)).toNatClampNeg)) = (0 : Int32) then
        f_X4_cues_4 v_w n (x1 + (0 : Int32)) (x2 + 1)
      else
        f_X4_cues_4 v_w n (x1 + (1 : Int32)) (x2 + 1)
def f_X4_cues (v_w : (Nat → Int32)) : Option Int32 :=
  f_X4_cues_4 v_w gas (0 : Int32) (0 : Int32)
def rm_X4_cues : Room := { frames := 0, cells := 0, slots := 0, locals := 0 }
set_option maxHeartbeats 4000000 in
set_option maxRecDepth 100000 in
theorem c_X4_cues (l : Launch) (dC : Nat → ClassId) (dI : Nat → Nat → Nat) (cI cZ cO : ClassId) (aM a_w a_past a_images a_text a_rowOf a_readLetter a_readCue a_readPassage a_held : Nat) (v_w : (Nat → Int32)) (v_past : (Nat → Int32)) (v_pastMany : Int32) (v_images : (Nat → Int32)) (v_filled : Int32) (v_text : (Nat → Int32)) (v_length : Int32) (v_faultKind : Int32) (v_faultPlace : Int32) (v_rowOf : (Nat → Int32)) (v_rows : Int32) (v_wrongKind : Int32) (v_wrongPlace : Int32) (v_readWords : Int32) (v_readPassages : Int32) (v_readLetter : (Nat → Int32)) (v_readCue : (Nat → Int32)) (v_readPassage : (Nat → Int32)) (v_held : (Nat → Int32)) (r : Int32) (hF : f_X4_cues v_w = some r) : Met l yX4_cues wsX4_cues rm_X4_cues (va_Pc [.ref aM] (rdW dC dI cI cZ cO [(aM, .inr (4, [.ref a_w, .ref a_past, .int v_pastMany, .ref a_images, .int v_filled, .ref a_text, .int v_length, .int v_faultKind, .int v_faultPlace, .ref a_rowOf, .int v_rows, .int v_wrongKind, .int v_wrongPlace, .int v_readWords, .int v_readPassages, .ref a_readLetter, .ref a_readCue, .ref a_readPassage, .ref a_held])), (a_w, .inl (cI, 510, .inl v_w)), (a_past, .inl (cI, 4080, .inl v_past)), (a_images, .inl (cI, 1020, .inl v_images)), (a_text, .inl (cI, 140, .inl v_text)), (a_rowOf, .inl (cI, 120, .inl v_rowOf)), (a_readLetter, .inl (cI, 120, .inl v_readLetter)), (a_readCue, .inl (cI, 120, .inl v_readCue)), (a_readPassage, .inl (cI, 120, .inl v_readPassage)), (a_held, .inl (cI, 510, .inl v_held))])) (vp_Si (fun q => r = q)) 0 0 (fun _ => False) := by
  refine Met.ofW (cc := cX4_cues) (maxL := 3) (ret := (some .int)) (by decide) rfl ?_
  intro p e s m args below meth c s₁ B hml hv
  obtain ⟨rfl, hP, hK, hN⟩ := hv
  have hx := B.exec
  have hb := B.bytes
  have hr := B.returns
  have hts := atoms_spec (ws := wsX4_cues) B.pre
  have hown : s.vm.findClass RX4 = some m.cls := findClass_of_methodNamed B.named
  have hlocks := B.notSynchronized
  obtain ⟨Q, hQ⟩ : ∃ Q, Q = MQ below (vp_Si (fun q => r = q)) ([.ref aM] : List Value).toArray s 0 0 (fun _ => False) := ⟨_, rfl⟩
  rw [← hQ]
  have hS : va_S (fun _ => False) s.heap s.heap [] := va_S.rf
  have fl7 := hts (.fieldLink RX4 7 "TeleprompterModel" "w" "[I") (by decide +kernel)
  have inX4 : ∀ w ∈ u_ws RX4 TX4 19, w ∈ wsX4_cues := by decide +kernel
  have hl := lv_entry ([.ref aM]) (n := 3) (Nat.le_of_ble_eq_true rfl)
  rw [lg_entry_eq]
  generalize (lg_sl ([.ref aM]) ++ List.replicate (3 - (lg_sl ([.ref aM])).length) Slot.unset).toArray = ls at hl ⊢
  have hl : lv_has ls 3 [(0, .ref aM)] := hl
  have B4 : ∀ (n_4 : Nat) (x1_4 : Int32) (x2_4 : Int32), f_X4_cues_4 v_w n_4 x1_4 x2_4 = some r → ∀ ls : Array Slot, lv_has ls 3 [(0, .ref aM), (1, .int x1_4), (2, .int x2_4)] → W p l e (headSpec wsX4_cues rm_X4_cues).room s m ([.ref aM] : List Value).toArray below meth c s.heap [] 0 0 Q (F0 m 4 ls []) := by
    intro n_4
    induction n_4 with
    | zero => intro x1_4 x2_4 hF; exact noneE hF
    | succ n_4 ih4 =>
      intro x1_4 x2_4 hF ls hl
      rw [f_X4_cues_4] at hF
      refine lv_iload_n hx hb dX4_cues_4 rfl (lv_at hl 2 rfl) ?_
      refine lv_aload_n hx hb dX4_cues_5 rfl (lv_at hl 0 rfl) ?_
      refine va_get (D := (dC, dI)) (ci := 4) (v := .ref a_w) (C := RX4) (T := TX4) (N := 19) hx hb hts inX4 hown hK hP 0 rfl rfl 0 (by decide) fl7 (fun _ h9 => h9) rfl dX4_cues_6 ?_
      refine lv_bipush (v := (9 : Int32)) hx hb dX4_cues_9 (by decide) ?_
      refine va_ialdK hx hb hK hP 1 0 rfl rfl (inK (by decide)) (j := 9) (by decide) dX4_cues_11 ?_
      refine lv_icmp_ge (tgt := 42) hx hb dX4_cues_12 (by decide) (fun c_12 => ?_) (fun c_12 => ?_)
      · have hF := (if_pos c_12).symm.trans hF
        refine lv_iload_n hx hb dX4_cues_42 rfl (lv_at hl 1 rfl) ?_
        have hF : some x1_4 = some r := hF
        cases hF
        subst hQ
        exact W.iret hx hb hr (fun t ht hW => ⟨_, rfl, rfl, ht⟩) (fun q hq => absurd hq List.not_mem_nil) dX4_cues_43
      · have hF := (if_neg c_12).symm.trans hF
        refine lv_iload_n hx hb dX4_cues_15 rfl (lv_at hl 1 rfl) ?_
        refine lv_aload_n hx hb dX4_cues_16 rfl (lv_at hl 0 rfl) ?_
        refine va_get (D := (dC, dI)) (ci := 4) (v := .ref a_w) (C := RX4) (T := TX4) (N := 19) hx hb hts inX4 hown hK hP 0 rfl rfl 0 (by decide) fl7 (fun _ h9 => h9) rfl dX4_cues_17 ?_
        refine lv_sipush (v := (270 : Int32)) hx hb dX4_cues_20 (by decide) ?_
        refine lv_iload_n hx hb dX4_cues_23 rfl (lv_at hl 2 rfl) ?_
        refine lv_iadd hx hb dX4_cues_24 ?_
        by_cases b_25 : (((270 : Int32) + x2_4) < 0 ∨ 510 ≤ (((270 : Int32) + x2_4)).toNatClampNeg)
        · exact noneE ((if_pos b_25).symm.trans hF)
        have hF := (if_neg b_25).symm.trans hF
        refine va_iald hx hb hK hP 1 0 rfl rfl b_25 dX4_cues_25 ?_
        refine lv_if_eq (tgt := 33) hx hb dX4_cues_26 (by decide) (fun c_26 => ?_) (fun c_26 => ?_)
        · have hF := (if_pos c_26).symm.trans hF
          refine lv_iconst (v := (0 : Int32)) hx hb dX4_cues_33 (by decide) ?_
          refine lv_iadd hx hb dX4_cues_34 ?_
          refine lv_istore_n (lv' := [(1, .int (x1_4 + (0 : Int32))), (0, .ref aM), (2, .int x2_4)]) hx hb dX4_cues_35 rfl hl (by decide) rfl (fun ls hl => ?_)
          refine lv_iinc (v := (x2_4 + 1)) (lv' := [(2, .int (x2_4 + 1)), (1, .int (x1_4 + (0 : Int32))), (0, .ref aM)]) hx hb dX4_cues_36 hl (k := 2) rfl rfl (by decide) rfl (fun ls hl => ?_)
          refine lv_goto (tgt := 4) hx hb dX4_cues_39 (by decide) ?_
          exact ih4 (x1_4 + (0 : Int32)) (x2_4 + 1) hF _ (lv_sub hl [2, 1, 0] rfl)
        · have hF := (if_neg c_26).symm.trans hF
          refine lv_iconst (v := (1 : Int32)) hx hb dX4_cues_29 (by decide) ?_
          refine lv_goto (tgt := 34) hx hb dX4_cues_30 (by decide) ?_
          refine lv_iadd hx hb dX4_cues_34 ?_
          refine lv_istore_n (lv' := [(1, .int (x1_4 + (1 : Int32))), (0, .ref aM), (2, .int x2_4)]) hx hb dX4_cues_35 rfl hl (by decide) rfl (fun ls hl => ?_)
          refine lv_iinc (v := (x2_4 + 1)) (lv' := [(2, .int (x2_4 + 1)), (1, .int (x1_4 + (1 : Int32))), (0, .ref aM)]) hx hb dX4_cues_36 hl (k := 2) rfl rfl (by decide) rfl (fun ls hl => ?_)
          refine lv_goto (tgt := 4) hx hb dX4_cues_39 (by decide) ?_
          exact ih4 (x1_4 + (1 : Int32)) (x2_4 + 1) hF _ (lv_sub hl [2, 1, 0] rfl)
  unfold f_X4_cues at hF
  refine lv_iconst (v := (0 : Int32)) hx hb dX4_cues_0 (by decide) ?_
  refine lv_istore_n (lv' := [(1, .int (0 : Int32)), (0, .ref aM)]) hx hb dX4_cues_1 rfl hl (by decide) rfl (fun ls hl => ?_)
  refine lv_iconst (v := (0 : Int32)) hx hb dX4_cues_2 (by decide) ?_
  refine lv_istore_n (lv' := [(2, .int (0 : Int32)), (1, .int (0 : Int32)), (0, .ref aM)]) hx hb dX4_cues_3 rfl hl (by decide) rfl (fun ls hl => ?_)
  exact B4 gas (0 : Int32) (0 : Int32) hF _ (lv_sub hl [2, 1, 0] rfl)
def f_X4_told (p1 : Int32) (v_w : (Nat → Int32)) (v_pastMany : Int32) (v_rowOf : (Nat → Int32)) (v_rows : Int32) : Option Int32 :=
  if p1 = (0 : Int32) then
    some (v_w 9)
  else if p1 = (1 : Int32) then
    some v_rows
  else if p1 = (2 : Int32) then
    if (((390 : Int32) + (v_w 9)) - (1 : Int32)) < 0 ∨ 510 ≤ ((((390 : Int32) + (v_w 9)) - (1 : Int32))).toNatClampNeg then none else
    some ((v_w (((((390 : Int32) + (v_w 9)) - (1 : Int32))).toNatClampNeg)) + (1 : Int32))
  else if p1 = (3 : Int32) then
    (f_X4_cues v_w).bind fun q127 =>
    some q127
  else if p1 = (4 : Int32) then
    some (v_w 10)
  else if p1 = (5 : Int32) then
    some (v_w 11)
  else if p1 = (6 : Int32) then
    some (v_w 12)
  else if p1 = (7 : Int32) then
    (f_X4_estimated v_w).bind fun q156 =>
    some q156
  else if p1 = (8 : Int32) then
    some (v_w 14)
  else if p1 = (9 : Int32) then
    (f_X4_desired v_w v_rowOf v_rows).bind fun q169 =>
    some q169
  else if p1 = (10 : Int32) then
    if (((15 : Int32) + p1) - (10 : Int32)) < 0 ∨ 510 ≤ ((((15 : Int32) + p1) - (10 : Int32))).toNatClampNeg then none else
    some (v_w (((((15 : Int32) + p1) - (10 : Int32))).toNatClampNeg))
  else if p1 = (11 : Int32) then
    if (((15 : Int32) + p1) - (10 : Int32)) < 0 ∨ 510 ≤ ((((15 : Int32) + p1) - (10 : Int32))).toNatClampNeg then none else
    some (v_w (((((15 : Int32) + p1) - (10 : Int32))).toNatClampNeg))
  else if p1 = (12 : Int32) then
    if (((15 : Int32) + p1) - (10 : Int32)) < 0 ∨ 510 ≤ ((((15 : Int32) + p1) - (10 : Int32))).toNatClampNeg then none else
    some (v_w (((((15 : Int32) + p1) - (10 : Int32))).toNatClampNeg))
  else if p1 = (13 : Int32) then
    if (((15 : Int32) + p1) - (10 : Int32)) < 0 ∨ 510 ≤ ((((15 : Int32) + p1) - (10 : Int32))).toNatClampNeg then none else
    some (v_w (((((15 : Int32) + p1) - (10 : Int32))).toNatClampNeg))
  else if p1 = (14 : Int32) then
    if (((15 : Int32) + p1) - (10 : Int32)) < 0 ∨ 510 ≤ ((((15 : Int32) + p1) - (10 : Int32))).toNatClampNeg then none else
    some (v_w (((((15 : Int32) + p1) - (10 : Int32))).toNatClampNeg))
  else if p1 = (15 : Int32) then
    some (v_w 25)
  else if p1 = (16 : Int32) then
    (f_X4_nextCue v_w).bind fun q195 =>
    some q195
  else if p1 = (17 : Int32) then
    some (v_w 20)
  else if p1 = (18 : Int32) then
    some v_pastMany
  else some (-1 : Int32)
def rm_X4_told : Room := { frames := 3, cells := 0, slots := 0, locals := 64 }
set_option maxHeartbeats 4000000 in
set_option maxRecDepth 100000 in
theorem c_X4_told (l : Launch) (dC : Nat → ClassId) (dI : Nat → Nat → Nat) (cI cZ cO : ClassId) (aM a_w a_past a_images a_text a_rowOf a_readLetter a_readCue a_readPassage a_held : Nat) (p1 : Int32) (v_w : (Nat → Int32)) (v_past : (Nat → Int32)) (v_pastMany : Int32) (v_images : (Nat → Int32)) (v_filled : Int32) (v_text : (Nat → Int32)) (v_length : Int32) (v_faultKind : Int32) (v_faultPlace : Int32) (v_rowOf : (Nat → Int32)) (v_rows : Int32) (v_wrongKind : Int32) (v_wrongPlace : Int32) (v_readWords : Int32) (v_readPassages : Int32) (v_readLetter : (Nat → Int32)) (v_readCue : (Nat → Int32)) (v_readPassage : (Nat → Int32)) (v_held : (Nat → Int32)) (r : Int32) (hF : f_X4_told p1 v_w v_pastMany v_rowOf v_rows = some r) : Met l yX4_told wsX4_told rm_X4_told (va_Pc [.ref aM, .int p1] (rdW dC dI cI cZ cO [(aM, .inr (4, [.ref a_w, .ref a_past, .int v_pastMany, .ref a_images, .int v_filled, .ref a_text, .int v_length, .int v_faultKind, .int v_faultPlace, .ref a_rowOf, .int v_rows, .int v_wrongKind, .int v_wrongPlace, .int v_readWords, .int v_readPassages, .ref a_readLetter, .ref a_readCue, .ref a_readPassage, .ref a_held])), (a_w, .inl (cI, 510, .inl v_w)), (a_past, .inl (cI, 4080, .inl v_past)), (a_images, .inl (cI, 1020, .inl v_images)), (a_text, .inl (cI, 140, .inl v_text)), (a_rowOf, .inl (cI, 120, .inl v_rowOf)), (a_readLetter, .inl (cI, 120, .inl v_readLetter)), (a_readCue, .inl (cI, 120, .inl v_readCue)), (a_readPassage, .inl (cI, 120, .inl v_readPassage)), (a_held, .inl (cI, 510, .inl v_held))])) (vp_Si (fun q => r = q)) 0 0 (fun _ => False) := by
  refine Met.ofW (cc := cX4_told) (maxL := 2) (ret := (some .int)) (by decide) rfl ?_
  intro p e s m args below meth c s₁ B hml hv
  obtain ⟨rfl, hP, hK, hN⟩ := hv
  have hx := B.exec
  have hb := B.bytes
  have hr := B.returns
  have hts := atoms_spec (ws := wsX4_told) B.pre
  have hown : s.vm.findClass RX4 = some m.cls := findClass_of_methodNamed B.named
  have hlocks := B.notSynchronized
  obtain ⟨Q, hQ⟩ : ∃ Q, Q = MQ below (vp_Si (fun q => r = q)) ([.ref aM, .int p1] : List Value).toArray s 0 0 (fun _ => False) := ⟨_, rfl⟩
  rw [← hQ]
  have hS : va_S (fun _ => False) s.heap s.heap [] := va_S.rf
  have fl7 := hts (.fieldLink RX4 7 "TeleprompterModel" "w" "[I") (by decide +kernel)
  have fl50 := hts (.fieldLink RX4 50 "TeleprompterModel" "rows" "I") (by decide +kernel)
  have fl47 := hts (.fieldLink RX4 47 "TeleprompterModel" "pastMany" "I") (by decide +kernel)
  have inX4 : ∀ w ∈ u_ws RX4 TX4 19, w ∈ wsX4_told := by decide +kernel
  have hl := lv_entry ([.ref aM, .int p1]) (n := 2) (Nat.le_of_ble_eq_true rfl)
  rw [lg_entry_eq]
  generalize (lg_sl ([.ref aM, .int p1]) ++ List.replicate (2 - (lg_sl ([.ref aM, .int p1])).length) Slot.unset).toArray = ls at hl ⊢
  have hl : lv_has ls 2 [(0, .ref aM), (1, .int p1)] := hl
  unfold f_X4_told at hF
  refine lv_iload_n hx hb dX4_told_0 rfl (lv_at hl 1 rfl) ?_
  by_cases c_1_0 : p1 = (0 : Int32)
  · have hF := (if_pos c_1_0).symm.trans hF
    refine lv_tableIn (tgt := 92) (off := 91) hx hb dX4_told_1 (by rw [c_1_0]; decide) (by rw [c_1_0]; decide) (by rw [c_1_0]; rfl) (by decide) ?_
    refine lv_aload_n hx hb dX4_told_92 rfl (lv_at hl 0 rfl) ?_
    refine va_get (D := (dC, dI)) (ci := 4) (v := .ref a_w) (C := RX4) (T := TX4) (N := 19) hx hb hts inX4 hown hK hP 0 rfl rfl 0 (by decide) fl7 (fun _ h9 => h9) rfl dX4_told_93 ?_
    refine lv_bipush (v := (9 : Int32)) hx hb dX4_told_96 (by decide) ?_
    refine va_ialdK hx hb hK hP 1 0 rfl rfl (inK (by decide)) (j := 9) (by decide) dX4_told_98 ?_
    have hF : some (v_w 9) = some r := hF
    cases hF
    subst hQ
    exact W.iret hx hb hr (fun t ht hW => ⟨_, rfl, rfl, ht⟩) (fun q hq => absurd hq List.not_mem_nil) dX4_told_99
  have hF := (if_neg c_1_0).symm.trans hF
  by_cases c_1_1 : p1 = (1 : Int32)
  · have hF := (if_pos c_1_1).symm.trans hF
    refine lv_tableIn (tgt := 100) (off := 99) hx hb dX4_told_1 (by rw [c_1_1]; decide) (by rw [c_1_1]; decide) (by rw [c_1_1]; rfl) (by decide) ?_
    refine lv_aload_n hx hb dX4_told_100 rfl (lv_at hl 0 rfl) ?_
    refine va_get (D := (dC, dI)) (ci := 4) (v := .int v_rows) (C := RX4) (T := TX4) (N := 19) hx hb hts inX4 hown hK hP 0 rfl rfl 10 (by decide) fl50 (fun _ h9 => h9) rfl dX4_told_101 ?_
    have hF : some v_rows = some r := hF
    cases hF
    subst hQ
    exact W.iret hx hb hr (fun t ht hW => ⟨_, rfl, rfl, ht⟩) (fun q hq => absurd hq List.not_mem_nil) dX4_told_104
  have hF := (if_neg c_1_1).symm.trans hF
  by_cases c_1_2 : p1 = (2 : Int32)
  · have hF := (if_pos c_1_2).symm.trans hF
    refine lv_tableIn (tgt := 105) (off := 104) hx hb dX4_told_1 (by rw [c_1_2]; decide) (by rw [c_1_2]; decide) (by rw [c_1_2]; rfl) (by decide) ?_
    refine lv_aload_n hx hb dX4_told_105 rfl (lv_at hl 0 rfl) ?_
    refine va_get (D := (dC, dI)) (ci := 4) (v := .ref a_w) (C := RX4) (T := TX4) (N := 19) hx hb hts inX4 hown hK hP 0 rfl rfl 0 (by decide) fl7 (fun _ h9 => h9) rfl dX4_told_106 ?_
    refine lv_sipush (v := (390 : Int32)) hx hb dX4_told_109 (by decide) ?_
    refine lv_aload_n hx hb dX4_told_112 rfl (lv_at hl 0 rfl) ?_
    refine va_get (D := (dC, dI)) (ci := 4) (v := .ref a_w) (C := RX4) (T := TX4) (N := 19) hx hb hts inX4 hown hK hP 0 rfl rfl 0 (by decide) fl7 (fun _ h9 => h9) rfl dX4_told_113 ?_
    refine lv_bipush (v := (9 : Int32)) hx hb dX4_told_116 (by decide) ?_
    refine va_ialdK hx hb hK hP 1 0 rfl rfl (inK (by decide)) (j := 9) (by decide) dX4_told_118 ?_
    refine lv_iadd hx hb dX4_told_119 ?_
    refine lv_iconst (v := (1 : Int32)) hx hb dX4_told_120 (by decide) ?_
    refine lv_isub hx hb dX4_told_121 ?_
    by_cases b_122 : ((((390 : Int32) + (v_w 9)) - (1 : Int32)) < 0 ∨ 510 ≤ ((((390 : Int32) + (v_w 9)) - (1 : Int32))).toNatClampNeg)
    · exact noneE ((if_pos b_122).symm.trans hF)
    have hF := (if_neg b_122).symm.trans hF
    refine va_iald hx hb hK hP 1 0 rfl rfl b_122 dX4_told_122 ?_
    refine lv_iconst (v := (1 : Int32)) hx hb dX4_told_123 (by decide) ?_
    refine lv_iadd hx hb dX4_told_124 ?_
    have hF : some ((v_w (((((390 : Int32) + (v_w 9)) - (1 : Int32))).toNatClampNeg)) + (1 : Int32)) = some r := hF
    cases hF
    subst hQ
    exact W.iret hx hb hr (fun t ht hW => ⟨_, rfl, rfl, ht⟩) (fun q hq => absurd hq List.not_mem_nil) dX4_told_125
  have hF := (if_neg c_1_2).symm.trans hF
  by_cases c_1_3 : p1 = (3 : Int32)
  · have hF := (if_pos c_1_3).symm.trans hF
    refine lv_tableIn (tgt := 126) (off := 125) hx hb dX4_told_1 (by rw [c_1_3]; decide) (by rw [c_1_3]; decide) (by rw [c_1_3]; rfl) (by decide) ?_
    refine lv_aload_n hx hb dX4_told_126 rfl (lv_at hl 0 rfl) ?_
    obtain ⟨q_127, hq_127, hF⟩ := bindE hF
    have hPc := hP
    refine vp_callSi (va_Run.run (va_runV (As := []) (rest := []) ⟨hx, hb, hml, hown, hts⟩ (c_X4_cues l dC dI cI cZ cO aM a_w a_past a_images a_text a_rowOf a_readLetter a_readCue a_readPassage a_held v_w v_past v_pastMany v_images v_filled v_text v_length v_faultKind v_faultPlace v_rowOf v_rows v_wrongKind v_wrongPlace v_readWords v_readPassages v_readLetter v_readCue v_readPassage v_held q_127 hq_127) (cwV 0 hts gX4_told_X4_cues rfl rfl rfl (by decide +kernel) ⟨Nat.le_of_ble_eq_true rfl, Nat.le_of_ble_eq_true rfl⟩) ⟨fb_rd, va_recv hK hPc (ci := 4) (q0 := 0) rfl rfl, pre_rd hPc hK hN⟩ rfl rfl hl.1 rfl (lv_room (Nat.le_of_ble_eq_true rfl)) dX4_told_127 ⟨Nat.zero_le _, Nat.zero_le _⟩)) (fun z_127 hz_127 => ?_)
    subst hz_127
    have hF : some q_127 = some r := hF
    cases hF
    subst hQ
    exact W.iret hx hb hr (fun t ht hW => ⟨_, rfl, rfl, ht⟩) (fun q hq => absurd hq List.not_mem_nil) dX4_told_130
  have hF := (if_neg c_1_3).symm.trans hF
  by_cases c_1_4 : p1 = (4 : Int32)
  · have hF := (if_pos c_1_4).symm.trans hF
    refine lv_tableIn (tgt := 131) (off := 130) hx hb dX4_told_1 (by rw [c_1_4]; decide) (by rw [c_1_4]; decide) (by rw [c_1_4]; rfl) (by decide) ?_
    refine lv_aload_n hx hb dX4_told_131 rfl (lv_at hl 0 rfl) ?_
    refine va_get (D := (dC, dI)) (ci := 4) (v := .ref a_w) (C := RX4) (T := TX4) (N := 19) hx hb hts inX4 hown hK hP 0 rfl rfl 0 (by decide) fl7 (fun _ h9 => h9) rfl dX4_told_132 ?_
    refine lv_bipush (v := (10 : Int32)) hx hb dX4_told_135 (by decide) ?_
    refine va_ialdK hx hb hK hP 1 0 rfl rfl (inK (by decide)) (j := 10) (by decide) dX4_told_137 ?_
    have hF : some (v_w 10) = some r := hF
    cases hF
    subst hQ
    exact W.iret hx hb hr (fun t ht hW => ⟨_, rfl, rfl, ht⟩) (fun q hq => absurd hq List.not_mem_nil) dX4_told_138
  have hF := (if_neg c_1_4).symm.trans hF
  by_cases c_1_5 : p1 = (5 : Int32)
  · have hF := (if_pos c_1_5).symm.trans hF
    refine lv_tableIn (tgt := 139) (off := 138) hx hb dX4_told_1 (by rw [c_1_5]; decide) (by rw [c_1_5]; decide) (by rw [c_1_5]; rfl) (by decide) ?_
    refine lv_aload_n hx hb dX4_told_139 rfl (lv_at hl 0 rfl) ?_
    refine va_get (D := (dC, dI)) (ci := 4) (v := .ref a_w) (C := RX4) (T := TX4) (N := 19) hx hb hts inX4 hown hK hP 0 rfl rfl 0 (by decide) fl7 (fun _ h9 => h9) rfl dX4_told_140 ?_
    refine lv_bipush (v := (11 : Int32)) hx hb dX4_told_143 (by decide) ?_
    refine va_ialdK hx hb hK hP 1 0 rfl rfl (inK (by decide)) (j := 11) (by decide) dX4_told_145 ?_
    have hF : some (v_w 11) = some r := hF
    cases hF
    subst hQ
    exact W.iret hx hb hr (fun t ht hW => ⟨_, rfl, rfl, ht⟩) (fun q hq => absurd hq List.not_mem_nil) dX4_told_146
  have hF := (if_neg c_1_5).symm.trans hF
  by_cases c_1_6 : p1 = (6 : Int32)
  · have hF := (if_pos c_1_6).symm.trans hF
    refine lv_tableIn (tgt := 147) (off := 146) hx hb dX4_told_1 (by rw [c_1_6]; decide) (by rw [c_1_6]; decide) (by rw [c_1_6]; rfl) (by decide) ?_
    refine lv_aload_n hx hb dX4_told_147 rfl (lv_at hl 0 rfl) ?_
    refine va_get (D := (dC, dI)) (ci := 4) (v := .ref a_w) (C := RX4) (T := TX4) (N := 19) hx hb hts inX4 hown hK hP 0 rfl rfl 0 (by decide) fl7 (fun _ h9 => h9) rfl dX4_told_148 ?_
    refine lv_bipush (v := (12 : Int32)) hx hb dX4_told_151 (by decide) ?_
    refine va_ialdK hx hb hK hP 1 0 rfl rfl (inK (by decide)) (j := 12) (by decide) dX4_told_153 ?_
    have hF : some (v_w 12) = some r := hF
    cases hF
    subst hQ
    exact W.iret hx hb hr (fun t ht hW => ⟨_, rfl, rfl, ht⟩) (fun q hq => absurd hq List.not_mem_nil) dX4_told_154
  have hF := (if_neg c_1_6).symm.trans hF
  by_cases c_1_7 : p1 = (7 : Int32)
  · have hF := (if_pos c_1_7).symm.trans hF
    refine lv_tableIn (tgt := 155) (off := 154) hx hb dX4_told_1 (by rw [c_1_7]; decide) (by rw [c_1_7]; decide) (by rw [c_1_7]; rfl) (by decide) ?_
    refine lv_aload_n hx hb dX4_told_155 rfl (lv_at hl 0 rfl) ?_
    obtain ⟨q_156, hq_156, hF⟩ := bindE hF
    have hPc := hP
    refine vp_callSi (va_Run.run (va_runV (As := []) (rest := []) ⟨hx, hb, hml, hown, hts⟩ (c_X4_estimated l dC dI cI cZ cO aM a_w a_past a_images a_text a_rowOf a_readLetter a_readCue a_readPassage a_held v_w v_past v_pastMany v_images v_filled v_text v_length v_faultKind v_faultPlace v_rowOf v_rows v_wrongKind v_wrongPlace v_readWords v_readPassages v_readLetter v_readCue v_readPassage v_held q_156 hq_156) (cwV 0 hts gX4_told_X4_estimated rfl rfl rfl (by decide +kernel) ⟨Nat.le_of_ble_eq_true rfl, Nat.le_of_ble_eq_true rfl⟩) ⟨fb_rd, va_recv hK hPc (ci := 4) (q0 := 0) rfl rfl, pre_rd hPc hK hN⟩ rfl rfl hl.1 rfl (lv_room (Nat.le_of_ble_eq_true rfl)) dX4_told_156 ⟨Nat.zero_le _, Nat.zero_le _⟩)) (fun z_156 hz_156 => ?_)
    subst hz_156
    have hF : some q_156 = some r := hF
    cases hF
    subst hQ
    exact W.iret hx hb hr (fun t ht hW => ⟨_, rfl, rfl, ht⟩) (fun q hq => absurd hq List.not_mem_nil) dX4_told_159
  have hF := (if_neg c_1_7).symm.trans hF
  by_cases c_1_8 : p1 = (8 : Int32)
  · have hF := (if_pos c_1_8).symm.trans hF
    refine lv_tableIn (tgt := 160) (off := 159) hx hb dX4_told_1 (by rw [c_1_8]; decide) (by rw [c_1_8]; decide) (by rw [c_1_8]; rfl) (by decide) ?_
    refine lv_aload_n hx hb dX4_told_160 rfl (lv_at hl 0 rfl) ?_
    refine va_get (D := (dC, dI)) (ci := 4) (v := .ref a_w) (C := RX4) (T := TX4) (N := 19) hx hb hts inX4 hown hK hP 0 rfl rfl 0 (by decide) fl7 (fun _ h9 => h9) rfl dX4_told_161 ?_
    refine lv_bipush (v := (14 : Int32)) hx hb dX4_told_164 (by decide) ?_
    refine va_ialdK hx hb hK hP 1 0 rfl rfl (inK (by decide)) (j := 14) (by decide) dX4_told_166 ?_
    have hF : some (v_w 14) = some r := hF
    cases hF
    subst hQ
    exact W.iret hx hb hr (fun t ht hW => ⟨_, rfl, rfl, ht⟩) (fun q hq => absurd hq List.not_mem_nil) dX4_told_167
  have hF := (if_neg c_1_8).symm.trans hF
  by_cases c_1_9 : p1 = (9 : Int32)
  · have hF := (if_pos c_1_9).symm.trans hF
    refine lv_tableIn (tgt := 168) (off := 167) hx hb dX4_told_1 (by rw [c_1_9]; decide) (by rw [c_1_9]; decide) (by rw [c_1_9]; rfl) (by decide) ?_
    refine lv_aload_n hx hb dX4_told_168 rfl (lv_at hl 0 rfl) ?_
    obtain ⟨q_169, hq_169, hF⟩ := bindE hF
    have hPc := hP
    refine vp_callSi (va_Run.run (va_runV (As := []) (rest := []) ⟨hx, hb, hml, hown, hts⟩ (c_X4_desired l dC dI cI cZ cO aM a_w a_past a_images a_text a_rowOf a_readLetter a_readCue a_readPassage a_held v_w v_past v_pastMany v_images v_filled v_text v_length v_faultKind v_faultPlace v_rowOf v_rows v_wrongKind v_wrongPlace v_readWords v_readPassages v_readLetter v_readCue v_readPassage v_held q_169 hq_169) (cwV 0 hts gX4_told_X4_desired rfl rfl rfl (by decide +kernel) ⟨Nat.le_of_ble_eq_true rfl, Nat.le_of_ble_eq_true rfl⟩) ⟨fb_rd, va_recv hK hPc (ci := 4) (q0 := 0) rfl rfl, pre_rd hPc hK hN⟩ rfl rfl hl.1 rfl (lv_room (Nat.le_of_ble_eq_true rfl)) dX4_told_169 ⟨Nat.zero_le _, Nat.zero_le _⟩)) (fun z_169 hz_169 => ?_)
    subst hz_169
    have hF : some q_169 = some r := hF
    cases hF
    subst hQ
    exact W.iret hx hb hr (fun t ht hW => ⟨_, rfl, rfl, ht⟩) (fun q hq => absurd hq List.not_mem_nil) dX4_told_172
  have hF := (if_neg c_1_9).symm.trans hF
  by_cases c_1_10 : p1 = (10 : Int32)
  · have hF := (if_pos c_1_10).symm.trans hF
    refine lv_tableIn (tgt := 173) (off := 172) hx hb dX4_told_1 (by rw [c_1_10]; decide) (by rw [c_1_10]; decide) (by rw [c_1_10]; rfl) (by decide) ?_
    refine lv_aload_n hx hb dX4_told_173 rfl (lv_at hl 0 rfl) ?_
    refine va_get (D := (dC, dI)) (ci := 4) (v := .ref a_w) (C := RX4) (T := TX4) (N := 19) hx hb hts inX4 hown hK hP 0 rfl rfl 0 (by decide) fl7 (fun _ h9 => h9) rfl dX4_told_174 ?_
    refine lv_bipush (v := (15 : Int32)) hx hb dX4_told_177 (by decide) ?_
    refine lv_iload_n hx hb dX4_told_179 rfl (lv_at hl 1 rfl) ?_
    refine lv_iadd hx hb dX4_told_180 ?_
    refine lv_bipush (v := (10 : Int32)) hx hb dX4_told_181 (by decide) ?_
    refine lv_isub hx hb dX4_told_183 ?_
    by_cases b_184 : ((((15 : Int32) + p1) - (10 : Int32)) < 0 ∨ 510 ≤ ((((15 : Int32) + p1) - (10 : Int32))).toNatClampNeg)
    · exact noneE ((if_pos b_184).symm.trans hF)
    have hF := (if_neg b_184).symm.trans hF
    refine va_iald hx hb hK hP 1 0 rfl rfl b_184 dX4_told_184 ?_
    have hF : some (v_w (((((15 : Int32) + p1) - (10 : Int32))).toNatClampNeg)) = some r := hF
    cases hF
    subst hQ
    exact W.iret hx hb hr (fun t ht hW => ⟨_, rfl, rfl, ht⟩) (fun q hq => absurd hq List.not_mem_nil) dX4_told_185
  have hF := (if_neg c_1_10).symm.trans hF
  by_cases c_1_11 : p1 = (11 : Int32)
  · have hF := (if_pos c_1_11).symm.trans hF
    refine lv_tableIn (tgt := 173) (off := 172) hx hb dX4_told_1 (by rw [c_1_11]; decide) (by rw [c_1_11]; decide) (by rw [c_1_11]; rfl) (by decide) ?_
    refine lv_aload_n hx hb dX4_told_173 rfl (lv_at hl 0 rfl) ?_
    refine va_get (D := (dC, dI)) (ci := 4) (v := .ref a_w) (C := RX4) (T := TX4) (N := 19) hx hb hts inX4 hown hK hP 0 rfl rfl 0 (by decide) fl7 (fun _ h9 => h9) rfl dX4_told_174 ?_
    refine lv_bipush (v := (15 : Int32)) hx hb dX4_told_177 (by decide) ?_
    refine lv_iload_n hx hb dX4_told_179 rfl (lv_at hl 1 rfl) ?_
    refine lv_iadd hx hb dX4_told_180 ?_
    refine lv_bipush (v := (10 : Int32)) hx hb dX4_told_181 (by decide) ?_
    refine lv_isub hx hb dX4_told_183 ?_
    by_cases b_184 : ((((15 : Int32) + p1) - (10 : Int32)) < 0 ∨ 510 ≤ ((((15 : Int32) + p1) - (10 : Int32))).toNatClampNeg)
    · exact noneE ((if_pos b_184).symm.trans hF)
    have hF := (if_neg b_184).symm.trans hF
    refine va_iald hx hb hK hP 1 0 rfl rfl b_184 dX4_told_184 ?_
    have hF : some (v_w (((((15 : Int32) + p1) - (10 : Int32))).toNatClampNeg)) = some r := hF
    cases hF
    subst hQ
    exact W.iret hx hb hr (fun t ht hW => ⟨_, rfl, rfl, ht⟩) (fun q hq => absurd hq List.not_mem_nil) dX4_told_185
  have hF := (if_neg c_1_11).symm.trans hF
  by_cases c_1_12 : p1 = (12 : Int32)
  · have hF := (if_pos c_1_12).symm.trans hF
    refine lv_tableIn (tgt := 173) (off := 172) hx hb dX4_told_1 (by rw [c_1_12]; decide) (by rw [c_1_12]; decide) (by rw [c_1_12]; rfl) (by decide) ?_
    refine lv_aload_n hx hb dX4_told_173 rfl (lv_at hl 0 rfl) ?_
    refine va_get (D := (dC, dI)) (ci := 4) (v := .ref a_w) (C := RX4) (T := TX4) (N := 19) hx hb hts inX4 hown hK hP 0 rfl rfl 0 (by decide) fl7 (fun _ h9 => h9) rfl dX4_told_174 ?_
    refine lv_bipush (v := (15 : Int32)) hx hb dX4_told_177 (by decide) ?_
    refine lv_iload_n hx hb dX4_told_179 rfl (lv_at hl 1 rfl) ?_
    refine lv_iadd hx hb dX4_told_180 ?_
    refine lv_bipush (v := (10 : Int32)) hx hb dX4_told_181 (by decide) ?_
    refine lv_isub hx hb dX4_told_183 ?_
    by_cases b_184 : ((((15 : Int32) + p1) - (10 : Int32)) < 0 ∨ 510 ≤ ((((15 : Int32) + p1) - (10 : Int32))).toNatClampNeg)
    · exact noneE ((if_pos b_184).symm.trans hF)
    have hF := (if_neg b_184).symm.trans hF
    refine va_iald hx hb hK hP 1 0 rfl rfl b_184 dX4_told_184 ?_
    have hF : some (v_w (((((15 : Int32) + p1) - (10 : Int32))).toNatClampNeg)) = some r := hF
    cases hF
    subst hQ
    exact W.iret hx hb hr (fun t ht hW => ⟨_, rfl, rfl, ht⟩) (fun q hq => absurd hq List.not_mem_nil) dX4_told_185
  have hF := (if_neg c_1_12).symm.trans hF
  by_cases c_1_13 : p1 = (13 : Int32)
  · have hF := (if_pos c_1_13).symm.trans hF
    refine lv_tableIn (tgt := 173) (off := 172) hx hb dX4_told_1 (by rw [c_1_13]; decide) (by rw [c_1_13]; decide) (by rw [c_1_13]; rfl) (by decide) ?_
    refine lv_aload_n hx hb dX4_told_173 rfl (lv_at hl 0 rfl) ?_
    refine va_get (D := (dC, dI)) (ci := 4) (v := .ref a_w) (C := RX4) (T := TX4) (N := 19) hx hb hts inX4 hown hK hP 0 rfl rfl 0 (by decide) fl7 (fun _ h9 => h9) rfl dX4_told_174 ?_
    refine lv_bipush (v := (15 : Int32)) hx hb dX4_told_177 (by decide) ?_
    refine lv_iload_n hx hb dX4_told_179 rfl (lv_at hl 1 rfl) ?_
    refine lv_iadd hx hb dX4_told_180 ?_
    refine lv_bipush (v := (10 : Int32)) hx hb dX4_told_181 (by decide) ?_
    refine lv_isub hx hb dX4_told_183 ?_
    by_cases b_184 : ((((15 : Int32) + p1) - (10 : Int32)) < 0 ∨ 510 ≤ ((((15 : Int32) + p1) - (10 : Int32))).toNatClampNeg)
    · exact noneE ((if_pos b_184).symm.trans hF)
    have hF := (if_neg b_184).symm.trans hF
    refine va_iald hx hb hK hP 1 0 rfl rfl b_184 dX4_told_184 ?_
    have hF : some (v_w (((((15 : Int32) + p1) - (10 : Int32))).toNatClampNeg)) = some r := hF
    cases hF
    subst hQ
    exact W.iret hx hb hr (fun t ht hW => ⟨_, rfl, rfl, ht⟩) (fun q hq => absurd hq List.not_mem_nil) dX4_told_185
  have hF := (if_neg c_1_13).symm.trans hF
  by_cases c_1_14 : p1 = (14 : Int32)
  · have hF := (if_pos c_1_14).symm.trans hF
    refine lv_tableIn (tgt := 173) (off := 172) hx hb dX4_told_1 (by rw [c_1_14]; decide) (by rw [c_1_14]; decide) (by rw [c_1_14]; rfl) (by decide) ?_
    refine lv_aload_n hx hb dX4_told_173 rfl (lv_at hl 0 rfl) ?_
    refine va_get (D := (dC, dI)) (ci := 4) (v := .ref a_w) (C := RX4) (T := TX4) (N := 19) hx hb hts inX4 hown hK hP 0 rfl rfl 0 (by decide) fl7 (fun _ h9 => h9) rfl dX4_told_174 ?_
    refine lv_bipush (v := (15 : Int32)) hx hb dX4_told_177 (by decide) ?_
    refine lv_iload_n hx hb dX4_told_179 rfl (lv_at hl 1 rfl) ?_
    refine lv_iadd hx hb dX4_told_180 ?_
    refine lv_bipush (v := (10 : Int32)) hx hb dX4_told_181 (by decide) ?_
    refine lv_isub hx hb dX4_told_183 ?_
    by_cases b_184 : ((((15 : Int32) + p1) - (10 : Int32)) < 0 ∨ 510 ≤ ((((15 : Int32) + p1) - (10 : Int32))).toNatClampNeg)
    · exact noneE ((if_pos b_184).symm.trans hF)
    have hF := (if_neg b_184).symm.trans hF
    refine va_iald hx hb hK hP 1 0 rfl rfl b_184 dX4_told_184 ?_
    have hF : some (v_w (((((15 : Int32) + p1) - (10 : Int32))).toNatClampNeg)) = some r := hF
    cases hF
    subst hQ
    exact W.iret hx hb hr (fun t ht hW => ⟨_, rfl, rfl, ht⟩) (fun q hq => absurd hq List.not_mem_nil) dX4_told_185
  have hF := (if_neg c_1_14).symm.trans hF
  by_cases c_1_15 : p1 = (15 : Int32)
  · have hF := (if_pos c_1_15).symm.trans hF
    refine lv_tableIn (tgt := 186) (off := 185) hx hb dX4_told_1 (by rw [c_1_15]; decide) (by rw [c_1_15]; decide) (by rw [c_1_15]; rfl) (by decide) ?_
    refine lv_aload_n hx hb dX4_told_186 rfl (lv_at hl 0 rfl) ?_
    refine va_get (D := (dC, dI)) (ci := 4) (v := .ref a_w) (C := RX4) (T := TX4) (N := 19) hx hb hts inX4 hown hK hP 0 rfl rfl 0 (by decide) fl7 (fun _ h9 => h9) rfl dX4_told_187 ?_
    refine lv_bipush (v := (25 : Int32)) hx hb dX4_told_190 (by decide) ?_
    refine va_ialdK hx hb hK hP 1 0 rfl rfl (inK (by decide)) (j := 25) (by decide) dX4_told_192 ?_
    have hF : some (v_w 25) = some r := hF
    cases hF
    subst hQ
    exact W.iret hx hb hr (fun t ht hW => ⟨_, rfl, rfl, ht⟩) (fun q hq => absurd hq List.not_mem_nil) dX4_told_193
  have hF := (if_neg c_1_15).symm.trans hF
  by_cases c_1_16 : p1 = (16 : Int32)
  · have hF := (if_pos c_1_16).symm.trans hF
    refine lv_tableIn (tgt := 194) (off := 193) hx hb dX4_told_1 (by rw [c_1_16]; decide) (by rw [c_1_16]; decide) (by rw [c_1_16]; rfl) (by decide) ?_
    refine lv_aload_n hx hb dX4_told_194 rfl (lv_at hl 0 rfl) ?_
    obtain ⟨q_195, hq_195, hF⟩ := bindE hF
    have hPc := hP
    refine vp_callSi (va_Run.run (va_runV (As := []) (rest := []) ⟨hx, hb, hml, hown, hts⟩ (c_X4_nextCue l dC dI cI cZ cO aM a_w a_past a_images a_text a_rowOf a_readLetter a_readCue a_readPassage a_held v_w v_past v_pastMany v_images v_filled v_text v_length v_faultKind v_faultPlace v_rowOf v_rows v_wrongKind v_wrongPlace v_readWords v_readPassages v_readLetter v_readCue v_readPassage v_held q_195 hq_195) (cwV 0 hts gX4_told_X4_nextCue rfl rfl rfl (by decide +kernel) ⟨Nat.le_of_ble_eq_true rfl, Nat.le_of_ble_eq_true rfl⟩) ⟨fb_rd, va_recv hK hPc (ci := 4) (q0 := 0) rfl rfl, pre_rd hPc hK hN⟩ rfl rfl hl.1 rfl (lv_room (Nat.le_of_ble_eq_true rfl)) dX4_told_195 ⟨Nat.zero_le _, Nat.zero_le _⟩)) (fun z_195 hz_195 => ?_)
    subst hz_195
    have hF : some q_195 = some r := hF
    cases hF
    subst hQ
    exact W.iret hx hb hr (fun t ht hW => ⟨_, rfl, rfl, ht⟩) (fun q hq => absurd hq List.not_mem_nil) dX4_told_198
  have hF := (if_neg c_1_16).symm.trans hF
  by_cases c_1_17 : p1 = (17 : Int32)
  · have hF := (if_pos c_1_17).symm.trans hF
    refine lv_tableIn (tgt := 199) (off := 198) hx hb dX4_told_1 (by rw [c_1_17]; decide) (by rw [c_1_17]; decide) (by rw [c_1_17]; rfl) (by decide) ?_
    refine lv_aload_n hx hb dX4_told_199 rfl (lv_at hl 0 rfl) ?_
    refine va_get (D := (dC, dI)) (ci := 4) (v := .ref a_w) (C := RX4) (T := TX4) (N := 19) hx hb hts inX4 hown hK hP 0 rfl rfl 0 (by decide) fl7 (fun _ h9 => h9) rfl dX4_told_200 ?_
    refine lv_bipush (v := (20 : Int32)) hx hb dX4_told_203 (by decide) ?_
    refine va_ialdK hx hb hK hP 1 0 rfl rfl (inK (by decide)) (j := 20) (by decide) dX4_told_205 ?_
    have hF : some (v_w 20) = some r := hF
    cases hF
    subst hQ
    exact W.iret hx hb hr (fun t ht hW => ⟨_, rfl, rfl, ht⟩) (fun q hq => absurd hq List.not_mem_nil) dX4_told_206
  have hF := (if_neg c_1_17).symm.trans hF
  by_cases c_1_18 : p1 = (18 : Int32)
  · have hF := (if_pos c_1_18).symm.trans hF
    refine lv_tableIn (tgt := 207) (off := 206) hx hb dX4_told_1 (by rw [c_1_18]; decide) (by rw [c_1_18]; decide) (by rw [c_1_18]; rfl) (by decide) ?_
    refine lv_aload_n hx hb dX4_told_207 rfl (lv_at hl 0 rfl) ?_
    refine va_get (D := (dC, dI)) (ci := 4) (v := .int v_pastMany) (C := RX4) (T := TX4) (N := 19) hx hb hts inX4 hown hK hP 0 rfl rfl 2 (by decide) fl47 (fun _ h9 => h9) rfl dX4_told_208 ?_
    have hF : some v_pastMany = some r := hF
    cases hF
    subst hQ
    exact W.iret hx hb hr (fun t ht hW => ⟨_, rfl, rfl, ht⟩) (fun q hq => absurd hq List.not_mem_nil) dX4_told_211
  have hF := (if_neg c_1_18).symm.trans hF
  refine lv_tableOut (tgt := 212) hx hb dX4_told_1 (tsOut (by decide) (by decide) (by
      intro k h1 h2; rcases (show k = 0 ∨ k = 1 ∨ k = 2 ∨ k = 3 ∨ k = 4 ∨ k = 5 ∨ k = 6 ∨ k = 7 ∨ k = 8 ∨ k = 9 ∨ k = 10 ∨ k = 11 ∨ k = 12 ∨ k = 13 ∨ k = 14 ∨ k = 15 ∨ k = 16 ∨ k = 17 ∨ k = 18 by omega) with rfl | rfl | rfl | rfl | rfl | rfl | rfl | rfl | rfl | rfl | rfl | rfl | rfl | rfl | rfl | rfl | rfl | rfl | rfl
      · exact c_1_0
      · exact c_1_1
      · exact c_1_2
      · exact c_1_3
      · exact c_1_4
      · exact c_1_5
      · exact c_1_6
      · exact c_1_7
      · exact c_1_8
      · exact c_1_9
      · exact c_1_10
      · exact c_1_11
      · exact c_1_12
      · exact c_1_13
      · exact c_1_14
      · exact c_1_15
      · exact c_1_16
      · exact c_1_17
      · exact c_1_18
      )) (by decide) ?_
  refine lv_iconst (v := (-1 : Int32)) hx hb dX4_told_212 (by decide) ?_
  have hF : some (-1 : Int32) = some r := hF
  cases hF
  subst hQ
  exact W.iret hx hb hr (fun t ht hW => ⟨_, rfl, rfl, ht⟩) (fun q hq => absurd hq List.not_mem_nil) dX4_told_213
def f_X4_setting (p1 : Int32) (v_w : (Nat → Int32)) : Option Int32 :=
  (f_X4_isIn p1 (0 : Int32) (8 : Int32)).bind fun q4 =>
  if q4 = (0 : Int32) then
    some (-1 : Int32)
  else
    if p1 < 0 ∨ 510 ≤ p1.toNatClampNeg then none else
    some (v_w p1.toNatClampNeg)
def rm_X4_setting : Room := { frames := 1, cells := 0, slots := 0, locals := 22 }
set_option maxHeartbeats 4000000 in
set_option maxRecDepth 100000 in
theorem c_X4_setting (l : Launch) (dC : Nat → ClassId) (dI : Nat → Nat → Nat) (cI cZ cO : ClassId) (aM a_w a_past a_images a_text a_rowOf a_readLetter a_readCue a_readPassage a_held : Nat) (p1 : Int32) (v_w : (Nat → Int32)) (v_past : (Nat → Int32)) (v_pastMany : Int32) (v_images : (Nat → Int32)) (v_filled : Int32) (v_text : (Nat → Int32)) (v_length : Int32) (v_faultKind : Int32) (v_faultPlace : Int32) (v_rowOf : (Nat → Int32)) (v_rows : Int32) (v_wrongKind : Int32) (v_wrongPlace : Int32) (v_readWords : Int32) (v_readPassages : Int32) (v_readLetter : (Nat → Int32)) (v_readCue : (Nat → Int32)) (v_readPassage : (Nat → Int32)) (v_held : (Nat → Int32)) (r : Int32) (hF : f_X4_setting p1 v_w = some r) : Met l yX4_setting wsX4_setting rm_X4_setting (va_Pc [.ref aM, .int p1] (rdW dC dI cI cZ cO [(aM, .inr (4, [.ref a_w, .ref a_past, .int v_pastMany, .ref a_images, .int v_filled, .ref a_text, .int v_length, .int v_faultKind, .int v_faultPlace, .ref a_rowOf, .int v_rows, .int v_wrongKind, .int v_wrongPlace, .int v_readWords, .int v_readPassages, .ref a_readLetter, .ref a_readCue, .ref a_readPassage, .ref a_held])), (a_w, .inl (cI, 510, .inl v_w)), (a_past, .inl (cI, 4080, .inl v_past)), (a_images, .inl (cI, 1020, .inl v_images)), (a_text, .inl (cI, 140, .inl v_text)), (a_rowOf, .inl (cI, 120, .inl v_rowOf)), (a_readLetter, .inl (cI, 120, .inl v_readLetter)), (a_readCue, .inl (cI, 120, .inl v_readCue)), (a_readPassage, .inl (cI, 120, .inl v_readPassage)), (a_held, .inl (cI, 510, .inl v_held))])) (vp_Si (fun q => r = q)) 0 0 (fun _ => False) := by
  refine Met.ofW (cc := cX4_setting) (maxL := 2) (ret := (some .int)) (by decide) rfl ?_
  intro p e s m args below meth c s₁ B hml hv
  obtain ⟨rfl, hP, hK, hN⟩ := hv
  have hx := B.exec
  have hb := B.bytes
  have hr := B.returns
  have hts := atoms_spec (ws := wsX4_setting) B.pre
  have hown : s.vm.findClass RX4 = some m.cls := findClass_of_methodNamed B.named
  have hlocks := B.notSynchronized
  obtain ⟨Q, hQ⟩ : ∃ Q, Q = MQ below (vp_Si (fun q => r = q)) ([.ref aM, .int p1] : List Value).toArray s 0 0 (fun _ => False) := ⟨_, rfl⟩
  rw [← hQ]
  have hS : va_S (fun _ => False) s.heap s.heap [] := va_S.rf
  have fl7 := hts (.fieldLink RX4 7 "TeleprompterModel" "w" "[I") (by decide +kernel)
  have inX4 : ∀ w ∈ u_ws RX4 TX4 19, w ∈ wsX4_setting := by decide +kernel
  have hl := lv_entry ([.ref aM, .int p1]) (n := 2) (Nat.le_of_ble_eq_true rfl)
  rw [lg_entry_eq]
  generalize (lg_sl ([.ref aM, .int p1]) ++ List.replicate (2 - (lg_sl ([.ref aM, .int p1])).length) Slot.unset).toArray = ls at hl ⊢
  have hl : lv_has ls 2 [(0, .ref aM), (1, .int p1)] := hl
  unfold f_X4_setting at hF
  refine lv_iload_n hx hb dX4_setting_0 rfl (lv_at hl 1 rfl) ?_
  refine lv_iconst (v := (0 : Int32)) hx hb dX4_setting_1 (by decide) ?_
  refine lv_bipush (v := (8 : Int32)) hx hb dX4_setting_2 (by decide) ?_
  obtain ⟨q_4, hq_4, hF⟩ := bindE hF
  have hPc := hP.sub (ws' := []) [] rfl
  refine vp_callSi (va_Run.run (va_runS (As := [.int p1, .int (0 : Int32), .int (8 : Int32)]) (rest := []) ⟨hx, hb, hml, hown, hts⟩ (c_X4_isIn l dC dI cI cZ cO p1 (0 : Int32) (8 : Int32) q_4 hq_4) (cwS 3 hts gX4_setting_X4_isIn rfl rfl rfl (by decide +kernel) ⟨Nat.le_of_ble_eq_true rfl, Nat.le_of_ble_eq_true rfl⟩) ⟨fb_rd, pre_rd hPc hK hN⟩ rfl rfl hl.1 rfl (lv_room (Nat.le_of_ble_eq_true rfl)) dX4_setting_4 ⟨Nat.zero_le _, Nat.zero_le _⟩)) (fun z_4 hz_4 => ?_)
  subst hz_4
  refine lv_if_eq (tgt := 19) hx hb dX4_setting_7 (by decide) (fun c_7 => ?_) (fun c_7 => ?_)
  · have hF := (if_pos c_7).symm.trans hF
    refine lv_iconst (v := (-1 : Int32)) hx hb dX4_setting_19 (by decide) ?_
    have hF : some (-1 : Int32) = some r := hF
    cases hF
    subst hQ
    exact W.iret hx hb hr (fun t ht hW => ⟨_, rfl, rfl, ht⟩) (fun q hq => absurd hq List.not_mem_nil) dX4_setting_20
  · have hF := (if_neg c_7).symm.trans hF
    refine lv_aload_n hx hb dX4_setting_10 rfl (lv_at hl 0 rfl) ?_
    refine va_get (D := (dC, dI)) (ci := 4) (v := .ref a_w) (C := RX4) (T := TX4) (N := 19) hx hb hts inX4 hown hK hP 0 rfl rfl 0 (by decide) fl7 (fun _ h9 => h9) rfl dX4_setting_11 ?_
    refine lv_iload_n hx hb dX4_setting_14 rfl (lv_at hl 1 rfl) ?_
    by_cases b_15 : (p1 < 0 ∨ 510 ≤ p1.toNatClampNeg)
    · exact noneE ((if_pos b_15).symm.trans hF)
    have hF := (if_neg b_15).symm.trans hF
    refine va_iald hx hb hK hP 1 0 rfl rfl b_15 dX4_setting_15 ?_
    refine lv_goto (tgt := 20) hx hb dX4_setting_16 (by decide) ?_
    have hF : some (v_w p1.toNatClampNeg) = some r := hF
    cases hF
    subst hQ
    exact W.iret hx hb hr (fun t ht hW => ⟨_, rfl, rfl, ht⟩) (fun q hq => absurd hq List.not_mem_nil) dX4_setting_20
def f_X4_word (p1 : Int32) (p2 : Int32) (v_w : (Nat → Int32)) (v_rowOf : (Nat → Int32)) : Option Int32 :=
  (f_X4_isWord p1 v_w).bind fun q2 =>
  if q2 = (0 : Int32) then
    some (-1 : Int32)
  else
    if p2 = (0 : Int32) then
      if ((150 : Int32) + p1) < 0 ∨ 510 ≤ (((150 : Int32) + p1)).toNatClampNeg then none else
      some (v_w ((((150 : Int32) + p1)).toNatClampNeg))
    else if p2 = (1 : Int32) then
      if p1 < 0 ∨ 120 ≤ p1.toNatClampNeg then none else
      some (v_rowOf p1.toNatClampNeg)
    else if p2 = (2 : Int32) then
      if ((390 : Int32) + p1) < 0 ∨ 510 ≤ (((390 : Int32) + p1)).toNatClampNeg then none else
      some (v_w ((((390 : Int32) + p1)).toNatClampNeg))
    else if p2 = (3 : Int32) then
      if ((270 : Int32) + p1) < 0 ∨ 510 ≤ (((270 : Int32) + p1)).toNatClampNeg then none else
      some (v_w ((((270 : Int32) + p1)).toNatClampNeg))
    else if p2 = (4 : Int32) then
      if p1 < 0 ∨ 120 ≤ p1.toNatClampNeg then none else
      (f_X4_isShown (v_rowOf p1.toNatClampNeg) v_w).bind fun q91 =>
      if q91 = (0 : Int32) then
        some (0 : Int32)
      else
        some (1 : Int32)
    else some (-1 : Int32)
def rm_X4_word : Room := { frames := 2, cells := 0, slots := 0, locals := 43 }
set_option maxHeartbeats 4000000 in
set_option maxRecDepth 100000 in
theorem c_X4_word (l : Launch) (dC : Nat → ClassId) (dI : Nat → Nat → Nat) (cI cZ cO : ClassId) (aM a_w a_past a_images a_text a_rowOf a_readLetter a_readCue a_readPassage a_held : Nat) (p1 : Int32) (p2 : Int32) (v_w : (Nat → Int32)) (v_past : (Nat → Int32)) (v_pastMany : Int32) (v_images : (Nat → Int32)) (v_filled : Int32) (v_text : (Nat → Int32)) (v_length : Int32) (v_faultKind : Int32) (v_faultPlace : Int32) (v_rowOf : (Nat → Int32)) (v_rows : Int32) (v_wrongKind : Int32) (v_wrongPlace : Int32) (v_readWords : Int32) (v_readPassages : Int32) (v_readLetter : (Nat → Int32)) (v_readCue : (Nat → Int32)) (v_readPassage : (Nat → Int32)) (v_held : (Nat → Int32)) (r : Int32) (hF : f_X4_word p1 p2 v_w v_rowOf = some r) : Met l yX4_word wsX4_word rm_X4_word (va_Pc [.ref aM, .int p1, .int p2] (rdW dC dI cI cZ cO [(aM, .inr (4, [.ref a_w, .ref a_past, .int v_pastMany, .ref a_images, .int v_filled, .ref a_text, .int v_length, .int v_faultKind, .int v_faultPlace, .ref a_rowOf, .int v_rows, .int v_wrongKind, .int v_wrongPlace, .int v_readWords, .int v_readPassages, .ref a_readLetter, .ref a_readCue, .ref a_readPassage, .ref a_held])), (a_w, .inl (cI, 510, .inl v_w)), (a_past, .inl (cI, 4080, .inl v_past)), (a_images, .inl (cI, 1020, .inl v_images)), (a_text, .inl (cI, 140, .inl v_text)), (a_rowOf, .inl (cI, 120, .inl v_rowOf)), (a_readLetter, .inl (cI, 120, .inl v_readLetter)), (a_readCue, .inl (cI, 120, .inl v_readCue)), (a_readPassage, .inl (cI, 120, .inl v_readPassage)), (a_held, .inl (cI, 510, .inl v_held))])) (vp_Si (fun q => r = q)) 0 0 (fun _ => False) := by
  refine Met.ofW (cc := cX4_word) (maxL := 3) (ret := (some .int)) (by decide) rfl ?_
  intro p e s m args below meth c s₁ B hml hv
  obtain ⟨rfl, hP, hK, hN⟩ := hv
  have hx := B.exec
  have hb := B.bytes
  have hr := B.returns
  have hts := atoms_spec (ws := wsX4_word) B.pre
  have hown : s.vm.findClass RX4 = some m.cls := findClass_of_methodNamed B.named
  have hlocks := B.notSynchronized
  obtain ⟨Q, hQ⟩ : ∃ Q, Q = MQ below (vp_Si (fun q => r = q)) ([.ref aM, .int p1, .int p2] : List Value).toArray s 0 0 (fun _ => False) := ⟨_, rfl⟩
  rw [← hQ]
  have hS : va_S (fun _ => False) s.heap s.heap [] := va_S.rf
  have fl7 := hts (.fieldLink RX4 7 "TeleprompterModel" "w" "[I") (by decide +kernel)
  have fl29 := hts (.fieldLink RX4 29 "TeleprompterModel" "rowOf" "[I") (by decide +kernel)
  have inX4 : ∀ w ∈ u_ws RX4 TX4 19, w ∈ wsX4_word := by decide +kernel
  have hl := lv_entry ([.ref aM, .int p1, .int p2]) (n := 3) (Nat.le_of_ble_eq_true rfl)
  rw [lg_entry_eq]
  generalize (lg_sl ([.ref aM, .int p1, .int p2]) ++ List.replicate (3 - (lg_sl ([.ref aM, .int p1, .int p2])).length) Slot.unset).toArray = ls at hl ⊢
  have hl : lv_has ls 3 [(0, .ref aM), (1, .int p1), (2, .int p2)] := hl
  unfold f_X4_word at hF
  refine lv_aload_n hx hb dX4_word_0 rfl (lv_at hl 0 rfl) ?_
  refine lv_iload_n hx hb dX4_word_1 rfl (lv_at hl 1 rfl) ?_
  obtain ⟨q_2, hq_2, hF⟩ := bindE hF
  have hPc := hP
  refine vp_callSi (va_Run.run (va_runV (As := [.int p1]) (rest := []) ⟨hx, hb, hml, hown, hts⟩ (c_X4_isWord l dC dI cI cZ cO aM a_w a_past a_images a_text a_rowOf a_readLetter a_readCue a_readPassage a_held p1 v_w v_past v_pastMany v_images v_filled v_text v_length v_faultKind v_faultPlace v_rowOf v_rows v_wrongKind v_wrongPlace v_readWords v_readPassages v_readLetter v_readCue v_readPassage v_held q_2 hq_2) (cwV 1 hts gX4_word_X4_isWord rfl rfl rfl (by decide +kernel) ⟨Nat.le_of_ble_eq_true rfl, Nat.le_of_ble_eq_true rfl⟩) ⟨fb_rd, va_recv hK hPc (ci := 4) (q0 := 0) rfl rfl, pre_rd hPc hK hN⟩ rfl rfl hl.1 rfl (lv_room (Nat.le_of_ble_eq_true rfl)) dX4_word_2 ⟨Nat.zero_le _, Nat.zero_le _⟩)) (fun z_2 hz_2 => ?_)
  subst hz_2
  refine lv_if_ne (tgt := 10) hx hb dX4_word_5 (by decide) (fun c_5 => ?_) (fun c_5 => ?_)
  · have hF := (if_neg c_5).symm.trans hF
    refine lv_iload_n hx hb dX4_word_10 rfl (lv_at hl 2 rfl) ?_
    by_cases c_11_0 : p2 = (0 : Int32)
    · have hF := (if_pos c_11_0).symm.trans hF
      refine lv_tableIn (tgt := 44) (off := 33) hx hb dX4_word_11 (by rw [c_11_0]; decide) (by rw [c_11_0]; decide) (by rw [c_11_0]; rfl) (by decide) ?_
      refine lv_aload_n hx hb dX4_word_44 rfl (lv_at hl 0 rfl) ?_
      refine va_get (D := (dC, dI)) (ci := 4) (v := .ref a_w) (C := RX4) (T := TX4) (N := 19) hx hb hts inX4 hown hK hP 0 rfl rfl 0 (by decide) fl7 (fun _ h9 => h9) rfl dX4_word_45 ?_
      refine lv_sipush (v := (150 : Int32)) hx hb dX4_word_48 (by decide) ?_
      refine lv_iload_n hx hb dX4_word_51 rfl (lv_at hl 1 rfl) ?_
      refine lv_iadd hx hb dX4_word_52 ?_
      by_cases b_53 : (((150 : Int32) + p1) < 0 ∨ 510 ≤ (((150 : Int32) + p1)).toNatClampNeg)
      · exact noneE ((if_pos b_53).symm.trans hF)
      have hF := (if_neg b_53).symm.trans hF
      refine va_iald hx hb hK hP 1 0 rfl rfl b_53 dX4_word_53 ?_
      have hF : some (v_w ((((150 : Int32) + p1)).toNatClampNeg)) = some r := hF
      cases hF
      subst hQ
      exact W.iret hx hb hr (fun t ht hW => ⟨_, rfl, rfl, ht⟩) (fun q hq => absurd hq List.not_mem_nil) dX4_word_54
    have hF := (if_neg c_11_0).symm.trans hF
    by_cases c_11_1 : p2 = (1 : Int32)
    · have hF := (if_pos c_11_1).symm.trans hF
      refine lv_tableIn (tgt := 55) (off := 44) hx hb dX4_word_11 (by rw [c_11_1]; decide) (by rw [c_11_1]; decide) (by rw [c_11_1]; rfl) (by decide) ?_
      refine lv_aload_n hx hb dX4_word_55 rfl (lv_at hl 0 rfl) ?_
      refine va_get (D := (dC, dI)) (ci := 4) (v := .ref a_rowOf) (C := RX4) (T := TX4) (N := 19) hx hb hts inX4 hown hK hP 0 rfl rfl 9 (by decide) fl29 (fun _ h9 => h9) rfl dX4_word_56 ?_
      refine lv_iload_n hx hb dX4_word_59 rfl (lv_at hl 1 rfl) ?_
      by_cases b_60 : (p1 < 0 ∨ 120 ≤ p1.toNatClampNeg)
      · exact noneE ((if_pos b_60).symm.trans hF)
      have hF := (if_neg b_60).symm.trans hF
      refine va_iald hx hb hK hP 5 0 rfl rfl b_60 dX4_word_60 ?_
      have hF : some (v_rowOf p1.toNatClampNeg) = some r := hF
      cases hF
      subst hQ
      exact W.iret hx hb hr (fun t ht hW => ⟨_, rfl, rfl, ht⟩) (fun q hq => absurd hq List.not_mem_nil) dX4_word_61
    have hF := (if_neg c_11_1).symm.trans hF
    by_cases c_11_2 : p2 = (2 : Int32)
    · have hF := (if_pos c_11_2).symm.trans hF
      refine lv_tableIn (tgt := 62) (off := 51) hx hb dX4_word_11 (by rw [c_11_2]; decide) (by rw [c_11_2]; decide) (by rw [c_11_2]; rfl) (by decide) ?_
      refine lv_aload_n hx hb dX4_word_62 rfl (lv_at hl 0 rfl) ?_
      refine va_get (D := (dC, dI)) (ci := 4) (v := .ref a_w) (C := RX4) (T := TX4) (N := 19) hx hb hts inX4 hown hK hP 0 rfl rfl 0 (by decide) fl7 (fun _ h9 => h9) rfl dX4_word_63 ?_
      refine lv_sipush (v := (390 : Int32)) hx hb dX4_word_66 (by decide) ?_
      refine lv_iload_n hx hb dX4_word_69 rfl (lv_at hl 1 rfl) ?_
      refine lv_iadd hx hb dX4_word_70 ?_
      by_cases b_71 : (((390 : Int32) + p1) < 0 ∨ 510 ≤ (((390 : Int32) + p1)).toNatClampNeg)
      · exact noneE ((if_pos b_71).symm.trans hF)
      have hF := (if_neg b_71).symm.trans hF
      refine va_iald hx hb hK hP 1 0 rfl rfl b_71 dX4_word_71 ?_
      have hF : some (v_w ((((390 : Int32) + p1)).toNatClampNeg)) = some r := hF
      cases hF
      subst hQ
      exact W.iret hx hb hr (fun t ht hW => ⟨_, rfl, rfl, ht⟩) (fun q hq => absurd hq List.not_mem_nil) dX4_word_72
    have hF := (if_neg c_11_2).symm.trans hF
    by_cases c_11_3 : p2 = (3 : Int32)
    · have hF := (if_pos c_11_3).symm.trans hF
      refine lv_tableIn (tgt := 73) (off := 62) hx hb dX4_word_11 (by rw [c_11_3]; decide) (by rw [c_11_3]; decide) (by rw [c_11_3]; rfl) (by decide) ?_
      refine lv_aload_n hx hb dX4_word_73 rfl (lv_at hl 0 rfl) ?_
      refine va_get (D := (dC, dI)) (ci := 4) (v := .ref a_w) (C := RX4) (T := TX4) (N := 19) hx hb hts inX4 hown hK hP 0 rfl rfl 0 (by decide) fl7 (fun _ h9 => h9) rfl dX4_word_74 ?_
      refine lv_sipush (v := (270 : Int32)) hx hb dX4_word_77 (by decide) ?_
      refine lv_iload_n hx hb dX4_word_80 rfl (lv_at hl 1 rfl) ?_
      refine lv_iadd hx hb dX4_word_81 ?_
      by_cases b_82 : (((270 : Int32) + p1) < 0 ∨ 510 ≤ (((270 : Int32) + p1)).toNatClampNeg)
      · exact noneE ((if_pos b_82).symm.trans hF)
      have hF := (if_neg b_82).symm.trans hF
      refine va_iald hx hb hK hP 1 0 rfl rfl b_82 dX4_word_82 ?_
      have hF : some (v_w ((((270 : Int32) + p1)).toNatClampNeg)) = some r := hF
      cases hF
      subst hQ
      exact W.iret hx hb hr (fun t ht hW => ⟨_, rfl, rfl, ht⟩) (fun q hq => absurd hq List.not_mem_nil) dX4_word_83
    have hF := (if_neg c_11_3).symm.trans hF
    by_cases c_11_4 : p2 = (4 : Int32)
    · have hF := (if_pos c_11_4).symm.trans hF
      refine lv_tableIn (tgt := 84) (off := 73) hx hb dX4_word_11 (by rw [c_11_4]; decide) (by rw [c_11_4]; decide) (by rw [c_11_4]; rfl) (by decide) ?_
      refine lv_aload_n hx hb dX4_word_84 rfl (lv_at hl 0 rfl) ?_
      refine lv_aload_n hx hb dX4_word_85 rfl (lv_at hl 0 rfl) ?_
      refine va_get (D := (dC, dI)) (ci := 4) (v := .ref a_rowOf) (C := RX4) (T := TX4) (N := 19) hx hb hts inX4 hown hK hP 0 rfl rfl 9 (by decide) fl29 (fun _ h9 => h9) rfl dX4_word_86 ?_
      refine lv_iload_n hx hb dX4_word_89 rfl (lv_at hl 1 rfl) ?_
      by_cases b_90 : (p1 < 0 ∨ 120 ≤ p1.toNatClampNeg)
      · exact noneE ((if_pos b_90).symm.trans hF)
      have hF := (if_neg b_90).symm.trans hF
      refine va_iald hx hb hK hP 5 0 rfl rfl b_90 dX4_word_90 ?_
      obtain ⟨q_91, hq_91, hF⟩ := bindE hF
      have hPc := hP
      refine vp_callSi (va_Run.run (va_runV (As := [.int (v_rowOf p1.toNatClampNeg)]) (rest := []) ⟨hx, hb, hml, hown, hts⟩ (c_X4_isShown l dC dI cI cZ cO aM a_w a_past a_images a_text a_rowOf a_readLetter a_readCue a_readPassage a_held (v_rowOf p1.toNatClampNeg) v_w v_past v_pastMany v_images v_filled v_text v_length v_faultKind v_faultPlace v_rowOf v_rows v_wrongKind v_wrongPlace v_readWords v_readPassages v_readLetter v_readCue v_readPassage v_held q_91 hq_91) (cwV 1 hts gX4_word_X4_isShown rfl rfl rfl (by decide +kernel) ⟨Nat.le_of_ble_eq_true rfl, Nat.le_of_ble_eq_true rfl⟩) ⟨fb_rd, va_recv hK hPc (ci := 4) (q0 := 0) rfl rfl, pre_rd hPc hK hN⟩ rfl rfl hl.1 rfl (lv_room (Nat.le_of_ble_eq_true rfl)) dX4_word_91 ⟨Nat.zero_le _, Nat.zero_le _⟩)) (fun z_91 hz_91 => ?_)
      subst hz_91
      refine lv_if_eq (tgt := 101) hx hb dX4_word_94 (by decide) (fun c_94 => ?_) (fun c_94 => ?_)
      · have hF := (if_pos c_94).symm.trans hF
        refine lv_iconst (v := (0 : Int32)) hx hb dX4_word_101 (by decide) ?_
        have hF : some (0 : Int32) = some r := hF
        cases hF
        subst hQ
        exact W.iret hx hb hr (fun t ht hW => ⟨_, rfl, rfl, ht⟩) (fun q hq => absurd hq List.not_mem_nil) dX4_word_102
      · have hF := (if_neg c_94).symm.trans hF
        refine lv_iconst (v := (1 : Int32)) hx hb dX4_word_97 (by decide) ?_
        refine lv_goto (tgt := 102) hx hb dX4_word_98 (by decide) ?_
        have hF : some (1 : Int32) = some r := hF
        cases hF
        subst hQ
        exact W.iret hx hb hr (fun t ht hW => ⟨_, rfl, rfl, ht⟩) (fun q hq => absurd hq List.not_mem_nil) dX4_word_102
    have hF := (if_neg c_11_4).symm.trans hF
    refine lv_tableOut (tgt := 103) hx hb dX4_word_11 (tsOut (by decide) (by decide) (by
        intro k h1 h2; rcases (show k = 0 ∨ k = 1 ∨ k = 2 ∨ k = 3 ∨ k = 4 by omega) with rfl | rfl | rfl | rfl | rfl
        · exact c_11_0
        · exact c_11_1
        · exact c_11_2
        · exact c_11_3
        · exact c_11_4
        )) (by decide) ?_
    refine lv_iconst (v := (-1 : Int32)) hx hb dX4_word_103 (by decide) ?_
    have hF : some (-1 : Int32) = some r := hF
    cases hF
    subst hQ
    exact W.iret hx hb hr (fun t ht hW => ⟨_, rfl, rfl, ht⟩) (fun q hq => absurd hq List.not_mem_nil) dX4_word_104
  · have hF := (if_pos c_5).symm.trans hF
    refine lv_iconst (v := (-1 : Int32)) hx hb dX4_word_8 (by decide) ?_
    have hF : some (-1 : Int32) = some r := hF
    cases hF
    subst hQ
    exact W.iret hx hb hr (fun t ht hW => ⟨_, rfl, rfl, ht⟩) (fun q hq => absurd hq List.not_mem_nil) dX4_word_9
def f_X4_row_34 (v_w : (Nat → Int32)) (v_rowOf : (Nat → Int32)) (x1 : Int32) (x2 : Int32) : Nat → Int32 → Int32 → Int32 → Option Int32
  | 0, _, _, _ => none
  | n + 1, x3, x4, x5 =>
    if (v_w 9) ≤ x5 then
      if x2 = (0 : Int32) then
        some x3
      else
        some x4
    else
      if x5 < 0 ∨ 120 ≤ x5.toNatClampNeg then none else
      if (v_rowOf x5.toNatClampNeg) = x1 then
        if x3 = (-9 : Int32) then
          f_X4_row_34 v_w v_rowOf x1 x2 n x5 (x4 + 1) (x5 + 1)
        else
          f_X4_row_34 v_w v_rowOf x1 x2 n x3 (x4 + 1) (x5 + 1)
      else
        f_X4_row_34 v_w v_rowOf x1 x2 n x3 x4 (x5 + 1)
def f_X4_row (p1 : Int32) (p2 : Int32) (v_w : (Nat → Int32)) (v_rowOf : (Nat → Int32)) (v_rows : Int32) : Option Int32 :=
  (f_X4_isIn p1 (0 : Int32) (v_rows - (1 : Int32))).bind fun q8 =>
  if q8 = (0 : Int32) then
    some (-1 : Int32)
  else
    (f_X4_isIn p2 (0 : Int32) (1 : Int32)).bind fun q17 =>
    if q17 = (0 : Int32) then
      some (-1 : Int32)
    else
      f_X4_row_34 v_w v_rowOf p1 p2 gas (-9 : Int32) (0 : Int32) (0 : Int32)
def rm_X4_row : Room := { frames := 1, cells := 0, slots := 0, locals := 22 }
set_option maxHeartbeats 4000000 in
set_option maxRecDepth 100000 in
theorem c_X4_row (l : Launch) (dC : Nat → ClassId) (dI : Nat → Nat → Nat) (cI cZ cO : ClassId) (aM a_w a_past a_images a_text a_rowOf a_readLetter a_readCue a_readPassage a_held : Nat) (p1 : Int32) (p2 : Int32) (v_w : (Nat → Int32)) (v_past : (Nat → Int32)) (v_pastMany : Int32) (v_images : (Nat → Int32)) (v_filled : Int32) (v_text : (Nat → Int32)) (v_length : Int32) (v_faultKind : Int32) (v_faultPlace : Int32) (v_rowOf : (Nat → Int32)) (v_rows : Int32) (v_wrongKind : Int32) (v_wrongPlace : Int32) (v_readWords : Int32) (v_readPassages : Int32) (v_readLetter : (Nat → Int32)) (v_readCue : (Nat → Int32)) (v_readPassage : (Nat → Int32)) (v_held : (Nat → Int32)) (r : Int32) (hF : f_X4_row p1 p2 v_w v_rowOf v_rows = some r) : Met l yX4_row wsX4_row rm_X4_row (va_Pc [.ref aM, .int p1, .int p2] (rdW dC dI cI cZ cO [(aM, .inr (4, [.ref a_w, .ref a_past, .int v_pastMany, .ref a_images, .int v_filled, .ref a_text, .int v_length, .int v_faultKind, .int v_faultPlace, .ref a_rowOf, .int v_rows, .int v_wrongKind, .int v_wrongPlace, .int v_readWords, .int v_readPassages, .ref a_readLetter, .ref a_readCue, .ref a_readPassage, .ref a_held])), (a_w, .inl (cI, 510, .inl v_w)), (a_past, .inl (cI, 4080, .inl v_past)), (a_images, .inl (cI, 1020, .inl v_images)), (a_text, .inl (cI, 140, .inl v_text)), (a_rowOf, .inl (cI, 120, .inl v_rowOf)), (a_readLetter, .inl (cI, 120, .inl v_readLetter)), (a_readCue, .inl (cI, 120, .inl v_readCue)), (a_readPassage, .inl (cI, 120, .inl v_readPassage)), (a_held, .inl (cI, 510, .inl v_held))])) (vp_Si (fun q => r = q)) 0 0 (fun _ => False) := by
  refine Met.ofW (cc := cX4_row) (maxL := 6) (ret := (some .int)) (by decide) rfl ?_
  intro p e s m args below meth c s₁ B hml hv
  obtain ⟨rfl, hP, hK, hN⟩ := hv
  have hx := B.exec
  have hb := B.bytes
  have hr := B.returns
  have hts := atoms_spec (ws := wsX4_row) B.pre
  have hown : s.vm.findClass RX4 = some m.cls := findClass_of_methodNamed B.named
  have hlocks := B.notSynchronized
  obtain ⟨Q, hQ⟩ : ∃ Q, Q = MQ below (vp_Si (fun q => r = q)) ([.ref aM, .int p1, .int p2] : List Value).toArray s 0 0 (fun _ => False) := ⟨_, rfl⟩
  rw [← hQ]
  have hS : va_S (fun _ => False) s.heap s.heap [] := va_S.rf
  have fl7 := hts (.fieldLink RX4 7 "TeleprompterModel" "w" "[I") (by decide +kernel)
  have fl29 := hts (.fieldLink RX4 29 "TeleprompterModel" "rowOf" "[I") (by decide +kernel)
  have fl50 := hts (.fieldLink RX4 50 "TeleprompterModel" "rows" "I") (by decide +kernel)
  have inX4 : ∀ w ∈ u_ws RX4 TX4 19, w ∈ wsX4_row := by decide +kernel
  have hl := lv_entry ([.ref aM, .int p1, .int p2]) (n := 6) (Nat.le_of_ble_eq_true rfl)
  rw [lg_entry_eq]
  generalize (lg_sl ([.ref aM, .int p1, .int p2]) ++ List.replicate (6 - (lg_sl ([.ref aM, .int p1, .int p2])).length) Slot.unset).toArray = ls at hl ⊢
  have hl : lv_has ls 6 [(0, .ref aM), (1, .int p1), (2, .int p2)] := hl
  have B34 : ∀ (n_34 : Nat) (x1_34 : Int32) (x2_34 : Int32) (x3_34 : Int32) (x4_34 : Int32) (x5_34 : Int32), f_X4_row_34 v_w v_rowOf x1_34 x2_34 n_34 x3_34 x4_34 x5_34 = some r → ∀ ls : Array Slot, lv_has ls 6 [(0, .ref aM), (1, .int x1_34), (2, .int x2_34), (3, .int x3_34), (4, .int x4_34), (5, .int x5_34)] → W p l e (headSpec wsX4_row rm_X4_row).room s m ([.ref aM, .int p1, .int p2] : List Value).toArray below meth c s.heap [] 0 0 Q (F0 m 34 ls []) := by
    intro n_34
    induction n_34 with
    | zero => intro x1_34 x2_34 x3_34 x4_34 x5_34 hF; exact noneE hF
    | succ n_34 ih34 =>
      intro x1_34 x2_34 x3_34 x4_34 x5_34 hF ls hl
      rw [f_X4_row_34] at hF
      refine lv_iload hx hb dX4_row_34 (lv_at hl 5 rfl) ?_
      refine lv_aload_n hx hb dX4_row_36 rfl (lv_at hl 0 rfl) ?_
      refine va_get (D := (dC, dI)) (ci := 4) (v := .ref a_w) (C := RX4) (T := TX4) (N := 19) hx hb hts inX4 hown hK hP 0 rfl rfl 0 (by decide) fl7 (fun _ h9 => h9) rfl dX4_row_37 ?_
      refine lv_bipush (v := (9 : Int32)) hx hb dX4_row_40 (by decide) ?_
      refine va_ialdK hx hb hK hP 1 0 rfl rfl (inK (by decide)) (j := 9) (by decide) dX4_row_42 ?_
      refine lv_icmp_ge (tgt := 79) hx hb dX4_row_43 (by decide) (fun c_43 => ?_) (fun c_43 => ?_)
      · have hF := (if_pos c_43).symm.trans hF
        refine lv_iload_n hx hb dX4_row_79 rfl (lv_at hl 2 rfl) ?_
        refine lv_if_ne (tgt := 87) hx hb dX4_row_80 (by decide) (fun c_80 => ?_) (fun c_80 => ?_)
        · have hF := (if_neg c_80).symm.trans hF
          refine lv_iload hx hb dX4_row_87 (lv_at hl 4 rfl) ?_
          have hF : some x4_34 = some r := hF
          cases hF
          subst hQ
          exact W.iret hx hb hr (fun t ht hW => ⟨_, rfl, rfl, ht⟩) (fun q hq => absurd hq List.not_mem_nil) dX4_row_89
        · have hF := (if_pos c_80).symm.trans hF
          refine lv_iload_n hx hb dX4_row_83 rfl (lv_at hl 3 rfl) ?_
          refine lv_goto (tgt := 89) hx hb dX4_row_84 (by decide) ?_
          have hF : some x3_34 = some r := hF
          cases hF
          subst hQ
          exact W.iret hx hb hr (fun t ht hW => ⟨_, rfl, rfl, ht⟩) (fun q hq => absurd hq List.not_mem_nil) dX4_row_89
      · have hF := (if_neg c_43).symm.trans hF
        refine lv_aload_n hx hb dX4_row_46 rfl (lv_at hl 0 rfl) ?_
        refine va_get (D := (dC, dI)) (ci := 4) (v := .ref a_rowOf) (C := RX4) (T := TX4) (N := 19) hx hb hts inX4 hown hK hP 0 rfl rfl 9 (by decide) fl29 (fun _ h9 => h9) rfl dX4_row_47 ?_
        refine lv_iload hx hb dX4_row_50 (lv_at hl 5 rfl) ?_
        by_cases b_52 : (x5_34 < 0 ∨ 120 ≤ x5_34.toNatClampNeg)
        · exact noneE ((if_pos b_52).symm.trans hF)
        have hF := (if_neg b_52).symm.trans hF
        refine va_iald hx hb hK hP 5 0 rfl rfl b_52 dX4_row_52 ?_
        refine lv_iload_n hx hb dX4_row_53 rfl (lv_at hl 1 rfl) ?_
        refine lv_icmp_ne (tgt := 73) hx hb dX4_row_54 (by decide) (fun c_54 => ?_) (fun c_54 => ?_)
        · have hF := (if_neg c_54).symm.trans hF
          refine lv_iinc (v := (x5_34 + 1)) (lv' := [(5, .int (x5_34 + 1)), (0, .ref aM), (1, .int x1_34), (2, .int x2_34), (3, .int x3_34), (4, .int x4_34)]) hx hb dX4_row_73 hl (k := 5) rfl rfl (by decide) rfl (fun ls hl => ?_)
          refine lv_goto (tgt := 34) hx hb dX4_row_76 (by decide) ?_
          exact ih34 x1_34 x2_34 x3_34 x4_34 (x5_34 + 1) hF _ (lv_sub hl [1, 2, 3, 4, 5, 0] rfl)
        · have hF := (if_pos c_54).symm.trans hF
          refine lv_iload_n hx hb dX4_row_57 rfl (lv_at hl 3 rfl) ?_
          refine lv_bipush (v := (-9 : Int32)) hx hb dX4_row_58 (by decide) ?_
          refine lv_icmp_ne (tgt := 68) hx hb dX4_row_60 (by decide) (fun c_60 => ?_) (fun c_60 => ?_)
          · have hF := (if_neg c_60).symm.trans hF
            refine lv_iload_n hx hb dX4_row_68 rfl (lv_at hl 3 rfl) ?_
            refine lv_istore_n (lv' := [(3, .int x3_34), (0, .ref aM), (1, .int x1_34), (2, .int x2_34), (4, .int x4_34), (5, .int x5_34)]) hx hb dX4_row_69 rfl hl (by decide) rfl (fun ls hl => ?_)
            refine lv_iinc (v := (x4_34 + 1)) (lv' := [(4, .int (x4_34 + 1)), (3, .int x3_34), (0, .ref aM), (1, .int x1_34), (2, .int x2_34), (5, .int x5_34)]) hx hb dX4_row_70 hl (k := 4) rfl rfl (by decide) rfl (fun ls hl => ?_)
            refine lv_iinc (v := (x5_34 + 1)) (lv' := [(5, .int (x5_34 + 1)), (4, .int (x4_34 + 1)), (3, .int x3_34), (0, .ref aM), (1, .int x1_34), (2, .int x2_34)]) hx hb dX4_row_73 hl (k := 5) rfl rfl (by decide) rfl (fun ls hl => ?_)
            refine lv_goto (tgt := 34) hx hb dX4_row_76 (by decide) ?_
            exact ih34 x1_34 x2_34 x3_34 (x4_34 + 1) (x5_34 + 1) hF _ (lv_sub hl [3, 4, 5, 2, 1, 0] rfl)
          · have hF := (if_pos c_60).symm.trans hF
            refine lv_iload hx hb dX4_row_63 (lv_at hl 5 rfl) ?_
            refine lv_goto (tgt := 69) hx hb dX4_row_65 (by decide) ?_
            refine lv_istore_n (lv' := [(3, .int x5_34), (0, .ref aM), (1, .int x1_34), (2, .int x2_34), (4, .int x4_34), (5, .int x5_34)]) hx hb dX4_row_69 rfl hl (by decide) rfl (fun ls hl => ?_)
            refine lv_iinc (v := (x4_34 + 1)) (lv' := [(4, .int (x4_34 + 1)), (3, .int x5_34), (0, .ref aM), (1, .int x1_34), (2, .int x2_34), (5, .int x5_34)]) hx hb dX4_row_70 hl (k := 4) rfl rfl (by decide) rfl (fun ls hl => ?_)
            refine lv_iinc (v := (x5_34 + 1)) (lv' := [(5, .int (x5_34 + 1)), (4, .int (x4_34 + 1)), (3, .int x5_34), (0, .ref aM), (1, .int x1_34), (2, .int x2_34)]) hx hb dX4_row_73 hl (k := 5) rfl rfl (by decide) rfl (fun ls hl => ?_)
            refine lv_goto (tgt := 34) hx hb dX4_row_76 (by decide) ?_
            exact ih34 x1_34 x2_34 x5_34 (x4_34 + 1) (x5_34 + 1) hF _ (lv_sub hl [3, 4, 5, 2, 1, 0] rfl)
  unfold f_X4_row at hF
  refine lv_iload_n hx hb dX4_row_0 rfl (lv_at hl 1 rfl) ?_
  refine lv_iconst (v := (0 : Int32)) hx hb dX4_row_1 (by decide) ?_
  refine lv_aload_n hx hb dX4_row_2 rfl (lv_at hl 0 rfl) ?_
  refine va_get (D := (dC, dI)) (ci := 4) (v := .int v_rows) (C := RX4) (T := TX4) (N := 19) hx hb hts inX4 hown hK hP 0 rfl rfl 10 (by decide) fl50 (fun _ h9 => h9) rfl dX4_row_3 ?_
  refine lv_iconst (v := (1 : Int32)) hx hb dX4_row_6 (by decide) ?_
  refine lv_isub hx hb dX4_row_7 ?_
  obtain ⟨q_8, hq_8, hF⟩ := bindE hF
  have hPc := hP.sub (ws' := []) [] rfl
  refine vp_callSi (va_Run.run (va_runS (As := [.int p1, .int (0 : Int32), .int (v_rows - (1 : Int32))]) (rest := []) ⟨hx, hb, hml, hown, hts⟩ (c_X4_isIn l dC dI cI cZ cO p1 (0 : Int32) (v_rows - (1 : Int32)) q_8 hq_8) (cwS 3 hts gX4_row_X4_isIn rfl rfl rfl (by decide +kernel) ⟨Nat.le_of_ble_eq_true rfl, Nat.le_of_ble_eq_true rfl⟩) ⟨fb_rd, pre_rd hPc hK hN⟩ rfl rfl hl.1 rfl (lv_room (Nat.le_of_ble_eq_true rfl)) dX4_row_8 ⟨Nat.zero_le _, Nat.zero_le _⟩)) (fun z_8 hz_8 => ?_)
  subst hz_8
  refine lv_if_eq (tgt := 23) hx hb dX4_row_11 (by decide) (fun c_11 => ?_) (fun c_11 => ?_)
  · have hF := (if_pos c_11).symm.trans hF
    refine lv_iconst (v := (-1 : Int32)) hx hb dX4_row_23 (by decide) ?_
    have hF : some (-1 : Int32) = some r := hF
    cases hF
    subst hQ
    exact W.iret hx hb hr (fun t ht hW => ⟨_, rfl, rfl, ht⟩) (fun q hq => absurd hq List.not_mem_nil) dX4_row_24
  · have hF := (if_neg c_11).symm.trans hF
    refine lv_iload_n hx hb dX4_row_14 rfl (lv_at hl 2 rfl) ?_
    refine lv_iconst (v := (0 : Int32)) hx hb dX4_row_15 (by decide) ?_
    refine lv_iconst (v := (1 : Int32)) hx hb dX4_row_16 (by decide) ?_
    obtain ⟨q_17, hq_17, hF⟩ := bindE hF
    have hPc := hP.sub (ws' := []) [] rfl
    refine vp_callSi (va_Run.run (va_runS (As := [.int p2, .int (0 : Int32), .int (1 : Int32)]) (rest := []) ⟨hx, hb, hml, hown, hts⟩ (c_X4_isIn l dC dI cI cZ cO p2 (0 : Int32) (1 : Int32) q_17 hq_17) (cwS 3 hts gX4_row_X4_isIn rfl rfl rfl (by decide +kernel) ⟨Nat.le_of_ble_eq_true rfl, Nat.le_of_ble_eq_true rfl⟩) ⟨fb_rd, pre_rd hPc hK hN⟩ rfl rfl hl.1 rfl (lv_room (Nat.le_of_ble_eq_true rfl)) dX4_row_17 ⟨Nat.zero_le _, Nat.zero_le _⟩)) (fun z_17 hz_17 => ?_)
    subst hz_17
    refine lv_if_ne (tgt := 25) hx hb dX4_row_20 (by decide) (fun c_20 => ?_) (fun c_20 => ?_)
    · have hF := (if_neg c_20).symm.trans hF
      refine lv_bipush (v := (-9 : Int32)) hx hb dX4_row_25 (by decide) ?_
      refine lv_istore_n (lv' := [(3, .int (-9 : Int32)), (0, .ref aM), (1, .int p1), (2, .int p2)]) hx hb dX4_row_27 rfl hl (by decide) rfl (fun ls hl => ?_)
      refine lv_iconst (v := (0 : Int32)) hx hb dX4_row_28 (by decide) ?_
      refine lv_istore (lv' := [(4, .int (0 : Int32)), (3, .int (-9 : Int32)), (0, .ref aM), (1, .int p1), (2, .int p2)]) hx hb dX4_row_29 hl (by decide) rfl (fun ls hl => ?_)
      refine lv_iconst (v := (0 : Int32)) hx hb dX4_row_31 (by decide) ?_
      refine lv_istore (lv' := [(5, .int (0 : Int32)), (4, .int (0 : Int32)), (3, .int (-9 : Int32)), (0, .ref aM), (1, .int p1), (2, .int p2)]) hx hb dX4_row_32 hl (by decide) rfl (fun ls hl => ?_)
      exact B34 gas p1 p2 (-9 : Int32) (0 : Int32) (0 : Int32) hF _ (lv_sub hl [3, 4, 5, 2, 1, 0] rfl)
    · have hF := (if_pos c_20).symm.trans hF
      refine lv_iconst (v := (-1 : Int32)) hx hb dX4_row_23 (by decide) ?_
      have hF : some (-1 : Int32) = some r := hF
      cases hF
      subst hQ
      exact W.iret hx hb hr (fun t ht hW => ⟨_, rfl, rfl, ht⟩) (fun q hq => absurd hq List.not_mem_nil) dX4_row_24
def f_X4_heard (p1 : Int32) (v_w : (Nat → Int32)) : Option Int32 :=
  if (0 : Int32) ≤ p1 then
    if (v_w 20) ≤ p1 then
      some (-9 : Int32)
    else
      if ((21 : Int32) + p1) < 0 ∨ 510 ≤ (((21 : Int32) + p1)).toNatClampNeg then none else
      some (v_w ((((21 : Int32) + p1)).toNatClampNeg))
  else
    some (-1 : Int32)
def rm_X4_heard : Room := { frames := 0, cells := 0, slots := 0, locals := 0 }
set_option maxHeartbeats 4000000 in
set_option maxRecDepth 100000 in
theorem c_X4_heard (l : Launch) (dC : Nat → ClassId) (dI : Nat → Nat → Nat) (cI cZ cO : ClassId) (aM a_w a_past a_images a_text a_rowOf a_readLetter a_readCue a_readPassage a_held : Nat) (p1 : Int32) (v_w : (Nat → Int32)) (v_past : (Nat → Int32)) (v_pastMany : Int32) (v_images : (Nat → Int32)) (v_filled : Int32) (v_text : (Nat → Int32)) (v_length : Int32) (v_faultKind : Int32) (v_faultPlace : Int32) (v_rowOf : (Nat → Int32)) (v_rows : Int32) (v_wrongKind : Int32) (v_wrongPlace : Int32) (v_readWords : Int32) (v_readPassages : Int32) (v_readLetter : (Nat → Int32)) (v_readCue : (Nat → Int32)) (v_readPassage : (Nat → Int32)) (v_held : (Nat → Int32)) (r : Int32) (hF : f_X4_heard p1 v_w = some r) : Met l yX4_heard wsX4_heard rm_X4_heard (va_Pc [.ref aM, .int p1] (rdW dC dI cI cZ cO [(aM, .inr (4, [.ref a_w, .ref a_past, .int v_pastMany, .ref a_images, .int v_filled, .ref a_text, .int v_length, .int v_faultKind, .int v_faultPlace, .ref a_rowOf, .int v_rows, .int v_wrongKind, .int v_wrongPlace, .int v_readWords, .int v_readPassages, .ref a_readLetter, .ref a_readCue, .ref a_readPassage, .ref a_held])), (a_w, .inl (cI, 510, .inl v_w)), (a_past, .inl (cI, 4080, .inl v_past)), (a_images, .inl (cI, 1020, .inl v_images)), (a_text, .inl (cI, 140, .inl v_text)), (a_rowOf, .inl (cI, 120, .inl v_rowOf)), (a_readLetter, .inl (cI, 120, .inl v_readLetter)), (a_readCue, .inl (cI, 120, .inl v_readCue)), (a_readPassage, .inl (cI, 120, .inl v_readPassage)), (a_held, .inl (cI, 510, .inl v_held))])) (vp_Si (fun q => r = q)) 0 0 (fun _ => False) := by
  refine Met.ofW (cc := cX4_heard) (maxL := 2) (ret := (some .int)) (by decide) rfl ?_
  intro p e s m args below meth c s₁ B hml hv
  obtain ⟨rfl, hP, hK, hN⟩ := hv
  have hx := B.exec
  have hb := B.bytes
  have hr := B.returns
  have hts := atoms_spec (ws := wsX4_heard) B.pre
  have hown : s.vm.findClass RX4 = some m.cls := findClass_of_methodNamed B.named
  have hlocks := B.notSynchronized
  obtain ⟨Q, hQ⟩ : ∃ Q, Q = MQ below (vp_Si (fun q => r = q)) ([.ref aM, .int p1] : List Value).toArray s 0 0 (fun _ => False) := ⟨_, rfl⟩
  rw [← hQ]
  have hS : va_S (fun _ => False) s.heap s.heap [] := va_S.rf
  have fl7 := hts (.fieldLink RX4 7 "TeleprompterModel" "w" "[I") (by decide +kernel)
  have inX4 : ∀ w ∈ u_ws RX4 TX4 19, w ∈ wsX4_heard := by decide +kernel
  have hl := lv_entry ([.ref aM, .int p1]) (n := 2) (Nat.le_of_ble_eq_true rfl)
  rw [lg_entry_eq]
  generalize (lg_sl ([.ref aM, .int p1]) ++ List.replicate (2 - (lg_sl ([.ref aM, .int p1])).length) Slot.unset).toArray = ls at hl ⊢
  have hl : lv_has ls 2 [(0, .ref aM), (1, .int p1)] := hl
  unfold f_X4_heard at hF
  refine lv_iload_n hx hb dX4_heard_0 rfl (lv_at hl 1 rfl) ?_
  refine lv_if_ge (tgt := 8) hx hb dX4_heard_1 (by decide) (fun c_1 => ?_) (fun c_1 => ?_)
  · have hF := (if_pos c_1).symm.trans hF
    refine lv_iload_n hx hb dX4_heard_8 rfl (lv_at hl 1 rfl) ?_
    refine lv_aload_n hx hb dX4_heard_9 rfl (lv_at hl 0 rfl) ?_
    refine va_get (D := (dC, dI)) (ci := 4) (v := .ref a_w) (C := RX4) (T := TX4) (N := 19) hx hb hts inX4 hown hK hP 0 rfl rfl 0 (by decide) fl7 (fun _ h9 => h9) rfl dX4_heard_10 ?_
    refine lv_bipush (v := (20 : Int32)) hx hb dX4_heard_13 (by decide) ?_
    refine va_ialdK hx hb hK hP 1 0 rfl rfl (inK (by decide)) (j := 20) (by decide) dX4_heard_15 ?_
    refine lv_icmp_ge (tgt := 31) hx hb dX4_heard_16 (by decide) (fun c_16 => ?_) (fun c_16 => ?_)
    · have hF := (if_pos c_16).symm.trans hF
      refine lv_bipush (v := (-9 : Int32)) hx hb dX4_heard_31 (by decide) ?_
      have hF : some (-9 : Int32) = some r := hF
      cases hF
      subst hQ
      exact W.iret hx hb hr (fun t ht hW => ⟨_, rfl, rfl, ht⟩) (fun q hq => absurd hq List.not_mem_nil) dX4_heard_33
    · have hF := (if_neg c_16).symm.trans hF
      refine lv_aload_n hx hb dX4_heard_19 rfl (lv_at hl 0 rfl) ?_
      refine va_get (D := (dC, dI)) (ci := 4) (v := .ref a_w) (C := RX4) (T := TX4) (N := 19) hx hb hts inX4 hown hK hP 0 rfl rfl 0 (by decide) fl7 (fun _ h9 => h9) rfl dX4_heard_20 ?_
      refine lv_bipush (v := (21 : Int32)) hx hb dX4_heard_23 (by decide) ?_
      refine lv_iload_n hx hb dX4_heard_25 rfl (lv_at hl 1 rfl) ?_
      refine lv_iadd hx hb dX4_heard_26 ?_
      by_cases b_27 : (((21 : Int32) + p1) < 0 ∨ 510 ≤ (((21 : Int32) + p1)).toNatClampNeg)
      · exact noneE ((if_pos b_27).symm.trans hF)
      have hF := (if_neg b_27).symm.trans hF
      refine va_iald hx hb hK hP 1 0 rfl rfl b_27 dX4_heard_27 ?_
      refine lv_goto (tgt := 33) hx hb dX4_heard_28 (by decide) ?_
      have hF : some (v_w ((((21 : Int32) + p1)).toNatClampNeg)) = some r := hF
      cases hF
      subst hQ
      exact W.iret hx hb hr (fun t ht hW => ⟨_, rfl, rfl, ht⟩) (fun q hq => absurd hq List.not_mem_nil) dX4_heard_33
  · have hF := (if_neg c_1).symm.trans hF
    refine lv_iconst (v := (-1 : Int32)) hx hb dX4_heard_4 (by decide) ?_
    refine lv_goto (tgt := 33) hx hb dX4_heard_5 (by decide) ?_
    have hF : some (-1 : Int32) = some r := hF
    cases hF
    subst hQ
    exact W.iret hx hb hr (fun t ht hW => ⟨_, rfl, rfl, ht⟩) (fun q hq => absurd hq List.not_mem_nil) dX4_heard_33
def f_X4_trail (p1 : Int32) (p2 : Int32) (v_w : (Nat → Int32)) : Option Int32 :=
  if p1 < (0 : Int32) then
    some (-1 : Int32)
  else
    (f_X4_isIn p2 (0 : Int32) (1 : Int32)).bind fun q7 =>
    if q7 = (0 : Int32) then
      some (-1 : Int32)
    else
      if (v_w 25) ≤ p1 then
        some (-9 : Int32)
      else
        if (((26 : Int32) + ((2 : Int32) * p1)) + p2) < 0 ∨ 510 ≤ ((((26 : Int32) + ((2 : Int32) * p1)) + p2)).toNatClampNeg then none else
        some (v_w (((((26 : Int32) + ((2 : Int32) * p1)) + p2)).toNatClampNeg))
def rm_X4_trail : Room := { frames := 1, cells := 0, slots := 0, locals := 22 }
set_option maxHeartbeats 4000000 in
set_option maxRecDepth 100000 in
theorem c_X4_trail (l : Launch) (dC : Nat → ClassId) (dI : Nat → Nat → Nat) (cI cZ cO : ClassId) (aM a_w a_past a_images a_text a_rowOf a_readLetter a_readCue a_readPassage a_held : Nat) (p1 : Int32) (p2 : Int32) (v_w : (Nat → Int32)) (v_past : (Nat → Int32)) (v_pastMany : Int32) (v_images : (Nat → Int32)) (v_filled : Int32) (v_text : (Nat → Int32)) (v_length : Int32) (v_faultKind : Int32) (v_faultPlace : Int32) (v_rowOf : (Nat → Int32)) (v_rows : Int32) (v_wrongKind : Int32) (v_wrongPlace : Int32) (v_readWords : Int32) (v_readPassages : Int32) (v_readLetter : (Nat → Int32)) (v_readCue : (Nat → Int32)) (v_readPassage : (Nat → Int32)) (v_held : (Nat → Int32)) (r : Int32) (hF : f_X4_trail p1 p2 v_w = some r) : Met l yX4_trail wsX4_trail rm_X4_trail (va_Pc [.ref aM, .int p1, .int p2] (rdW dC dI cI cZ cO [(aM, .inr (4, [.ref a_w, .ref a_past, .int v_pastMany, .ref a_images, .int v_filled, .ref a_text, .int v_length, .int v_faultKind, .int v_faultPlace, .ref a_rowOf, .int v_rows, .int v_wrongKind, .int v_wrongPlace, .int v_readWords, .int v_readPassages, .ref a_readLetter, .ref a_readCue, .ref a_readPassage, .ref a_held])), (a_w, .inl (cI, 510, .inl v_w)), (a_past, .inl (cI, 4080, .inl v_past)), (a_images, .inl (cI, 1020, .inl v_images)), (a_text, .inl (cI, 140, .inl v_text)), (a_rowOf, .inl (cI, 120, .inl v_rowOf)), (a_readLetter, .inl (cI, 120, .inl v_readLetter)), (a_readCue, .inl (cI, 120, .inl v_readCue)), (a_readPassage, .inl (cI, 120, .inl v_readPassage)), (a_held, .inl (cI, 510, .inl v_held))])) (vp_Si (fun q => r = q)) 0 0 (fun _ => False) := by
  refine Met.ofW (cc := cX4_trail) (maxL := 3) (ret := (some .int)) (by decide) rfl ?_
  intro p e s m args below meth c s₁ B hml hv
  obtain ⟨rfl, hP, hK, hN⟩ := hv
  have hx := B.exec
  have hb := B.bytes
  have hr := B.returns
  have hts := atoms_spec (ws := wsX4_trail) B.pre
  have hown : s.vm.findClass RX4 = some m.cls := findClass_of_methodNamed B.named
  have hlocks := B.notSynchronized
  obtain ⟨Q, hQ⟩ : ∃ Q, Q = MQ below (vp_Si (fun q => r = q)) ([.ref aM, .int p1, .int p2] : List Value).toArray s 0 0 (fun _ => False) := ⟨_, rfl⟩
  rw [← hQ]
  have hS : va_S (fun _ => False) s.heap s.heap [] := va_S.rf
  have fl7 := hts (.fieldLink RX4 7 "TeleprompterModel" "w" "[I") (by decide +kernel)
  have inX4 : ∀ w ∈ u_ws RX4 TX4 19, w ∈ wsX4_trail := by decide +kernel
  have hl := lv_entry ([.ref aM, .int p1, .int p2]) (n := 3) (Nat.le_of_ble_eq_true rfl)
  rw [lg_entry_eq]
  generalize (lg_sl ([.ref aM, .int p1, .int p2]) ++ List.replicate (3 - (lg_sl ([.ref aM, .int p1, .int p2])).length) Slot.unset).toArray = ls at hl ⊢
  have hl : lv_has ls 3 [(0, .ref aM), (1, .int p1), (2, .int p2)] := hl
  unfold f_X4_trail at hF
  refine lv_iload_n hx hb dX4_trail_0 rfl (lv_at hl 1 rfl) ?_
  refine lv_if_lt (tgt := 13) hx hb dX4_trail_1 (by decide) (fun c_1 => ?_) (fun c_1 => ?_)
  · have hF := (if_pos c_1).symm.trans hF
    refine lv_iconst (v := (-1 : Int32)) hx hb dX4_trail_13 (by decide) ?_
    have hF : some (-1 : Int32) = some r := hF
    cases hF
    subst hQ
    exact W.iret hx hb hr (fun t ht hW => ⟨_, rfl, rfl, ht⟩) (fun q hq => absurd hq List.not_mem_nil) dX4_trail_14
  · have hF := (if_neg c_1).symm.trans hF
    refine lv_iload_n hx hb dX4_trail_4 rfl (lv_at hl 2 rfl) ?_
    refine lv_iconst (v := (0 : Int32)) hx hb dX4_trail_5 (by decide) ?_
    refine lv_iconst (v := (1 : Int32)) hx hb dX4_trail_6 (by decide) ?_
    obtain ⟨q_7, hq_7, hF⟩ := bindE hF
    have hPc := hP.sub (ws' := []) [] rfl
    refine vp_callSi (va_Run.run (va_runS (As := [.int p2, .int (0 : Int32), .int (1 : Int32)]) (rest := []) ⟨hx, hb, hml, hown, hts⟩ (c_X4_isIn l dC dI cI cZ cO p2 (0 : Int32) (1 : Int32) q_7 hq_7) (cwS 3 hts gX4_trail_X4_isIn rfl rfl rfl (by decide +kernel) ⟨Nat.le_of_ble_eq_true rfl, Nat.le_of_ble_eq_true rfl⟩) ⟨fb_rd, pre_rd hPc hK hN⟩ rfl rfl hl.1 rfl (lv_room (Nat.le_of_ble_eq_true rfl)) dX4_trail_7 ⟨Nat.zero_le _, Nat.zero_le _⟩)) (fun z_7 hz_7 => ?_)
    subst hz_7
    refine lv_if_ne (tgt := 15) hx hb dX4_trail_10 (by decide) (fun c_10 => ?_) (fun c_10 => ?_)
    · have hF := (if_neg c_10).symm.trans hF
      refine lv_iload_n hx hb dX4_trail_15 rfl (lv_at hl 1 rfl) ?_
      refine lv_aload_n hx hb dX4_trail_16 rfl (lv_at hl 0 rfl) ?_
      refine va_get (D := (dC, dI)) (ci := 4) (v := .ref a_w) (C := RX4) (T := TX4) (N := 19) hx hb hts inX4 hown hK hP 0 rfl rfl 0 (by decide) fl7 (fun _ h9 => h9) rfl dX4_trail_17 ?_
      refine lv_bipush (v := (25 : Int32)) hx hb dX4_trail_20 (by decide) ?_
      refine va_ialdK hx hb hK hP 1 0 rfl rfl (inK (by decide)) (j := 25) (by decide) dX4_trail_22 ?_
      refine lv_icmp_ge (tgt := 42) hx hb dX4_trail_23 (by decide) (fun c_23 => ?_) (fun c_23 => ?_)
      · have hF := (if_pos c_23).symm.trans hF
        refine lv_bipush (v := (-9 : Int32)) hx hb dX4_trail_42 (by decide) ?_
        have hF : some (-9 : Int32) = some r := hF
        cases hF
        subst hQ
        exact W.iret hx hb hr (fun t ht hW => ⟨_, rfl, rfl, ht⟩) (fun q hq => absurd hq List.not_mem_nil) dX4_trail_44
      · have hF := (if_neg c_23).symm.trans hF
        refine lv_aload_n hx hb dX4_trail_26 rfl (lv_at hl 0 rfl) ?_
        refine va_get (D := (dC, dI)) (ci := 4) (v := .ref a_w) (C := RX4) (T := TX4) (N := 19) hx hb hts inX4 hown hK hP 0 rfl rfl 0 (by decide) fl7 (fun _ h9 => h9) rfl dX4_trail_27 ?_
        refine lv_bipush (v := (26 : Int32)) hx hb dX4_trail_30 (by decide) ?_
        refine lv_iconst (v := (2 : Int32)) hx hb dX4_trail_32 (by decide) ?_
        refine lv_iload_n hx hb dX4_trail_33 rfl (lv_at hl 1 rfl) ?_
        refine lv_imul hx hb dX4_trail_34 ?_
        refine lv_iadd hx hb dX4_trail_35 ?_
        refine lv_iload_n hx hb dX4_trail_36 rfl (lv_at hl 2 rfl) ?_
        refine lv_iadd hx hb dX4_trail_37 ?_
        by_cases b_38 : ((((26 : Int32) + ((2 : Int32) * p1)) + p2) < 0 ∨ 510 ≤ ((((26 : Int32) + ((2 : Int32) * p1)) + p2)).toNatClampNeg)
        · exact noneE ((if_pos b_38).symm.trans hF)
        have hF := (if_neg b_38).symm.trans hF
        refine va_iald hx hb hK hP 1 0 rfl rfl b_38 dX4_trail_38 ?_
        refine lv_goto (tgt := 44) hx hb dX4_trail_39 (by decide) ?_
        have hF : some (v_w (((((26 : Int32) + ((2 : Int32) * p1)) + p2)).toNatClampNeg)) = some r := hF
        cases hF
        subst hQ
        exact W.iret hx hb hr (fun t ht hW => ⟨_, rfl, rfl, ht⟩) (fun q hq => absurd hq List.not_mem_nil) dX4_trail_44
    · have hF := (if_pos c_10).symm.trans hF
      refine lv_iconst (v := (-1 : Int32)) hx hb dX4_trail_13 (by decide) ?_
      have hF : some (-1 : Int32) = some r := hF
      cases hF
      subst hQ
      exact W.iret hx hb hr (fun t ht hW => ⟨_, rfl, rfl, ht⟩) (fun q hq => absurd hq List.not_mem_nil) dX4_trail_14
def f_X4_score (p1 : Int32) (v_w : (Nat → Int32)) : Option Int32 :=
  (f_X4_isWord p1 v_w).bind fun q2 =>
  if q2 = (0 : Int32) then
    some (-1 : Int32)
  else
    (f_X4_scoreOf p1 v_w).bind fun q10 =>
    some q10
def rm_X4_score : Room := { frames := 2, cells := 0, slots := 0, locals := 43 }
set_option maxHeartbeats 4000000 in
set_option maxRecDepth 100000 in
theorem c_X4_score (l : Launch) (dC : Nat → ClassId) (dI : Nat → Nat → Nat) (cI cZ cO : ClassId) (aM a_w a_past a_images a_text a_rowOf a_readLetter a_readCue a_readPassage a_held : Nat) (p1 : Int32) (v_w : (Nat → Int32)) (v_past : (Nat → Int32)) (v_pastMany : Int32) (v_images : (Nat → Int32)) (v_filled : Int32) (v_text : (Nat → Int32)) (v_length : Int32) (v_faultKind : Int32) (v_faultPlace : Int32) (v_rowOf : (Nat → Int32)) (v_rows : Int32) (v_wrongKind : Int32) (v_wrongPlace : Int32) (v_readWords : Int32) (v_readPassages : Int32) (v_readLetter : (Nat → Int32)) (v_readCue : (Nat → Int32)) (v_readPassage : (Nat → Int32)) (v_held : (Nat → Int32)) (r : Int32) (hF : f_X4_score p1 v_w = some r) : Met l yX4_score wsX4_score rm_X4_score (va_Pc [.ref aM, .int p1] (rdW dC dI cI cZ cO [(aM, .inr (4, [.ref a_w, .ref a_past, .int v_pastMany, .ref a_images, .int v_filled, .ref a_text, .int v_length, .int v_faultKind, .int v_faultPlace, .ref a_rowOf, .int v_rows, .int v_wrongKind, .int v_wrongPlace, .int v_readWords, .int v_readPassages, .ref a_readLetter, .ref a_readCue, .ref a_readPassage, .ref a_held])), (a_w, .inl (cI, 510, .inl v_w)), (a_past, .inl (cI, 4080, .inl v_past)), (a_images, .inl (cI, 1020, .inl v_images)), (a_text, .inl (cI, 140, .inl v_text)), (a_rowOf, .inl (cI, 120, .inl v_rowOf)), (a_readLetter, .inl (cI, 120, .inl v_readLetter)), (a_readCue, .inl (cI, 120, .inl v_readCue)), (a_readPassage, .inl (cI, 120, .inl v_readPassage)), (a_held, .inl (cI, 510, .inl v_held))])) (vp_Si (fun q => r = q)) 0 0 (fun _ => False) := by
  refine Met.ofW (cc := cX4_score) (maxL := 2) (ret := (some .int)) (by decide) rfl ?_
  intro p e s m args below meth c s₁ B hml hv
  obtain ⟨rfl, hP, hK, hN⟩ := hv
  have hx := B.exec
  have hb := B.bytes
  have hr := B.returns
  have hts := atoms_spec (ws := wsX4_score) B.pre
  have hown : s.vm.findClass RX4 = some m.cls := findClass_of_methodNamed B.named
  have hlocks := B.notSynchronized
  obtain ⟨Q, hQ⟩ : ∃ Q, Q = MQ below (vp_Si (fun q => r = q)) ([.ref aM, .int p1] : List Value).toArray s 0 0 (fun _ => False) := ⟨_, rfl⟩
  rw [← hQ]
  have hS : va_S (fun _ => False) s.heap s.heap [] := va_S.rf
  have hl := lv_entry ([.ref aM, .int p1]) (n := 2) (Nat.le_of_ble_eq_true rfl)
  rw [lg_entry_eq]
  generalize (lg_sl ([.ref aM, .int p1]) ++ List.replicate (2 - (lg_sl ([.ref aM, .int p1])).length) Slot.unset).toArray = ls at hl ⊢
  have hl : lv_has ls 2 [(0, .ref aM), (1, .int p1)] := hl
  unfold f_X4_score at hF
  refine lv_aload_n hx hb dX4_score_0 rfl (lv_at hl 0 rfl) ?_
  refine lv_iload_n hx hb dX4_score_1 rfl (lv_at hl 1 rfl) ?_
  obtain ⟨q_2, hq_2, hF⟩ := bindE hF
  have hPc := hP
  refine vp_callSi (va_Run.run (va_runV (As := [.int p1]) (rest := []) ⟨hx, hb, hml, hown, hts⟩ (c_X4_isWord l dC dI cI cZ cO aM a_w a_past a_images a_text a_rowOf a_readLetter a_readCue a_readPassage a_held p1 v_w v_past v_pastMany v_images v_filled v_text v_length v_faultKind v_faultPlace v_rowOf v_rows v_wrongKind v_wrongPlace v_readWords v_readPassages v_readLetter v_readCue v_readPassage v_held q_2 hq_2) (cwV 1 hts gX4_score_X4_isWord rfl rfl rfl (by decide +kernel) ⟨Nat.le_of_ble_eq_true rfl, Nat.le_of_ble_eq_true rfl⟩) ⟨fb_rd, va_recv hK hPc (ci := 4) (q0 := 0) rfl rfl, pre_rd hPc hK hN⟩ rfl rfl hl.1 rfl (lv_room (Nat.le_of_ble_eq_true rfl)) dX4_score_2 ⟨Nat.zero_le _, Nat.zero_le _⟩)) (fun z_2 hz_2 => ?_)
  subst hz_2
  refine lv_if_eq (tgt := 16) hx hb dX4_score_5 (by decide) (fun c_5 => ?_) (fun c_5 => ?_)
  · have hF := (if_pos c_5).symm.trans hF
    refine lv_iconst (v := (-1 : Int32)) hx hb dX4_score_16 (by decide) ?_
    have hF : some (-1 : Int32) = some r := hF
    cases hF
    subst hQ
    exact W.iret hx hb hr (fun t ht hW => ⟨_, rfl, rfl, ht⟩) (fun q hq => absurd hq List.not_mem_nil) dX4_score_17
  · have hF := (if_neg c_5).symm.trans hF
    refine lv_aload_n hx hb dX4_score_8 rfl (lv_at hl 0 rfl) ?_
    refine lv_iload_n hx hb dX4_score_9 rfl (lv_at hl 1 rfl) ?_
    obtain ⟨q_10, hq_10, hF⟩ := bindE hF
    have hPc := hP
    refine vp_callSi (va_Run.run (va_runV (As := [.int p1]) (rest := []) ⟨hx, hb, hml, hown, hts⟩ (c_X4_scoreOf l dC dI cI cZ cO aM a_w a_past a_images a_text a_rowOf a_readLetter a_readCue a_readPassage a_held p1 v_w v_past v_pastMany v_images v_filled v_text v_length v_faultKind v_faultPlace v_rowOf v_rows v_wrongKind v_wrongPlace v_readWords v_readPassages v_readLetter v_readCue v_readPassage v_held q_10 hq_10) (cwV 1 hts gX4_score_X4_scoreOf rfl rfl rfl (by decide +kernel) ⟨Nat.le_of_ble_eq_true rfl, Nat.le_of_ble_eq_true rfl⟩) ⟨fb_rd, va_recv hK hPc (ci := 4) (q0 := 0) rfl rfl, pre_rd hPc hK hN⟩ rfl rfl hl.1 rfl (lv_room (Nat.le_of_ble_eq_true rfl)) dX4_score_10 ⟨Nat.zero_le _, Nat.zero_le _⟩)) (fun z_10 hz_10 => ?_)
    subst hz_10
    refine lv_goto (tgt := 17) hx hb dX4_score_13 (by decide) ?_
    have hF : some q_10 = some r := hF
    cases hF
    subst hQ
    exact W.iret hx hb hr (fun t ht hW => ⟨_, rfl, rfl, ht⟩) (fun q hq => absurd hq List.not_mem_nil) dX4_score_17
def f_X4_best (p1 : Int32) (p2 : Int32) (v_w : (Nat → Int32)) : Option Int32 :=
  (f_X4_isLetter p1).bind fun q1 =>
  if q1 = (0 : Int32) then
    some (-1 : Int32)
  else
    (f_X4_isIn p2 (0 : Int32) (2 : Int32)).bind fun q10 =>
    if q10 = (0 : Int32) then
      some (-1 : Int32)
    else
      (f_X4_bestOf p1 v_w).bind fun q20 =>
      if q20 = (-9 : Int32) then
        some (-9 : Int32)
      else
        if p2 = (0 : Int32) then
          some q20
        else
          if p2 = (1 : Int32) then
            (f_X4_scoreOf q20 v_w).bind fun q48 =>
            some q48
          else
            (f_X4_isAccepted q20 v_w).bind fun q56 =>
            if q56 = (0 : Int32) then
              some (0 : Int32)
            else
              some (1 : Int32)
def rm_X4_best : Room := { frames := 2, cells := 0, slots := 0, locals := 46 }
set_option maxHeartbeats 4000000 in
set_option maxRecDepth 100000 in
theorem c_X4_best (l : Launch) (dC : Nat → ClassId) (dI : Nat → Nat → Nat) (cI cZ cO : ClassId) (aM a_w a_past a_images a_text a_rowOf a_readLetter a_readCue a_readPassage a_held : Nat) (p1 : Int32) (p2 : Int32) (v_w : (Nat → Int32)) (v_past : (Nat → Int32)) (v_pastMany : Int32) (v_images : (Nat → Int32)) (v_filled : Int32) (v_text : (Nat → Int32)) (v_length : Int32) (v_faultKind : Int32) (v_faultPlace : Int32) (v_rowOf : (Nat → Int32)) (v_rows : Int32) (v_wrongKind : Int32) (v_wrongPlace : Int32) (v_readWords : Int32) (v_readPassages : Int32) (v_readLetter : (Nat → Int32)) (v_readCue : (Nat → Int32)) (v_readPassage : (Nat → Int32)) (v_held : (Nat → Int32)) (r : Int32) (hF : f_X4_best p1 p2 v_w = some r) : Met l yX4_best wsX4_best rm_X4_best (va_Pc [.ref aM, .int p1, .int p2] (rdW dC dI cI cZ cO [(aM, .inr (4, [.ref a_w, .ref a_past, .int v_pastMany, .ref a_images, .int v_filled, .ref a_text, .int v_length, .int v_faultKind, .int v_faultPlace, .ref a_rowOf, .int v_rows, .int v_wrongKind, .int v_wrongPlace, .int v_readWords, .int v_readPassages, .ref a_readLetter, .ref a_readCue, .ref a_readPassage, .ref a_held])), (a_w, .inl (cI, 510, .inl v_w)), (a_past, .inl (cI, 4080, .inl v_past)), (a_images, .inl (cI, 1020, .inl v_images)), (a_text, .inl (cI, 140, .inl v_text)), (a_rowOf, .inl (cI, 120, .inl v_rowOf)), (a_readLetter, .inl (cI, 120, .inl v_readLetter)), (a_readCue, .inl (cI, 120, .inl v_readCue)), (a_readPassage, .inl (cI, 120, .inl v_readPassage)), (a_held, .inl (cI, 510, .inl v_held))])) (vp_Si (fun q => r = q)) 0 0 (fun _ => False) := by
  refine Met.ofW (cc := cX4_best) (maxL := 4) (ret := (some .int)) (by decide) rfl ?_
  intro p e s m args below meth c s₁ B hml hv
  obtain ⟨rfl, hP, hK, hN⟩ := hv
  have hx := B.exec
  have hb := B.bytes
  have hr := B.returns
  have hts := atoms_spec (ws := wsX4_best) B.pre
  have hown : s.vm.findClass RX4 = some m.cls := findClass_of_methodNamed B.named
  have hlocks := B.notSynchronized
  obtain ⟨Q, hQ⟩ : ∃ Q, Q = MQ below (vp_Si (fun q => r = q)) ([.ref aM, .int p1, .int p2] : List Value).toArray s 0 0 (fun _ => False) := ⟨_, rfl⟩
  rw [← hQ]
  have hS : va_S (fun _ => False) s.heap s.heap [] := va_S.rf
  have hl := lv_entry ([.ref aM, .int p1, .int p2]) (n := 4) (Nat.le_of_ble_eq_true rfl)
  rw [lg_entry_eq]
  generalize (lg_sl ([.ref aM, .int p1, .int p2]) ++ List.replicate (4 - (lg_sl ([.ref aM, .int p1, .int p2])).length) Slot.unset).toArray = ls at hl ⊢
  have hl : lv_has ls 4 [(0, .ref aM), (1, .int p1), (2, .int p2)] := hl
  unfold f_X4_best at hF
  refine lv_iload_n hx hb dX4_best_0 rfl (lv_at hl 1 rfl) ?_
  obtain ⟨q_1, hq_1, hF⟩ := bindE hF
  have hPc := hP.sub (ws' := []) [] rfl
  refine vp_callSi (va_Run.run (va_runS (As := [.int p1]) (rest := []) ⟨hx, hb, hml, hown, hts⟩ (c_X4_isLetter l dC dI cI cZ cO p1 q_1 hq_1) (cwS 1 hts gX4_best_X4_isLetter rfl rfl rfl (by decide +kernel) ⟨Nat.le_of_ble_eq_true rfl, Nat.le_of_ble_eq_true rfl⟩) ⟨fb_rd, pre_rd hPc hK hN⟩ rfl rfl hl.1 rfl (lv_room (Nat.le_of_ble_eq_true rfl)) dX4_best_1 ⟨Nat.zero_le _, Nat.zero_le _⟩)) (fun z_1 hz_1 => ?_)
  subst hz_1
  refine lv_if_eq (tgt := 16) hx hb dX4_best_4 (by decide) (fun c_4 => ?_) (fun c_4 => ?_)
  · have hF := (if_pos c_4).symm.trans hF
    refine lv_iconst (v := (-1 : Int32)) hx hb dX4_best_16 (by decide) ?_
    have hF : some (-1 : Int32) = some r := hF
    cases hF
    subst hQ
    exact W.iret hx hb hr (fun t ht hW => ⟨_, rfl, rfl, ht⟩) (fun q hq => absurd hq List.not_mem_nil) dX4_best_17
  · have hF := (if_neg c_4).symm.trans hF
    refine lv_iload_n hx hb dX4_best_7 rfl (lv_at hl 2 rfl) ?_
    refine lv_iconst (v := (0 : Int32)) hx hb dX4_best_8 (by decide) ?_
    refine lv_iconst (v := (2 : Int32)) hx hb dX4_best_9 (by decide) ?_
    obtain ⟨q_10, hq_10, hF⟩ := bindE hF
    have hPc := hP.sub (ws' := []) [] rfl
    refine vp_callSi (va_Run.run (va_runS (As := [.int p2, .int (0 : Int32), .int (2 : Int32)]) (rest := []) ⟨hx, hb, hml, hown, hts⟩ (c_X4_isIn l dC dI cI cZ cO p2 (0 : Int32) (2 : Int32) q_10 hq_10) (cwS 3 hts gX4_best_X4_isIn rfl rfl rfl (by decide +kernel) ⟨Nat.le_of_ble_eq_true rfl, Nat.le_of_ble_eq_true rfl⟩) ⟨fb_rd, pre_rd hPc hK hN⟩ rfl rfl hl.1 rfl (lv_room (Nat.le_of_ble_eq_true rfl)) dX4_best_10 ⟨Nat.zero_le _, Nat.zero_le _⟩)) (fun z_10 hz_10 => ?_)
    subst hz_10
    refine lv_if_ne (tgt := 18) hx hb dX4_best_13 (by decide) (fun c_13 => ?_) (fun c_13 => ?_)
    · have hF := (if_neg c_13).symm.trans hF
      refine lv_aload_n hx hb dX4_best_18 rfl (lv_at hl 0 rfl) ?_
      refine lv_iload_n hx hb dX4_best_19 rfl (lv_at hl 1 rfl) ?_
      obtain ⟨q_20, hq_20, hF⟩ := bindE hF
      have hPc := hP
      refine vp_callSi (va_Run.run (va_runV (As := [.int p1]) (rest := []) ⟨hx, hb, hml, hown, hts⟩ (c_X4_bestOf l dC dI cI cZ cO aM a_w a_past a_images a_text a_rowOf a_readLetter a_readCue a_readPassage a_held p1 v_w v_past v_pastMany v_images v_filled v_text v_length v_faultKind v_faultPlace v_rowOf v_rows v_wrongKind v_wrongPlace v_readWords v_readPassages v_readLetter v_readCue v_readPassage v_held q_20 hq_20) (cwV 1 hts gX4_best_X4_bestOf rfl rfl rfl (by decide +kernel) ⟨Nat.le_of_ble_eq_true rfl, Nat.le_of_ble_eq_true rfl⟩) ⟨fb_rd, va_recv hK hPc (ci := 4) (q0 := 0) rfl rfl, pre_rd hPc hK hN⟩ rfl rfl hl.1 rfl (lv_room (Nat.le_of_ble_eq_true rfl)) dX4_best_20 ⟨Nat.zero_le _, Nat.zero_le _⟩)) (fun z_20 hz_20 => ?_)
      subst hz_20
      refine lv_istore_n (lv' := [(3, .int q_20), (0, .ref aM), (1, .int p1), (2, .int p2)]) hx hb dX4_best_23 rfl hl (by decide) rfl (fun ls hl => ?_)
      refine lv_iload_n hx hb dX4_best_24 rfl (lv_at hl 0 rfl) ?_
      refine lv_bipush (v := (-9 : Int32)) hx hb dX4_best_25 (by decide) ?_
      refine lv_icmp_ne (tgt := 33) hx hb dX4_best_27 (by decide) (fun c_27 => ?_) (fun c_27 => ?_)
      · have hF := (if_neg c_27).symm.trans hF
        refine lv_iload_n hx hb dX4_best_33 rfl (lv_at hl 3 rfl) ?_
        refine lv_if_ne (tgt := 41) hx hb dX4_best_34 (by decide) (fun c_34 => ?_) (fun c_34 => ?_)
        · have hF := (if_neg c_34).symm.trans hF
          refine lv_iload_n hx hb dX4_best_41 rfl (lv_at hl 3 rfl) ?_
          refine lv_iconst (v := (1 : Int32)) hx hb dX4_best_42 (by decide) ?_
          refine lv_icmp_ne (tgt := 54) hx hb dX4_best_43 (by decide) (fun c_43 => ?_) (fun c_43 => ?_)
          · have hF := (if_neg c_43).symm.trans hF
            refine lv_aload_n hx hb dX4_best_54 rfl (lv_at hl 1 rfl) ?_
            refine lv_iload_n hx hb dX4_best_55 rfl (lv_at hl 0 rfl) ?_
            obtain ⟨q_56, hq_56, hF⟩ := bindE hF
            have hPc := hP
            refine vp_callSi (va_Run.run (va_runV (As := [.int q_20]) (rest := []) ⟨hx, hb, hml, hown, hts⟩ (c_X4_isAccepted l dC dI cI cZ cO aM a_w a_past a_images a_text a_rowOf a_readLetter a_readCue a_readPassage a_held q_20 v_w v_past v_pastMany v_images v_filled v_text v_length v_faultKind v_faultPlace v_rowOf v_rows v_wrongKind v_wrongPlace v_readWords v_readPassages v_readLetter v_readCue v_readPassage v_held q_56 hq_56) (cwV 1 hts gX4_best_X4_isAccepted rfl rfl rfl (by decide +kernel) ⟨Nat.le_of_ble_eq_true rfl, Nat.le_of_ble_eq_true rfl⟩) ⟨fb_rd, va_recv hK hPc (ci := 4) (q0 := 0) rfl rfl, pre_rd hPc hK hN⟩ rfl rfl hl.1 rfl (lv_room (Nat.le_of_ble_eq_true rfl)) dX4_best_56 ⟨Nat.zero_le _, Nat.zero_le _⟩)) (fun z_56 hz_56 => ?_)
            subst hz_56
            refine lv_if_eq (tgt := 66) hx hb dX4_best_59 (by decide) (fun c_59 => ?_) (fun c_59 => ?_)
            · have hF := (if_pos c_59).symm.trans hF
              refine lv_iconst (v := (0 : Int32)) hx hb dX4_best_66 (by decide) ?_
              have hF : some (0 : Int32) = some r := hF
              cases hF
              subst hQ
              exact W.iret hx hb hr (fun t ht hW => ⟨_, rfl, rfl, ht⟩) (fun q hq => absurd hq List.not_mem_nil) dX4_best_67
            · have hF := (if_neg c_59).symm.trans hF
              refine lv_iconst (v := (1 : Int32)) hx hb dX4_best_62 (by decide) ?_
              refine lv_goto (tgt := 67) hx hb dX4_best_63 (by decide) ?_
              have hF : some (1 : Int32) = some r := hF
              cases hF
              subst hQ
              exact W.iret hx hb hr (fun t ht hW => ⟨_, rfl, rfl, ht⟩) (fun q hq => absurd hq List.not_mem_nil) dX4_best_67
          · have hF := (if_pos c_43).symm.trans hF
            refine lv_aload_n hx hb dX4_best_46 rfl (lv_at hl 1 rfl) ?_
            refine lv_iload_n hx hb dX4_best_47 rfl (lv_at hl 0 rfl) ?_
            obtain ⟨q_48, hq_48, hF⟩ := bindE hF
            have hPc := hP
            refine vp_callSi (va_Run.run (va_runV (As := [.int q_20]) (rest := []) ⟨hx, hb, hml, hown, hts⟩ (c_X4_scoreOf l dC dI cI cZ cO aM a_w a_past a_images a_text a_rowOf a_readLetter a_readCue a_readPassage a_held q_20 v_w v_past v_pastMany v_images v_filled v_text v_length v_faultKind v_faultPlace v_rowOf v_rows v_wrongKind v_wrongPlace v_readWords v_readPassages v_readLetter v_readCue v_readPassage v_held q_48 hq_48) (cwV 1 hts gX4_best_X4_scoreOf rfl rfl rfl (by decide +kernel) ⟨Nat.le_of_ble_eq_true rfl, Nat.le_of_ble_eq_true rfl⟩) ⟨fb_rd, va_recv hK hPc (ci := 4) (q0 := 0) rfl rfl, pre_rd hPc hK hN⟩ rfl rfl hl.1 rfl (lv_room (Nat.le_of_ble_eq_true rfl)) dX4_best_48 ⟨Nat.zero_le _, Nat.zero_le _⟩)) (fun z_48 hz_48 => ?_)
            subst hz_48
            refine lv_goto (tgt := 67) hx hb dX4_best_51 (by decide) ?_
            have hF : some q_48 = some r := hF
            cases hF
            subst hQ
            exact W.iret hx hb hr (fun t ht hW => ⟨_, rfl, rfl, ht⟩) (fun q hq => absurd hq List.not_mem_nil) dX4_best_67
        · have hF := (if_pos c_34).symm.trans hF
          refine lv_iload_n hx hb dX4_best_37 rfl (lv_at hl 0 rfl) ?_
          refine lv_goto (tgt := 67) hx hb dX4_best_38 (by decide) ?_
          have hF : some q_20 = some r := hF
          cases hF
          subst hQ
          exact W.iret hx hb hr (fun t ht hW => ⟨_, rfl, rfl, ht⟩) (fun q hq => absurd hq List.not_mem_nil) dX4_best_67
      · have hF := (if_pos c_27).symm.trans hF
        refine lv_bipush (v := (-9 : Int32)) hx hb dX4_best_30 (by decide) ?_
        have hF : some (-9 : Int32) = some r := hF
        cases hF
        subst hQ
        exact W.iret hx hb hr (fun t ht hW => ⟨_, rfl, rfl, ht⟩) (fun q hq => absurd hq List.not_mem_nil) dX4_best_32
    · have hF := (if_pos c_13).symm.trans hF
      refine lv_iconst (v := (-1 : Int32)) hx hb dX4_best_16 (by decide) ?_
      have hF : some (-1 : Int32) = some r := hF
      cases hF
      subst hQ
      exact W.iret hx hb hr (fun t ht hW => ⟨_, rfl, rfl, ht⟩) (fun q hq => absurd hq List.not_mem_nil) dX4_best_17
def f_X4_isElsewhere_83 (k4 : Int32 → Option Int32) (x3 : Int32) (x4 : Int32) : Option Int32 :=
  if x4 = (0 : Int32) then
      k4 (x3 + 1)
    else
      some (1 : Int32)
def f_X4_isElsewhere_30 (k4 : Int32 → Option Int32) (v_w : (Nat → Int32)) (x1 : Int32) (x2 : Int32) (x3 : Int32) : Nat → Int32 → Int32 → Option Int32
  | 0, _, _ => none
  | n + 1, x4, x5 =>
    if x2 ≤ x5 then
      f_X4_isElsewhere_83 k4 x3 x4
    else
      if x4 = (0 : Int32) then
        f_X4_isElsewhere_83 k4 x3 x4
      else
        if (((150 : Int32) + x3) - x5) < 0 ∨ 510 ≤ ((((150 : Int32) + x3) - x5)).toNatClampNeg then none else
        if (((150 : Int32) + x1) - x5) < 0 ∨ 510 ≤ ((((150 : Int32) + x1) - x5)).toNatClampNeg then none else
        if (v_w (((((150 : Int32) + x3) - x5)).toNatClampNeg)) = (v_w (((((150 : Int32) + x1) - x5)).toNatClampNeg)) then
          f_X4_isElsewhere_30 k4 v_w x1 x2 x3 n (1 : Int32) (x5 + 1)
        else
          f_X4_isElsewhere_30 k4 v_w x1 x2 x3 n (0 : Int32) (x5 + 1)
def f_X4_isElsewhere_4 (v_w : (Nat → Int32)) (x1 : Int32) (x2 : Int32) : Nat → Int32 → Option Int32
  | 0, _ => none
  | n + 1, x3 =>
    if (v_w 9) ≤ x3 then
      some (0 : Int32)
    else
      if x3 = x1 then
        f_X4_isElsewhere_30 (f_X4_isElsewhere_4 v_w x1 x2 n) v_w x1 x2 x3 gas (0 : Int32) (0 : Int32)
      else
        f_X4_isElsewhere_30 (f_X4_isElsewhere_4 v_w x1 x2 n) v_w x1 x2 x3 gas (1 : Int32) (0 : Int32)
def f_X4_isElsewhere (p1 : Int32) (p2 : Int32) (v_w : (Nat → Int32)) : Option Int32 :=
  f_X4_isElsewhere_4 v_w p1 p2 gas (p2 - (1 : Int32))
def rm_X4_isElsewhere : Room := { frames := 0, cells := 0, slots := 0, locals := 0 }
set_option maxHeartbeats 4000000 in
set_option maxRecDepth 100000 in
theorem c_X4_isElsewhere (l : Launch) (dC : Nat → ClassId) (dI : Nat → Nat → Nat) (cI cZ cO : ClassId) (aM a_w a_past a_images a_text a_rowOf a_readLetter a_readCue a_readPassage a_held : Nat) (p1 : Int32) (p2 : Int32) (v_w : (Nat → Int32)) (v_past : (Nat → Int32)) (v_pastMany : Int32) (v_images : (Nat → Int32)) (v_filled : Int32) (v_text : (Nat → Int32)) (v_length : Int32) (v_faultKind : Int32) (v_faultPlace : Int32) (v_rowOf : (Nat → Int32)) (v_rows : Int32) (v_wrongKind : Int32) (v_wrongPlace : Int32) (v_readWords : Int32) (v_readPassages : Int32) (v_readLetter : (Nat → Int32)) (v_readCue : (Nat → Int32)) (v_readPassage : (Nat → Int32)) (v_held : (Nat → Int32)) (r : Int32) (hF : f_X4_isElsewhere p1 p2 v_w = some r) : Met l yX4_isElsewhere wsX4_isElsewhere rm_X4_isElsewhere (va_Pc [.ref aM, .int p1, .int p2] (rdW dC dI cI cZ cO [(aM, .inr (4, [.ref a_w, .ref a_past, .int v_pastMany, .ref a_images, .int v_filled, .ref a_text, .int v_length, .int v_faultKind, .int v_faultPlace, .ref a_rowOf, .int v_rows, .int v_wrongKind, .int v_wrongPlace, .int v_readWords, .int v_readPassages, .ref a_readLetter, .ref a_readCue, .ref a_readPassage, .ref a_held])), (a_w, .inl (cI, 510, .inl v_w)), (a_past, .inl (cI, 4080, .inl v_past)), (a_images, .inl (cI, 1020, .inl v_images)), (a_text, .inl (cI, 140, .inl v_text)), (a_rowOf, .inl (cI, 120, .inl v_rowOf)), (a_readLetter, .inl (cI, 120, .inl v_readLetter)), (a_readCue, .inl (cI, 120, .inl v_readCue)), (a_readPassage, .inl (cI, 120, .inl v_readPassage)), (a_held, .inl (cI, 510, .inl v_held))])) (vp_Si (fun q => r = q)) 0 0 (fun _ => False) := by
  refine Met.ofW (cc := cX4_isElsewhere) (maxL := 6) (ret := (some .boolean)) (by decide) rfl ?_
  intro p e s m args below meth c s₁ B hml hv
  obtain ⟨rfl, hP, hK, hN⟩ := hv
  have hx := B.exec
  have hb := B.bytes
  have hr := B.returns
  have hts := atoms_spec (ws := wsX4_isElsewhere) B.pre
  have hown : s.vm.findClass RX4 = some m.cls := findClass_of_methodNamed B.named
  have hlocks := B.notSynchronized
  obtain ⟨Q, hQ⟩ : ∃ Q, Q = MQ below (vp_Si (fun q => r = q)) ([.ref aM, .int p1, .int p2] : List Value).toArray s 0 0 (fun _ => False) := ⟨_, rfl⟩
  rw [← hQ]
  have hS : va_S (fun _ => False) s.heap s.heap [] := va_S.rf
  have fl7 := hts (.fieldLink RX4 7 "TeleprompterModel" "w" "[I") (by decide +kernel)
  have inX4 : ∀ w ∈ u_ws RX4 TX4 19, w ∈ wsX4_isElsewhere := by decide +kernel
  have hl := lv_entry ([.ref aM, .int p1, .int p2]) (n := 6) (Nat.le_of_ble_eq_true rfl)
  rw [lg_entry_eq]
  generalize (lg_sl ([.ref aM, .int p1, .int p2]) ++ List.replicate (6 - (lg_sl ([.ref aM, .int p1, .int p2])).length) Slot.unset).toArray = ls at hl ⊢
  have hl : lv_has ls 6 [(0, .ref aM), (1, .int p1), (2, .int p2)] := hl
  have B4 : ∀ (n_4 : Nat) (x1_4 : Int32) (x2_4 : Int32) (x3_4 : Int32), f_X4_isElsewhere_4 v_w x1_4 x2_4 n_4 x3_4 = some r → ∀ ls : Array Slot, lv_has ls 6 [(0, .ref aM), (1, .int x1_4), (2, .int x2_4), (3, .int x3_4)] → W p l e (headSpec wsX4_isElsewhere rm_X4_isElsewhere).room s m ([.ref aM, .int p1, .int p2] : List Value).toArray below meth c s.heap [] 0 0 Q (F0 m 4 ls []) := by
    intro n_4
    induction n_4 with
    | zero => intro x1_4 x2_4 x3_4 hF; exact noneE hF
    | succ n_4 ih4 =>
      intro x1_4 x2_4 x3_4 hF ls hl
      have B83 : ∀ (x3_83 : Int32) (x4_83 : Int32), f_X4_isElsewhere_83 (f_X4_isElsewhere_4 v_w x1_4 x2_4 n_4) x3_83 x4_83 = some r → ∀ ls : Array Slot, lv_has ls 6 [(0, .ref aM), (1, .int x1_4), (2, .int x2_4), (3, .int x3_83), (4, .int x4_83)] → W p l e (headSpec wsX4_isElsewhere rm_X4_isElsewhere).room s m ([.ref aM, .int p1, .int p2] : List Value).toArray below meth c s.heap [] 0 0 Q (F0 m 83 ls []) := by
        intro x3_83 x4_83 hF ls hl
        unfold f_X4_isElsewhere_83 at hF
        refine lv_iload hx hb dX4_isElsewhere_83 (lv_at hl 4 rfl) ?_
        refine lv_if_eq (tgt := 90) hx hb dX4_isElsewhere_85 (by decide) (fun c_85 => ?_) (fun c_85 => ?_)
        · have hF := (if_pos c_85).symm.trans hF
          refine lv_iinc (v := (x3_83 + 1)) (lv' := [(3, .int (x3_83 + 1)), (0, .ref aM), (1, .int x1_4), (2, .int x2_4), (4, .int x4_83)]) hx hb dX4_isElsewhere_90 hl (k := 3) rfl rfl (by decide) rfl (fun ls hl => ?_)
          refine lv_goto (tgt := 4) hx hb dX4_isElsewhere_93 (by decide) ?_
          exact ih4 x1_4 x2_4 (x3_83 + 1) hF _ (lv_sub hl [1, 2, 3, 0] rfl)
        · have hF := (if_neg c_85).symm.trans hF
          refine lv_iconst (v := (1 : Int32)) hx hb dX4_isElsewhere_88 (by decide) ?_
          have hF : some (1 : Int32) = some r := hF
          cases hF
          subst hQ
          exact W.zret (ty := .boolean) hx hb hr rfl (fun t ht hW => ⟨_, rfl, rfl, ht⟩) (fun q hq => absurd hq List.not_mem_nil) dX4_isElsewhere_89
      have B30 : ∀ (n_30 : Nat) (x3_30 : Int32) (x4_30 : Int32) (x5_30 : Int32), f_X4_isElsewhere_30 (f_X4_isElsewhere_4 v_w x1_4 x2_4 n_4) v_w x1_4 x2_4 x3_30 n_30 x4_30 x5_30 = some r → ∀ ls : Array Slot, lv_has ls 6 [(0, .ref aM), (1, .int x1_4), (2, .int x2_4), (3, .int x3_30), (4, .int x4_30), (5, .int x5_30)] → W p l e (headSpec wsX4_isElsewhere rm_X4_isElsewhere).room s m ([.ref aM, .int p1, .int p2] : List Value).toArray below meth c s.heap [] 0 0 Q (F0 m 30 ls []) := by
        intro n_30
        induction n_30 with
        | zero => intro x3_30 x4_30 x5_30 hF; exact noneE hF
        | succ n_30 ih30 =>
          intro x3_30 x4_30 x5_30 hF ls hl
          rw [f_X4_isElsewhere_30] at hF
          refine lv_iload hx hb dX4_isElsewhere_30 (lv_at hl 5 rfl) ?_
          refine lv_iload_n hx hb dX4_isElsewhere_32 rfl (lv_at hl 2 rfl) ?_
          refine lv_icmp_ge (tgt := 83) hx hb dX4_isElsewhere_33 (by decide) (fun c_33 => ?_) (fun c_33 => ?_)
          · have hF := (if_pos c_33).symm.trans hF
            exact B83 x3_30 x4_30 hF _ (lv_sub hl [0, 1, 2, 3, 4] rfl)
          · have hF := (if_neg c_33).symm.trans hF
            refine lv_iload hx hb dX4_isElsewhere_36 (lv_at hl 4 rfl) ?_
            refine lv_if_eq (tgt := 83) hx hb dX4_isElsewhere_38 (by decide) (fun c_38 => ?_) (fun c_38 => ?_)
            · have hF := (if_pos c_38).symm.trans hF
              exact B83 x3_30 x4_30 hF _ (lv_sub hl [0, 1, 2, 3, 4] rfl)
            · have hF := (if_neg c_38).symm.trans hF
              refine lv_aload_n hx hb dX4_isElsewhere_41 rfl (lv_at hl 0 rfl) ?_
              refine va_get (D := (dC, dI)) (ci := 4) (v := .ref a_w) (C := RX4) (T := TX4) (N := 19) hx hb hts inX4 hown hK hP 0 rfl rfl 0 (by decide) fl7 (fun _ h9 => h9) rfl dX4_isElsewhere_42 ?_
              refine lv_sipush (v := (150 : Int32)) hx hb dX4_isElsewhere_45 (by decide) ?_
              refine lv_iload_n hx hb dX4_isElsewhere_48 rfl (lv_at hl 3 rfl) ?_
              refine lv_iadd hx hb dX4_isElsewhere_49 ?_
              refine lv_iload hx hb dX4_isElsewhere_50 (lv_at hl 5 rfl) ?_
              refine lv_isub hx hb dX4_isElsewhere_52 ?_
              by_cases b_53 : ((((150 : Int32) + x3_30) - x5_30) < 0 ∨ 510 ≤ ((((150 : Int32) + x3_30) - x5_30)).toNatClampNeg)
              · exact noneE ((if_pos b_53).symm.trans hF)
              have hF := (if_neg b_53).symm.trans hF
              refine va_iald hx hb hK hP 1 0 rfl rfl b_53 dX4_isElsewhere_53 ?_
              refine lv_aload_n hx hb dX4_isElsewhere_54 rfl (lv_at hl 0 rfl) ?_
              refine va_get (D := (dC, dI)) (ci := 4) (v := .ref a_w) (C := RX4) (T := TX4) (N := 19) hx hb hts inX4 hown hK hP 0 rfl rfl 0 (by decide) fl7 (fun _ h9 => h9) rfl dX4_isElsewhere_55 ?_
              refine lv_sipush (v := (150 : Int32)) hx hb dX4_isElsewhere_58 (by decide) ?_
              refine lv_iload_n hx hb dX4_isElsewhere_61 rfl (lv_at hl 1 rfl) ?_
              refine lv_iadd hx hb dX4_isElsewhere_62 ?_
              refine lv_iload hx hb dX4_isElsewhere_63 (lv_at hl 5 rfl) ?_
              refine lv_isub hx hb dX4_isElsewhere_65 ?_
              by_cases b_66 : ((((150 : Int32) + x1_4) - x5_30) < 0 ∨ 510 ≤ ((((150 : Int32) + x1_4) - x5_30)).toNatClampNeg)
              · exact noneE ((if_pos b_66).symm.trans hF)
              have hF := (if_neg b_66).symm.trans hF
              refine va_iald hx hb hK hP 1 0 rfl rfl b_66 dX4_isElsewhere_66 ?_
              refine lv_icmp_ne (tgt := 74) hx hb dX4_isElsewhere_67 (by decide) (fun c_67 => ?_) (fun c_67 => ?_)
              · have hF := (if_neg c_67).symm.trans hF
                refine lv_iconst (v := (0 : Int32)) hx hb dX4_isElsewhere_74 (by decide) ?_
                refine lv_istore (lv' := [(4, .int (0 : Int32)), (0, .ref aM), (1, .int x1_4), (2, .int x2_4), (3, .int x3_30), (5, .int x5_30)]) hx hb dX4_isElsewhere_75 hl (by decide) rfl (fun ls hl => ?_)
                refine lv_iinc (v := (x5_30 + 1)) (lv' := [(5, .int (x5_30 + 1)), (4, .int (0 : Int32)), (0, .ref aM), (1, .int x1_4), (2, .int x2_4), (3, .int x3_30)]) hx hb dX4_isElsewhere_77 hl (k := 5) rfl rfl (by decide) rfl (fun ls hl => ?_)
                refine lv_goto (tgt := 30) hx hb dX4_isElsewhere_80 (by decide) ?_
                exact ih30 x3_30 (0 : Int32) (x5_30 + 1) hF _ (lv_sub hl [2, 3, 4, 5, 1, 0] rfl)
              · have hF := (if_pos c_67).symm.trans hF
                refine lv_iconst (v := (1 : Int32)) hx hb dX4_isElsewhere_70 (by decide) ?_
                refine lv_goto (tgt := 75) hx hb dX4_isElsewhere_71 (by decide) ?_
                refine lv_istore (lv' := [(4, .int (1 : Int32)), (0, .ref aM), (1, .int x1_4), (2, .int x2_4), (3, .int x3_30), (5, .int x5_30)]) hx hb dX4_isElsewhere_75 hl (by decide) rfl (fun ls hl => ?_)
                refine lv_iinc (v := (x5_30 + 1)) (lv' := [(5, .int (x5_30 + 1)), (4, .int (1 : Int32)), (0, .ref aM), (1, .int x1_4), (2, .int x2_4), (3, .int x3_30)]) hx hb dX4_isElsewhere_77 hl (k := 5) rfl rfl (by decide) rfl (fun ls hl => ?_)
                refine lv_goto (tgt := 30) hx hb dX4_isElsewhere_80 (by decide) ?_
                exact ih30 x3_30 (1 : Int32) (x5_30 + 1) hF _ (lv_sub hl [2, 3, 4, 5, 1, 0] rfl)
      rw [f_X4_isElsewhere_4] at hF
      refine lv_iload_n hx hb dX4_isElsewhere_4 rfl (lv_at hl 3 rfl) ?_
      refine lv_aload_n hx hb dX4_isElsewhere_5 rfl (lv_at hl 0 rfl) ?_
      refine va_get (D := (dC, dI)) (ci := 4) (v := .ref a_w) (C := RX4) (T := TX4) (N := 19) hx hb hts inX4 hown hK hP 0 rfl rfl 0 (by decide) fl7 (fun _ h9 => h9) rfl dX4_isElsewhere_6 ?_
      refine lv_bipush (v := (9 : Int32)) hx hb dX4_isElsewhere_9 (by decide) ?_
      refine va_ialdK hx hb hK hP 1 0 rfl rfl (inK (by decide)) (j := 9) (by decide) dX4_isElsewhere_11 ?_
      refine lv_icmp_ge (tgt := 96) hx hb dX4_isElsewhere_12 (by decide) (fun c_12 => ?_) (fun c_12 => ?_)
      · have hF := (if_pos c_12).symm.trans hF
        refine lv_iconst (v := (0 : Int32)) hx hb dX4_isElsewhere_96 (by decide) ?_
        have hF : some (0 : Int32) = some r := hF
        cases hF
        subst hQ
        exact W.zret (ty := .boolean) hx hb hr rfl (fun t ht hW => ⟨_, rfl, rfl, ht⟩) (fun q hq => absurd hq List.not_mem_nil) dX4_isElsewhere_97
      · have hF := (if_neg c_12).symm.trans hF
        refine lv_iload_n hx hb dX4_isElsewhere_15 rfl (lv_at hl 3 rfl) ?_
        refine lv_iload_n hx hb dX4_isElsewhere_16 rfl (lv_at hl 1 rfl) ?_
        refine lv_icmp_eq (tgt := 24) hx hb dX4_isElsewhere_17 (by decide) (fun c_17 => ?_) (fun c_17 => ?_)
        · have hF := (if_pos c_17).symm.trans hF
          refine lv_iconst (v := (0 : Int32)) hx hb dX4_isElsewhere_24 (by decide) ?_
          refine lv_istore (lv' := [(4, .int (0 : Int32)), (0, .ref aM), (1, .int x1_4), (2, .int x2_4), (3, .int x3_4)]) hx hb dX4_isElsewhere_25 hl (by decide) rfl (fun ls hl => ?_)
          refine lv_iconst (v := (0 : Int32)) hx hb dX4_isElsewhere_27 (by decide) ?_
          refine lv_istore (lv' := [(5, .int (0 : Int32)), (4, .int (0 : Int32)), (0, .ref aM), (1, .int x1_4), (2, .int x2_4), (3, .int x3_4)]) hx hb dX4_isElsewhere_28 hl (by decide) rfl (fun ls hl => ?_)
          exact B30 gas x3_4 (0 : Int32) (0 : Int32) hF _ (lv_sub hl [2, 3, 4, 5, 1, 0] rfl)
        · have hF := (if_neg c_17).symm.trans hF
          refine lv_iconst (v := (1 : Int32)) hx hb dX4_isElsewhere_20 (by decide) ?_
          refine lv_goto (tgt := 25) hx hb dX4_isElsewhere_21 (by decide) ?_
          refine lv_istore (lv' := [(4, .int (1 : Int32)), (0, .ref aM), (1, .int x1_4), (2, .int x2_4), (3, .int x3_4)]) hx hb dX4_isElsewhere_25 hl (by decide) rfl (fun ls hl => ?_)
          refine lv_iconst (v := (0 : Int32)) hx hb dX4_isElsewhere_27 (by decide) ?_
          refine lv_istore (lv' := [(5, .int (0 : Int32)), (4, .int (1 : Int32)), (0, .ref aM), (1, .int x1_4), (2, .int x2_4), (3, .int x3_4)]) hx hb dX4_isElsewhere_28 hl (by decide) rfl (fun ls hl => ?_)
          exact B30 gas x3_4 (1 : Int32) (0 : Int32) hF _ (lv_sub hl [2, 3, 4, 5, 1, 0] rfl)
  unfold f_X4_isElsewhere at hF
  refine lv_iload_n hx hb dX4_isElsewhere_0 rfl (lv_at hl 2 rfl) ?_
  refine lv_iconst (v := (1 : Int32)) hx hb dX4_isElsewhere_1 (by decide) ?_
  refine lv_isub hx hb dX4_isElsewhere_2 ?_
  refine lv_istore_n (lv' := [(3, .int (p2 - (1 : Int32))), (0, .ref aM), (1, .int p1), (2, .int p2)]) hx hb dX4_isElsewhere_3 rfl hl (by decide) rfl (fun ls hl => ?_)
  exact B4 gas p1 p2 (p2 - (1 : Int32)) hF _ (lv_sub hl [1, 2, 3, 0] rfl)
def f_X4_unique_12 (v_w : (Nat → Int32)) (x1 : Int32) : Nat → Int32 → Option Int32
  | 0, _ => none
  | n + 1, x2 =>
    if (4 : Int32) < x2 then
      some (-9 : Int32)
    else
      if (x1 + (1 : Int32)) < x2 then
        some (-9 : Int32)
      else
        (f_X4_isElsewhere x1 x2 v_w).bind fun q27 =>
        if q27 = (0 : Int32) then
          some x2
        else
          f_X4_unique_12 v_w x1 n (x2 + 1)
def f_X4_unique (p1 : Int32) (v_w : (Nat → Int32)) : Option Int32 :=
  (f_X4_isWord p1 v_w).bind fun q2 =>
  if q2 = (0 : Int32) then
    some (-1 : Int32)
  else
    f_X4_unique_12 v_w p1 gas (1 : Int32)
def rm_X4_unique : Room := { frames := 2, cells := 0, slots := 0, locals := 43 }
set_option maxHeartbeats 4000000 in
set_option maxRecDepth 100000 in
theorem c_X4_unique (l : Launch) (dC : Nat → ClassId) (dI : Nat → Nat → Nat) (cI cZ cO : ClassId) (aM a_w a_past a_images a_text a_rowOf a_readLetter a_readCue a_readPassage a_held : Nat) (p1 : Int32) (v_w : (Nat → Int32)) (v_past : (Nat → Int32)) (v_pastMany : Int32) (v_images : (Nat → Int32)) (v_filled : Int32) (v_text : (Nat → Int32)) (v_length : Int32) (v_faultKind : Int32) (v_faultPlace : Int32) (v_rowOf : (Nat → Int32)) (v_rows : Int32) (v_wrongKind : Int32) (v_wrongPlace : Int32) (v_readWords : Int32) (v_readPassages : Int32) (v_readLetter : (Nat → Int32)) (v_readCue : (Nat → Int32)) (v_readPassage : (Nat → Int32)) (v_held : (Nat → Int32)) (r : Int32) (hF : f_X4_unique p1 v_w = some r) : Met l yX4_unique wsX4_unique rm_X4_unique (va_Pc [.ref aM, .int p1] (rdW dC dI cI cZ cO [(aM, .inr (4, [.ref a_w, .ref a_past, .int v_pastMany, .ref a_images, .int v_filled, .ref a_text, .int v_length, .int v_faultKind, .int v_faultPlace, .ref a_rowOf, .int v_rows, .int v_wrongKind, .int v_wrongPlace, .int v_readWords, .int v_readPassages, .ref a_readLetter, .ref a_readCue, .ref a_readPassage, .ref a_held])), (a_w, .inl (cI, 510, .inl v_w)), (a_past, .inl (cI, 4080, .inl v_past)), (a_images, .inl (cI, 1020, .inl v_images)), (a_text, .inl (cI, 140, .inl v_text)), (a_rowOf, .inl (cI, 120, .inl v_rowOf)), (a_readLetter, .inl (cI, 120, .inl v_readLetter)), (a_readCue, .inl (cI, 120, .inl v_readCue)), (a_readPassage, .inl (cI, 120, .inl v_readPassage)), (a_held, .inl (cI, 510, .inl v_held))])) (vp_Si (fun q => r = q)) 0 0 (fun _ => False) := by
  refine Met.ofW (cc := cX4_unique) (maxL := 3) (ret := (some .int)) (by decide) rfl ?_
  intro p e s m args below meth c s₁ B hml hv
  obtain ⟨rfl, hP, hK, hN⟩ := hv
  have hx := B.exec
  have hb := B.bytes
  have hr := B.returns
  have hts := atoms_spec (ws := wsX4_unique) B.pre
  have hown : s.vm.findClass RX4 = some m.cls := findClass_of_methodNamed B.named
  have hlocks := B.notSynchronized
  obtain ⟨Q, hQ⟩ : ∃ Q, Q = MQ below (vp_Si (fun q => r = q)) ([.ref aM, .int p1] : List Value).toArray s 0 0 (fun _ => False) := ⟨_, rfl⟩
  rw [← hQ]
  have hS : va_S (fun _ => False) s.heap s.heap [] := va_S.rf
  have hl := lv_entry ([.ref aM, .int p1]) (n := 3) (Nat.le_of_ble_eq_true rfl)
  rw [lg_entry_eq]
  generalize (lg_sl ([.ref aM, .int p1]) ++ List.replicate (3 - (lg_sl ([.ref aM, .int p1])).length) Slot.unset).toArray = ls at hl ⊢
  have hl : lv_has ls 3 [(0, .ref aM), (1, .int p1)] := hl
  have B12 : ∀ (n_12 : Nat) (x1_12 : Int32) (x2_12 : Int32), f_X4_unique_12 v_w x1_12 n_12 x2_12 = some r → ∀ ls : Array Slot, lv_has ls 3 [(0, .ref aM), (1, .int x1_12), (2, .int x2_12)] → W p l e (headSpec wsX4_unique rm_X4_unique).room s m ([.ref aM, .int p1] : List Value).toArray below meth c s.heap [] 0 0 Q (F0 m 12 ls []) := by
    intro n_12
    induction n_12 with
    | zero => intro x1_12 x2_12 hF; exact noneE hF
    | succ n_12 ih12 =>
      intro x1_12 x2_12 hF ls hl
      rw [f_X4_unique_12] at hF
      refine lv_iload_n hx hb dX4_unique_12 rfl (lv_at hl 2 rfl) ?_
      refine lv_iconst (v := (4 : Int32)) hx hb dX4_unique_13 (by decide) ?_
      refine lv_icmp_gt (tgt := 41) hx hb dX4_unique_14 (by decide) (fun c_14 => ?_) (fun c_14 => ?_)
      · have hF := (if_pos c_14).symm.trans hF
        refine lv_bipush (v := (-9 : Int32)) hx hb dX4_unique_41 (by decide) ?_
        have hF : some (-9 : Int32) = some r := hF
        cases hF
        subst hQ
        exact W.iret hx hb hr (fun t ht hW => ⟨_, rfl, rfl, ht⟩) (fun q hq => absurd hq List.not_mem_nil) dX4_unique_43
      · have hF := (if_neg c_14).symm.trans hF
        refine lv_iload_n hx hb dX4_unique_17 rfl (lv_at hl 2 rfl) ?_
        refine lv_iload_n hx hb dX4_unique_18 rfl (lv_at hl 1 rfl) ?_
        refine lv_iconst (v := (1 : Int32)) hx hb dX4_unique_19 (by decide) ?_
        refine lv_iadd hx hb dX4_unique_20 ?_
        refine lv_icmp_gt (tgt := 41) hx hb dX4_unique_21 (by decide) (fun c_21 => ?_) (fun c_21 => ?_)
        · have hF := (if_pos c_21).symm.trans hF
          refine lv_bipush (v := (-9 : Int32)) hx hb dX4_unique_41 (by decide) ?_
          have hF : some (-9 : Int32) = some r := hF
          cases hF
          subst hQ
          exact W.iret hx hb hr (fun t ht hW => ⟨_, rfl, rfl, ht⟩) (fun q hq => absurd hq List.not_mem_nil) dX4_unique_43
        · have hF := (if_neg c_21).symm.trans hF
          refine lv_aload_n hx hb dX4_unique_24 rfl (lv_at hl 0 rfl) ?_
          refine lv_iload_n hx hb dX4_unique_25 rfl (lv_at hl 1 rfl) ?_
          refine lv_iload_n hx hb dX4_unique_26 rfl (lv_at hl 2 rfl) ?_
          obtain ⟨q_27, hq_27, hF⟩ := bindE hF
          have hPc := hP
          refine vp_callSi (va_Run.run (va_runV (As := [.int x1_12, .int x2_12]) (rest := []) ⟨hx, hb, hml, hown, hts⟩ (c_X4_isElsewhere l dC dI cI cZ cO aM a_w a_past a_images a_text a_rowOf a_readLetter a_readCue a_readPassage a_held x1_12 x2_12 v_w v_past v_pastMany v_images v_filled v_text v_length v_faultKind v_faultPlace v_rowOf v_rows v_wrongKind v_wrongPlace v_readWords v_readPassages v_readLetter v_readCue v_readPassage v_held q_27 hq_27) (cwV 2 hts gX4_unique_X4_isElsewhere rfl rfl rfl (by decide +kernel) ⟨Nat.le_of_ble_eq_true rfl, Nat.le_of_ble_eq_true rfl⟩) ⟨fb_rd, va_recv hK hPc (ci := 4) (q0 := 0) rfl rfl, pre_rd hPc hK hN⟩ rfl rfl hl.1 rfl (lv_room (Nat.le_of_ble_eq_true rfl)) dX4_unique_27 ⟨Nat.zero_le _, Nat.zero_le _⟩)) (fun z_27 hz_27 => ?_)
          subst hz_27
          refine lv_if_ne (tgt := 35) hx hb dX4_unique_30 (by decide) (fun c_30 => ?_) (fun c_30 => ?_)
          · have hF := (if_neg c_30).symm.trans hF
            refine lv_iinc (v := (x2_12 + 1)) (lv' := [(2, .int (x2_12 + 1)), (0, .ref aM), (1, .int x1_12)]) hx hb dX4_unique_35 hl (k := 2) rfl rfl (by decide) rfl (fun ls hl => ?_)
            refine lv_goto (tgt := 12) hx hb dX4_unique_38 (by decide) ?_
            exact ih12 x1_12 (x2_12 + 1) hF _ (lv_sub hl [1, 2, 0] rfl)
          · have hF := (if_pos c_30).symm.trans hF
            refine lv_iload_n hx hb dX4_unique_33 rfl (lv_at hl 2 rfl) ?_
            have hF : some x2_12 = some r := hF
            cases hF
            subst hQ
            exact W.iret hx hb hr (fun t ht hW => ⟨_, rfl, rfl, ht⟩) (fun q hq => absurd hq List.not_mem_nil) dX4_unique_34
  unfold f_X4_unique at hF
  refine lv_aload_n hx hb dX4_unique_0 rfl (lv_at hl 0 rfl) ?_
  refine lv_iload_n hx hb dX4_unique_1 rfl (lv_at hl 1 rfl) ?_
  obtain ⟨q_2, hq_2, hF⟩ := bindE hF
  have hPc := hP
  refine vp_callSi (va_Run.run (va_runV (As := [.int p1]) (rest := []) ⟨hx, hb, hml, hown, hts⟩ (c_X4_isWord l dC dI cI cZ cO aM a_w a_past a_images a_text a_rowOf a_readLetter a_readCue a_readPassage a_held p1 v_w v_past v_pastMany v_images v_filled v_text v_length v_faultKind v_faultPlace v_rowOf v_rows v_wrongKind v_wrongPlace v_readWords v_readPassages v_readLetter v_readCue v_readPassage v_held q_2 hq_2) (cwV 1 hts gX4_unique_X4_isWord rfl rfl rfl (by decide +kernel) ⟨Nat.le_of_ble_eq_true rfl, Nat.le_of_ble_eq_true rfl⟩) ⟨fb_rd, va_recv hK hPc (ci := 4) (q0 := 0) rfl rfl, pre_rd hPc hK hN⟩ rfl rfl hl.1 rfl (lv_room (Nat.le_of_ble_eq_true rfl)) dX4_unique_2 ⟨Nat.zero_le _, Nat.zero_le _⟩)) (fun z_2 hz_2 => ?_)
  subst hz_2
  refine lv_if_ne (tgt := 10) hx hb dX4_unique_5 (by decide) (fun c_5 => ?_) (fun c_5 => ?_)
  · have hF := (if_neg c_5).symm.trans hF
    refine lv_iconst (v := (1 : Int32)) hx hb dX4_unique_10 (by decide) ?_
    refine lv_istore_n (lv' := [(2, .int (1 : Int32)), (0, .ref aM), (1, .int p1)]) hx hb dX4_unique_11 rfl hl (by decide) rfl (fun ls hl => ?_)
    exact B12 gas p1 (1 : Int32) hF _ (lv_sub hl [1, 2, 0] rfl)
  · have hF := (if_pos c_5).symm.trans hF
    refine lv_iconst (v := (-1 : Int32)) hx hb dX4_unique_8 (by decide) ?_
    have hF : some (-1 : Int32) = some r := hF
    cases hF
    subst hQ
    exact W.iret hx hb hr (fun t ht hW => ⟨_, rfl, rfl, ht⟩) (fun q hq => absurd hq List.not_mem_nil) dX4_unique_9
def f_X4_mean (v_w : (Nat → Int32)) (v_rows : Int32) : Option UInt32 :=
  if ¬ ((FP.fdiv (FP.i2f (v_w 9)) (FP.i2f v_rows)) &&& 0x7fffffff ≤ 0x7f800000) then none else
  some (FP.fdiv (FP.i2f (v_w 9)) (FP.i2f v_rows))
def rm_X4_mean : Room := { frames := 0, cells := 0, slots := 0, locals := 0 }
set_option maxHeartbeats 4000000 in
set_option maxRecDepth 100000 in
theorem c_X4_mean (l : Launch) (dC : Nat → ClassId) (dI : Nat → Nat → Nat) (cI cZ cO : ClassId) (aM a_w a_past a_images a_text a_rowOf a_readLetter a_readCue a_readPassage a_held : Nat) (v_w : (Nat → Int32)) (v_past : (Nat → Int32)) (v_pastMany : Int32) (v_images : (Nat → Int32)) (v_filled : Int32) (v_text : (Nat → Int32)) (v_length : Int32) (v_faultKind : Int32) (v_faultPlace : Int32) (v_rowOf : (Nat → Int32)) (v_rows : Int32) (v_wrongKind : Int32) (v_wrongPlace : Int32) (v_readWords : Int32) (v_readPassages : Int32) (v_readLetter : (Nat → Int32)) (v_readCue : (Nat → Int32)) (v_readPassage : (Nat → Int32)) (v_held : (Nat → Int32)) (r : UInt32) (hF : f_X4_mean v_w v_rows = some r) : Met l yX4_mean wsX4_mean rm_X4_mean (va_Pc [.ref aM] (rdW dC dI cI cZ cO [(aM, .inr (4, [.ref a_w, .ref a_past, .int v_pastMany, .ref a_images, .int v_filled, .ref a_text, .int v_length, .int v_faultKind, .int v_faultPlace, .ref a_rowOf, .int v_rows, .int v_wrongKind, .int v_wrongPlace, .int v_readWords, .int v_readPassages, .ref a_readLetter, .ref a_readCue, .ref a_readPassage, .ref a_held])), (a_w, .inl (cI, 510, .inl v_w)), (a_past, .inl (cI, 4080, .inl v_past)), (a_images, .inl (cI, 1020, .inl v_images)), (a_text, .inl (cI, 140, .inl v_text)), (a_rowOf, .inl (cI, 120, .inl v_rowOf)), (a_readLetter, .inl (cI, 120, .inl v_readLetter)), (a_readCue, .inl (cI, 120, .inl v_readCue)), (a_readPassage, .inl (cI, 120, .inl v_readPassage)), (a_held, .inl (cI, 510, .inl v_held))])) (vp_Sf (fun q => r = q)) 0 0 (fun _ => False) := by
  refine Met.ofW (cc := cX4_mean) (maxL := 1) (ret := (some .float)) (by decide) rfl ?_
  intro p e s m args below meth c s₁ B hml hv
  obtain ⟨rfl, hP, hK, hN⟩ := hv
  have hx := B.exec
  have hb := B.bytes
  have hr := B.returns
  have hts := atoms_spec (ws := wsX4_mean) B.pre
  have hown : s.vm.findClass RX4 = some m.cls := findClass_of_methodNamed B.named
  have hlocks := B.notSynchronized
  obtain ⟨Q, hQ⟩ : ∃ Q, Q = MQ below (vp_Sf (fun q => r = q)) ([.ref aM] : List Value).toArray s 0 0 (fun _ => False) := ⟨_, rfl⟩
  rw [← hQ]
  have hS : va_S (fun _ => False) s.heap s.heap [] := va_S.rf
  have fl7 := hts (.fieldLink RX4 7 "TeleprompterModel" "w" "[I") (by decide +kernel)
  have fl50 := hts (.fieldLink RX4 50 "TeleprompterModel" "rows" "I") (by decide +kernel)
  have inX4 : ∀ w ∈ u_ws RX4 TX4 19, w ∈ wsX4_mean := by decide +kernel
  have hl := lv_entry ([.ref aM]) (n := 1) (Nat.le_of_ble_eq_true rfl)
  rw [lg_entry_eq]
  generalize (lg_sl ([.ref aM]) ++ List.replicate (1 - (lg_sl ([.ref aM])).length) Slot.unset).toArray = ls at hl ⊢
  have hl : lv_has ls 1 [(0, .ref aM)] := hl
  unfold f_X4_mean at hF
  refine lv_aload_n hx hb dX4_mean_0 rfl (lv_at hl 0 rfl) ?_
  refine va_get (D := (dC, dI)) (ci := 4) (v := .ref a_w) (C := RX4) (T := TX4) (N := 19) hx hb hts inX4 hown hK hP 0 rfl rfl 0 (by decide) fl7 (fun _ h9 => h9) rfl dX4_mean_1 ?_
  refine lv_bipush (v := (9 : Int32)) hx hb dX4_mean_4 (by decide) ?_
  refine va_ialdK hx hb hK hP 1 0 rfl rfl (inK (by decide)) (j := 9) (by decide) dX4_mean_6 ?_
  refine lv_i2f hx hb dX4_mean_7 ?_
  refine lv_aload_n hx hb dX4_mean_8 rfl (lv_at hl 0 rfl) ?_
  refine va_get (D := (dC, dI)) (ci := 4) (v := .int v_rows) (C := RX4) (T := TX4) (N := 19) hx hb hts inX4 hown hK hP 0 rfl rfl 10 (by decide) fl50 (fun _ h9 => h9) rfl dX4_mean_9 ?_
  refine lv_i2f hx hb dX4_mean_12 ?_
  by_cases b_13 : ¬ ((FP.fdiv (FP.i2f (v_w 9)) (FP.i2f v_rows)) &&& 0x7fffffff ≤ 0x7f800000)
  · exact noneE ((if_pos b_13).symm.trans hF)
  have hF := (if_neg b_13).symm.trans hF
  have b_13 := Decidable.of_not_not b_13
  refine lv_fdiv hx hb dX4_mean_13 b_13 ?_
  have hF : some (FP.fdiv (FP.i2f (v_w 9)) (FP.i2f v_rows)) = some r := hF
  cases hF
  subst hQ
  exact W.fret hx hb hr (fun t ht hW => ⟨_, rfl, rfl, ht⟩) (fun q hq => absurd hq List.not_mem_nil) dX4_mean_14
def f_X4_isImage (p0 : Int32) : Option Int32 :=
  (f_X4_isIn p0 (0 : Int32) (1 : Int32)).bind fun q3 =>
  if q3 &&& 1 = q3 then some q3 else none
def rm_X4_isImage : Room := { frames := 1, cells := 0, slots := 0, locals := 22 }
set_option maxHeartbeats 4000000 in
set_option maxRecDepth 100000 in
theorem c_X4_isImage (l : Launch) (dC : Nat → ClassId) (dI : Nat → Nat → Nat) (cI cZ cO : ClassId) (p0 : Int32) (r : Int32) (hF : f_X4_isImage p0 = some r) : Met l yX4_isImage wsX4_isImage rm_X4_isImage (va_Pc [.int p0] (rdW dC dI cI cZ cO [])) (vp_Si (fun q => r = q)) 0 0 (fun _ => False) := by
  refine Met.ofW (cc := cX4_isImage) (maxL := 1) (ret := (some .boolean)) (by decide) rfl ?_
  intro p e s m args below meth c s₁ B hml hv
  obtain ⟨rfl, hP, hK, hN⟩ := hv
  have hx := B.exec
  have hb := B.bytes
  have hr := B.returns
  have hts := atoms_spec (ws := wsX4_isImage) B.pre
  have hown : s.vm.findClass RX4 = some m.cls := findClass_of_methodNamed B.named
  have hlocks := B.notSynchronized
  obtain ⟨Q, hQ⟩ : ∃ Q, Q = MQ below (vp_Si (fun q => r = q)) ([.int p0] : List Value).toArray s 0 0 (fun _ => False) := ⟨_, rfl⟩
  rw [← hQ]
  have hS : va_S (fun _ => False) s.heap s.heap [] := va_S.rf
  have hl := lv_entry ([.int p0]) (n := 1) (Nat.le_of_ble_eq_true rfl)
  rw [lg_entry_eq]
  generalize (lg_sl ([.int p0]) ++ List.replicate (1 - (lg_sl ([.int p0])).length) Slot.unset).toArray = ls at hl ⊢
  have hl : lv_has ls 1 [(0, .int p0)] := hl
  unfold f_X4_isImage at hF
  refine lv_iload_n hx hb dX4_isImage_0 rfl (lv_at hl 0 rfl) ?_
  refine lv_iconst (v := (0 : Int32)) hx hb dX4_isImage_1 (by decide) ?_
  refine lv_iconst (v := (1 : Int32)) hx hb dX4_isImage_2 (by decide) ?_
  obtain ⟨q_3, hq_3, hF⟩ := bindE hF
  have hPc := hP
  refine vp_callSi (va_Run.run (va_runS (As := [.int p0, .int (0 : Int32), .int (1 : Int32)]) (rest := []) ⟨hx, hb, hml, hown, hts⟩ (c_X4_isIn l dC dI cI cZ cO p0 (0 : Int32) (1 : Int32) q_3 hq_3) (cwS 3 hts gX4_isImage_X4_isIn rfl rfl rfl (by decide +kernel) ⟨Nat.le_of_ble_eq_true rfl, Nat.le_of_ble_eq_true rfl⟩) ⟨fb_rd, pre_rd hPc hK hN⟩ rfl rfl hl.1 rfl (lv_room (Nat.le_of_ble_eq_true rfl)) dX4_isImage_3 ⟨Nat.zero_le _, Nat.zero_le _⟩)) (fun z_3 hz_3 => ?_)
  subst hz_3
  by_cases b_6 : (q_3 &&& 1 = q_3)
  case neg => exact noneE ((if_neg b_6).symm.trans hF)
  have hF := (if_pos b_6).symm.trans hF
  have hF : some q_3 = some r := hF
  cases hF
  subst hQ
  exact W.zret (ty := .boolean) hx hb hr (nbK b_6) (fun t ht hW => ⟨_, rfl, rfl, ht⟩) (fun q hq => absurd hq List.not_mem_nil) dX4_isImage_6
