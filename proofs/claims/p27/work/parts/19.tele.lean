def f_X3_told (p1 : Int32) (v_settings : (Nat → Int32)) (v_words : Int32) (v_passages : Int32) (v_rows : Int32) (v_cues : (Nat → Int32)) (v_rowOf : (Nat → Int32)) (v_pairs : Int32) (v_keptCount : Int32) (v_position : Int32) (v_speed : Int32) (v_time : Int32) (v_heardTime : Int32) (v_top : Int32) (v_skips : Int32) (v_repeats : Int32) (v_misses : Int32) (v_jerks : Int32) (v_overruns : Int32) (v_undoable : Int32) : Option Int32 :=
  if p1 = (0 : Int32) then
    some v_words
  else if p1 = (1 : Int32) then
    some v_rows
  else if p1 = (2 : Int32) then
    some v_passages
  else if p1 = (3 : Int32) then
    (f_X0_cueCount v_words v_cues).bind fun q132 =>
    some q132
  else if p1 = (4 : Int32) then
    some v_time
  else if p1 = (5 : Int32) then
    some v_position
  else if p1 = (6 : Int32) then
    some v_speed
  else if p1 = (7 : Int32) then
    (f_X1_estimatedWord v_settings v_words v_cues v_position v_speed v_time v_heardTime).bind fun q164 =>
    some q164
  else if p1 = (8 : Int32) then
    some v_top
  else if p1 = (9 : Int32) then
    (f_X1_estimatedWord v_settings v_words v_cues v_position v_speed v_time v_heardTime).bind fun q184 =>
    (f_X1_desiredTop q184 v_settings v_rows v_rowOf).bind fun q187 =>
    some q187
  else if p1 = (10 : Int32) then
    some v_skips
  else if p1 = (11 : Int32) then
    some v_repeats
  else if p1 = (12 : Int32) then
    some v_misses
  else if p1 = (13 : Int32) then
    some v_jerks
  else if p1 = (14 : Int32) then
    some v_overruns
  else if p1 = (15 : Int32) then
    some v_pairs
  else if p1 = (16 : Int32) then
    (f_X0_nextCue v_words v_cues).bind fun q249 =>
    some q249
  else if p1 = (17 : Int32) then
    some v_keptCount
  else if p1 = (18 : Int32) then
    some v_undoable
  else some (-1 : Int32)
def rm_X3_told : Room := { frames := 4, cells := 0, slots := 0, locals := 83 }
set_option maxHeartbeats 4000000 in
set_option maxRecDepth 100000 in
theorem c_X3_told (l : Launch) (dC : Nat → ClassId) (dI : Nat → Nat → Nat) (cI cZ cO : ClassId) (aX aS a_settings aC a_letters a_passageOf a_cues a_rowOf a_firstOfRow aT a_times a_positions a_kept a_text d_aC c_aS a_history a_images a_imageKept : Nat) (p1 : Int32) (v_textLength : Int32) (v_faultKind : Int32) (v_faultPlace : Int32) (v_settings : (Nat → Int32)) (v_words : Int32) (v_passages : Int32) (v_wordsInPassage : Int32) (v_rows : Int32) (v_letters : (Nat → Int32)) (v_passageOf : (Nat → Int32)) (v_cues : (Nat → Int32)) (v_rowOf : (Nat → Int32)) (v_firstOfRow : (Nat → Int32)) (v_pairs : Int32) (v_times : (Nat → Int32)) (v_positions : (Nat → Int32)) (v_kept : (Nat → Int32)) (v_keptCount : Int32) (v_position : Int32) (v_speed : Int32) (v_time : Int32) (v_heardTime : Int32) (v_top : Int32) (v_skips : Int32) (v_repeats : Int32) (v_misses : Int32) (v_jerks : Int32) (v_overruns : Int32) (v_undoable : Int32) (r : Int32) (hF : f_X3_told p1 v_settings v_words v_passages v_rows v_cues v_rowOf v_pairs v_keptCount v_position v_speed v_time v_heardTime v_top v_skips v_repeats v_misses v_jerks v_overruns v_undoable = some r) : Met l yX3_told wsX3_told rm_X3_told (va_Pc [.ref aX, .int p1] (rdW dC dI cI cZ cO [(aX, .inr (3, [.ref a_text, .int v_textLength, .int v_faultKind, .int v_faultPlace, .ref d_aC, .ref aS, .ref c_aS, .ref a_history, .int v_undoable, .ref a_images, .ref a_imageKept])), (aS, .inr (1, [.ref a_settings, .ref aC, .ref aT, .ref a_kept, .int v_keptCount, .int v_position, .int v_speed, .int v_time, .int v_heardTime, .int v_top, .int v_skips, .int v_repeats, .int v_misses, .int v_jerks, .int v_overruns])), (a_settings, .inl (cI, 9, .inl v_settings)), (aC, .inr (0, [.int v_words, .int v_passages, .int v_wordsInPassage, .int v_rows, .ref a_letters, .ref a_passageOf, .ref a_cues, .ref a_rowOf, .ref a_firstOfRow])), (a_letters, .inl (cI, 120, .inl v_letters)), (a_passageOf, .inl (cI, 120, .inl v_passageOf)), (a_cues, .inl (cI, 120, .inl v_cues)), (a_rowOf, .inl (cI, 120, .inl v_rowOf)), (a_firstOfRow, .inl (cI, 120, .inl v_firstOfRow)), (aT, .inr (2, [.int v_pairs, .ref a_times, .ref a_positions])), (a_times, .inl (cI, 61, .inl v_times)), (a_positions, .inl (cI, 61, .inl v_positions)), (a_kept, .inl (cI, 4, .inl v_kept))])) (vp_Si (fun q => r = q)) 0 0 (fun _ => False) := by
  refine Met.ofW (cc := cX3_told) (maxL := 2) (ret := (some .int)) (by decide) rfl ?_
  intro p e s m args below meth c s₁ B hml hv
  obtain ⟨rfl, hP, hK, hN⟩ := hv
  have hx := B.exec
  have hb := B.bytes
  have hr := B.returns
  have hts := atoms_spec (ws := wsX3_told) B.pre
  have hown : s.vm.findClass RX3 = some m.cls := findClass_of_methodNamed B.named
  have hlocks := B.notSynchronized
  obtain ⟨Q, hQ⟩ : ∃ Q, Q = MQ below (vp_Si (fun q => r = q)) ([.ref aX, .int p1] : List Value).toArray s 0 0 (fun _ => False) := ⟨_, rfl⟩
  rw [← hQ]
  have hS : va_S (fun _ => False) s.heap s.heap [] := va_S.rf
  have fl23 := hts (.fieldLink RX3 23 "Teleprompter" "now" "LTeleprompter$State;") (by decide +kernel)
  have fl69 := hts (.fieldLink RX3 69 "Teleprompter$State" "script" "LTeleprompter$Script;") (by decide +kernel)
  have fl72 := hts (.fieldLink RX3 72 "Teleprompter$Script" "words" "I") (by decide +kernel)
  have fl145 := hts (.fieldLink RX3 145 "Teleprompter$Script" "rows" "I") (by decide +kernel)
  have fl148 := hts (.fieldLink RX3 148 "Teleprompter$Script" "passages" "I") (by decide +kernel)
  have fl154 := hts (.fieldLink RX3 154 "Teleprompter$State" "time" "I") (by decide +kernel)
  have fl100 := hts (.fieldLink RX3 100 "Teleprompter$State" "position" "I") (by decide +kernel)
  have fl157 := hts (.fieldLink RX3 157 "Teleprompter$State" "speed" "I") (by decide +kernel)
  have fl163 := hts (.fieldLink RX3 163 "Teleprompter$State" "top" "I") (by decide +kernel)
  have fl169 := hts (.fieldLink RX3 169 "Teleprompter$State" "skips" "I") (by decide +kernel)
  have fl172 := hts (.fieldLink RX3 172 "Teleprompter$State" "repeats" "I") (by decide +kernel)
  have fl175 := hts (.fieldLink RX3 175 "Teleprompter$State" "misses" "I") (by decide +kernel)
  have fl178 := hts (.fieldLink RX3 178 "Teleprompter$State" "jerks" "I") (by decide +kernel)
  have fl181 := hts (.fieldLink RX3 181 "Teleprompter$State" "overruns" "I") (by decide +kernel)
  have fl184 := hts (.fieldLink RX3 184 "Teleprompter$State" "trail" "LTeleprompter$Trail;") (by decide +kernel)
  have fl188 := hts (.fieldLink RX3 188 "Teleprompter$Trail" "pairs" "I") (by decide +kernel)
  have fl193 := hts (.fieldLink RX3 193 "Teleprompter$State" "keptCount" "I") (by decide +kernel)
  have fl121 := hts (.fieldLink RX3 121 "Teleprompter" "undoable" "I") (by decide +kernel)
  have inX3 : ∀ w ∈ u_ws RX3 TX3 11, w ∈ wsX3_told := by decide +kernel
  have inX1 : ∀ w ∈ u_ws RX1 TX1 15, w ∈ wsX3_told := by decide +kernel
  have inX0 : ∀ w ∈ u_ws RX0 TX0 9, w ∈ wsX3_told := by decide +kernel
  have inX2 : ∀ w ∈ u_ws RX2 TX2 3, w ∈ wsX3_told := by decide +kernel
  have hl := lv_entry ([.ref aX, .int p1]) (n := 2) (Nat.le_of_ble_eq_true rfl)
  rw [lg_entry_eq]
  generalize (lg_sl ([.ref aX, .int p1]) ++ List.replicate (2 - (lg_sl ([.ref aX, .int p1])).length) Slot.unset).toArray = ls at hl ⊢
  have hl : lv_has ls 2 [(0, .ref aX), (1, .int p1)] := hl
  unfold f_X3_told at hF
  refine lv_iload_n hx hb dX3_told_0 rfl (lv_at hl 1 rfl) ?_
  by_cases c_1_0 : p1 = (0 : Int32)
  · have hF := (if_pos c_1_0).symm.trans hF
    refine lv_tableIn (tgt := 92) (off := 91) hx hb dX3_told_1 (by rw [c_1_0]; decide) (by rw [c_1_0]; decide) (by rw [c_1_0]; rfl) (by decide) ?_
    refine lv_aload_n hx hb dX3_told_92 rfl (lv_at hl 0 rfl) ?_
    refine va_get (D := (dC, dI)) (ci := 3) (v := .ref aS) (C := RX3) (T := TX3) (N := 11) hx hb hts inX3 hown hK hP 0 rfl rfl 5 (by decide) fl23 (fun _ h9 => h9) rfl dX3_told_93 ?_
    refine va_get (D := (dC, dI)) (ci := 1) (v := .ref aC) (C := RX1) (T := TX1) (N := 15) hx hb hts inX1 hown hK hP 1 rfl rfl 1 (by decide) fl69 (fun _ h9 => h9) rfl dX3_told_96 ?_
    refine va_get (D := (dC, dI)) (ci := 0) (v := .int v_words) (C := RX0) (T := TX0) (N := 9) hx hb hts inX0 hown hK hP 3 rfl rfl 0 (by decide) fl72 (fun _ h9 => h9) rfl dX3_told_99 ?_
    have hF : some v_words = some r := hF
    cases hF
    subst hQ
    exact W.iret hx hb hr (fun t ht hW => ⟨_, rfl, rfl, ht⟩) (fun q hq => absurd hq List.not_mem_nil) dX3_told_102
  have hF := (if_neg c_1_0).symm.trans hF
  by_cases c_1_1 : p1 = (1 : Int32)
  · have hF := (if_pos c_1_1).symm.trans hF
    refine lv_tableIn (tgt := 103) (off := 102) hx hb dX3_told_1 (by rw [c_1_1]; decide) (by rw [c_1_1]; decide) (by rw [c_1_1]; rfl) (by decide) ?_
    refine lv_aload_n hx hb dX3_told_103 rfl (lv_at hl 0 rfl) ?_
    refine va_get (D := (dC, dI)) (ci := 3) (v := .ref aS) (C := RX3) (T := TX3) (N := 11) hx hb hts inX3 hown hK hP 0 rfl rfl 5 (by decide) fl23 (fun _ h9 => h9) rfl dX3_told_104 ?_
    refine va_get (D := (dC, dI)) (ci := 1) (v := .ref aC) (C := RX1) (T := TX1) (N := 15) hx hb hts inX1 hown hK hP 1 rfl rfl 1 (by decide) fl69 (fun _ h9 => h9) rfl dX3_told_107 ?_
    refine va_get (D := (dC, dI)) (ci := 0) (v := .int v_rows) (C := RX0) (T := TX0) (N := 9) hx hb hts inX0 hown hK hP 3 rfl rfl 3 (by decide) fl145 (fun _ h9 => h9) rfl dX3_told_110 ?_
    have hF : some v_rows = some r := hF
    cases hF
    subst hQ
    exact W.iret hx hb hr (fun t ht hW => ⟨_, rfl, rfl, ht⟩) (fun q hq => absurd hq List.not_mem_nil) dX3_told_113
  have hF := (if_neg c_1_1).symm.trans hF
  by_cases c_1_2 : p1 = (2 : Int32)
  · have hF := (if_pos c_1_2).symm.trans hF
    refine lv_tableIn (tgt := 114) (off := 113) hx hb dX3_told_1 (by rw [c_1_2]; decide) (by rw [c_1_2]; decide) (by rw [c_1_2]; rfl) (by decide) ?_
    refine lv_aload_n hx hb dX3_told_114 rfl (lv_at hl 0 rfl) ?_
    refine va_get (D := (dC, dI)) (ci := 3) (v := .ref aS) (C := RX3) (T := TX3) (N := 11) hx hb hts inX3 hown hK hP 0 rfl rfl 5 (by decide) fl23 (fun _ h9 => h9) rfl dX3_told_115 ?_
    refine va_get (D := (dC, dI)) (ci := 1) (v := .ref aC) (C := RX1) (T := TX1) (N := 15) hx hb hts inX1 hown hK hP 1 rfl rfl 1 (by decide) fl69 (fun _ h9 => h9) rfl dX3_told_118 ?_
    refine va_get (D := (dC, dI)) (ci := 0) (v := .int v_passages) (C := RX0) (T := TX0) (N := 9) hx hb hts inX0 hown hK hP 3 rfl rfl 1 (by decide) fl148 (fun _ h9 => h9) rfl dX3_told_121 ?_
    have hF : some v_passages = some r := hF
    cases hF
    subst hQ
    exact W.iret hx hb hr (fun t ht hW => ⟨_, rfl, rfl, ht⟩) (fun q hq => absurd hq List.not_mem_nil) dX3_told_124
  have hF := (if_neg c_1_2).symm.trans hF
  by_cases c_1_3 : p1 = (3 : Int32)
  · have hF := (if_pos c_1_3).symm.trans hF
    refine lv_tableIn (tgt := 125) (off := 124) hx hb dX3_told_1 (by rw [c_1_3]; decide) (by rw [c_1_3]; decide) (by rw [c_1_3]; rfl) (by decide) ?_
    refine lv_aload_n hx hb dX3_told_125 rfl (lv_at hl 0 rfl) ?_
    refine va_get (D := (dC, dI)) (ci := 3) (v := .ref aS) (C := RX3) (T := TX3) (N := 11) hx hb hts inX3 hown hK hP 0 rfl rfl 5 (by decide) fl23 (fun _ h9 => h9) rfl dX3_told_126 ?_
    refine va_get (D := (dC, dI)) (ci := 1) (v := .ref aC) (C := RX1) (T := TX1) (N := 15) hx hb hts inX1 hown hK hP 1 rfl rfl 1 (by decide) fl69 (fun _ h9 => h9) rfl dX3_told_129 ?_
    obtain ⟨q_132, hq_132, hF⟩ := bindE hF
    have hPc := hP.sub (ws' := [(aC, .inr (0, [.int v_words, .int v_passages, .int v_wordsInPassage, .int v_rows, .ref a_letters, .ref a_passageOf, .ref a_cues, .ref a_rowOf, .ref a_firstOfRow])), (a_letters, .inl (cI, 120, .inl v_letters)), (a_passageOf, .inl (cI, 120, .inl v_passageOf)), (a_cues, .inl (cI, 120, .inl v_cues)), (a_rowOf, .inl (cI, 120, .inl v_rowOf)), (a_firstOfRow, .inl (cI, 120, .inl v_firstOfRow))]) [3, 4, 5, 6, 7, 8] rfl
    refine vp_callSi (va_Run.run (va_runV (As := []) (rest := []) ⟨hx, hb, hml, hown, hts⟩ (c_X0_cueCount l dC dI cI cZ cO aC a_letters a_passageOf a_cues a_rowOf a_firstOfRow v_words v_passages v_wordsInPassage v_rows v_letters v_passageOf v_cues v_rowOf v_firstOfRow q_132 hq_132) (cwV 0 hts gX3_told_X0_cueCount rfl rfl rfl (by decide +kernel) ⟨Nat.le_of_ble_eq_true rfl, Nat.le_of_ble_eq_true rfl⟩) ⟨fb_rd, va_recv hK hPc (ci := 0) (q0 := 0) rfl rfl, pre_rd hPc hK hN⟩ rfl rfl hl.1 rfl (lv_room (Nat.le_of_ble_eq_true rfl)) dX3_told_132 ⟨Nat.zero_le _, Nat.zero_le _⟩)) (fun z_132 hz_132 => ?_)
    subst hz_132
    have hF : some q_132 = some r := hF
    cases hF
    subst hQ
    exact W.iret hx hb hr (fun t ht hW => ⟨_, rfl, rfl, ht⟩) (fun q hq => absurd hq List.not_mem_nil) dX3_told_135
  have hF := (if_neg c_1_3).symm.trans hF
  by_cases c_1_4 : p1 = (4 : Int32)
  · have hF := (if_pos c_1_4).symm.trans hF
    refine lv_tableIn (tgt := 136) (off := 135) hx hb dX3_told_1 (by rw [c_1_4]; decide) (by rw [c_1_4]; decide) (by rw [c_1_4]; rfl) (by decide) ?_
    refine lv_aload_n hx hb dX3_told_136 rfl (lv_at hl 0 rfl) ?_
    refine va_get (D := (dC, dI)) (ci := 3) (v := .ref aS) (C := RX3) (T := TX3) (N := 11) hx hb hts inX3 hown hK hP 0 rfl rfl 5 (by decide) fl23 (fun _ h9 => h9) rfl dX3_told_137 ?_
    refine va_get (D := (dC, dI)) (ci := 1) (v := .int v_time) (C := RX1) (T := TX1) (N := 15) hx hb hts inX1 hown hK hP 1 rfl rfl 7 (by decide) fl154 (fun _ h9 => h9) rfl dX3_told_140 ?_
    have hF : some v_time = some r := hF
    cases hF
    subst hQ
    exact W.iret hx hb hr (fun t ht hW => ⟨_, rfl, rfl, ht⟩) (fun q hq => absurd hq List.not_mem_nil) dX3_told_143
  have hF := (if_neg c_1_4).symm.trans hF
  by_cases c_1_5 : p1 = (5 : Int32)
  · have hF := (if_pos c_1_5).symm.trans hF
    refine lv_tableIn (tgt := 144) (off := 143) hx hb dX3_told_1 (by rw [c_1_5]; decide) (by rw [c_1_5]; decide) (by rw [c_1_5]; rfl) (by decide) ?_
    refine lv_aload_n hx hb dX3_told_144 rfl (lv_at hl 0 rfl) ?_
    refine va_get (D := (dC, dI)) (ci := 3) (v := .ref aS) (C := RX3) (T := TX3) (N := 11) hx hb hts inX3 hown hK hP 0 rfl rfl 5 (by decide) fl23 (fun _ h9 => h9) rfl dX3_told_145 ?_
    refine va_get (D := (dC, dI)) (ci := 1) (v := .int v_position) (C := RX1) (T := TX1) (N := 15) hx hb hts inX1 hown hK hP 1 rfl rfl 5 (by decide) fl100 (fun _ h9 => h9) rfl dX3_told_148 ?_
    have hF : some v_position = some r := hF
    cases hF
    subst hQ
    exact W.iret hx hb hr (fun t ht hW => ⟨_, rfl, rfl, ht⟩) (fun q hq => absurd hq List.not_mem_nil) dX3_told_151
  have hF := (if_neg c_1_5).symm.trans hF
  by_cases c_1_6 : p1 = (6 : Int32)
  · have hF := (if_pos c_1_6).symm.trans hF
    refine lv_tableIn (tgt := 152) (off := 151) hx hb dX3_told_1 (by rw [c_1_6]; decide) (by rw [c_1_6]; decide) (by rw [c_1_6]; rfl) (by decide) ?_
    refine lv_aload_n hx hb dX3_told_152 rfl (lv_at hl 0 rfl) ?_
    refine va_get (D := (dC, dI)) (ci := 3) (v := .ref aS) (C := RX3) (T := TX3) (N := 11) hx hb hts inX3 hown hK hP 0 rfl rfl 5 (by decide) fl23 (fun _ h9 => h9) rfl dX3_told_153 ?_
    refine va_get (D := (dC, dI)) (ci := 1) (v := .int v_speed) (C := RX1) (T := TX1) (N := 15) hx hb hts inX1 hown hK hP 1 rfl rfl 6 (by decide) fl157 (fun _ h9 => h9) rfl dX3_told_156 ?_
    have hF : some v_speed = some r := hF
    cases hF
    subst hQ
    exact W.iret hx hb hr (fun t ht hW => ⟨_, rfl, rfl, ht⟩) (fun q hq => absurd hq List.not_mem_nil) dX3_told_159
  have hF := (if_neg c_1_6).symm.trans hF
  by_cases c_1_7 : p1 = (7 : Int32)
  · have hF := (if_pos c_1_7).symm.trans hF
    refine lv_tableIn (tgt := 160) (off := 159) hx hb dX3_told_1 (by rw [c_1_7]; decide) (by rw [c_1_7]; decide) (by rw [c_1_7]; rfl) (by decide) ?_
    refine lv_aload_n hx hb dX3_told_160 rfl (lv_at hl 0 rfl) ?_
    refine va_get (D := (dC, dI)) (ci := 3) (v := .ref aS) (C := RX3) (T := TX3) (N := 11) hx hb hts inX3 hown hK hP 0 rfl rfl 5 (by decide) fl23 (fun _ h9 => h9) rfl dX3_told_161 ?_
    obtain ⟨q_164, hq_164, hF⟩ := bindE hF
    have hPc := hP.sub (ws' := [(aS, .inr (1, [.ref a_settings, .ref aC, .ref aT, .ref a_kept, .int v_keptCount, .int v_position, .int v_speed, .int v_time, .int v_heardTime, .int v_top, .int v_skips, .int v_repeats, .int v_misses, .int v_jerks, .int v_overruns])), (a_settings, .inl (cI, 9, .inl v_settings)), (aC, .inr (0, [.int v_words, .int v_passages, .int v_wordsInPassage, .int v_rows, .ref a_letters, .ref a_passageOf, .ref a_cues, .ref a_rowOf, .ref a_firstOfRow])), (a_letters, .inl (cI, 120, .inl v_letters)), (a_passageOf, .inl (cI, 120, .inl v_passageOf)), (a_cues, .inl (cI, 120, .inl v_cues)), (a_rowOf, .inl (cI, 120, .inl v_rowOf)), (a_firstOfRow, .inl (cI, 120, .inl v_firstOfRow)), (aT, .inr (2, [.int v_pairs, .ref a_times, .ref a_positions])), (a_times, .inl (cI, 61, .inl v_times)), (a_positions, .inl (cI, 61, .inl v_positions)), (a_kept, .inl (cI, 4, .inl v_kept))]) [1, 2, 3, 4, 5, 6, 7, 8, 9, 10, 11, 12] rfl
    refine vp_callSi (va_Run.run (va_runV (As := []) (rest := []) ⟨hx, hb, hml, hown, hts⟩ (c_X1_estimatedWord l dC dI cI cZ cO aS a_settings aC a_letters a_passageOf a_cues a_rowOf a_firstOfRow aT a_times a_positions a_kept v_settings v_words v_passages v_wordsInPassage v_rows v_letters v_passageOf v_cues v_rowOf v_firstOfRow v_pairs v_times v_positions v_kept v_keptCount v_position v_speed v_time v_heardTime v_top v_skips v_repeats v_misses v_jerks v_overruns q_164 hq_164) (cwV 0 hts gX3_told_X1_estimatedWord rfl rfl rfl (by decide +kernel) ⟨Nat.le_of_ble_eq_true rfl, Nat.le_of_ble_eq_true rfl⟩) ⟨fb_rd, va_recv hK hPc (ci := 1) (q0 := 0) rfl rfl, pre_rd hPc hK hN⟩ rfl rfl hl.1 rfl (lv_room (Nat.le_of_ble_eq_true rfl)) dX3_told_164 ⟨Nat.zero_le _, Nat.zero_le _⟩)) (fun z_164 hz_164 => ?_)
    subst hz_164
    have hF : some q_164 = some r := hF
    cases hF
    subst hQ
    exact W.iret hx hb hr (fun t ht hW => ⟨_, rfl, rfl, ht⟩) (fun q hq => absurd hq List.not_mem_nil) dX3_told_167
  have hF := (if_neg c_1_7).symm.trans hF
  by_cases c_1_8 : p1 = (8 : Int32)
  · have hF := (if_pos c_1_8).symm.trans hF
    refine lv_tableIn (tgt := 168) (off := 167) hx hb dX3_told_1 (by rw [c_1_8]; decide) (by rw [c_1_8]; decide) (by rw [c_1_8]; rfl) (by decide) ?_
    refine lv_aload_n hx hb dX3_told_168 rfl (lv_at hl 0 rfl) ?_
    refine va_get (D := (dC, dI)) (ci := 3) (v := .ref aS) (C := RX3) (T := TX3) (N := 11) hx hb hts inX3 hown hK hP 0 rfl rfl 5 (by decide) fl23 (fun _ h9 => h9) rfl dX3_told_169 ?_
    refine va_get (D := (dC, dI)) (ci := 1) (v := .int v_top) (C := RX1) (T := TX1) (N := 15) hx hb hts inX1 hown hK hP 1 rfl rfl 9 (by decide) fl163 (fun _ h9 => h9) rfl dX3_told_172 ?_
    have hF : some v_top = some r := hF
    cases hF
    subst hQ
    exact W.iret hx hb hr (fun t ht hW => ⟨_, rfl, rfl, ht⟩) (fun q hq => absurd hq List.not_mem_nil) dX3_told_175
  have hF := (if_neg c_1_8).symm.trans hF
  by_cases c_1_9 : p1 = (9 : Int32)
  · have hF := (if_pos c_1_9).symm.trans hF
    refine lv_tableIn (tgt := 176) (off := 175) hx hb dX3_told_1 (by rw [c_1_9]; decide) (by rw [c_1_9]; decide) (by rw [c_1_9]; rfl) (by decide) ?_
    refine lv_aload_n hx hb dX3_told_176 rfl (lv_at hl 0 rfl) ?_
    refine va_get (D := (dC, dI)) (ci := 3) (v := .ref aS) (C := RX3) (T := TX3) (N := 11) hx hb hts inX3 hown hK hP 0 rfl rfl 5 (by decide) fl23 (fun _ h9 => h9) rfl dX3_told_177 ?_
    refine lv_aload_n hx hb dX3_told_180 rfl (lv_at hl 0 rfl) ?_
    refine va_get (D := (dC, dI)) (ci := 3) (v := .ref aS) (C := RX3) (T := TX3) (N := 11) hx hb hts inX3 hown hK hP 0 rfl rfl 5 (by decide) fl23 (fun _ h9 => h9) rfl dX3_told_181 ?_
    obtain ⟨q_184, hq_184, hF⟩ := bindE hF
    have hPc := hP.sub (ws' := [(aS, .inr (1, [.ref a_settings, .ref aC, .ref aT, .ref a_kept, .int v_keptCount, .int v_position, .int v_speed, .int v_time, .int v_heardTime, .int v_top, .int v_skips, .int v_repeats, .int v_misses, .int v_jerks, .int v_overruns])), (a_settings, .inl (cI, 9, .inl v_settings)), (aC, .inr (0, [.int v_words, .int v_passages, .int v_wordsInPassage, .int v_rows, .ref a_letters, .ref a_passageOf, .ref a_cues, .ref a_rowOf, .ref a_firstOfRow])), (a_letters, .inl (cI, 120, .inl v_letters)), (a_passageOf, .inl (cI, 120, .inl v_passageOf)), (a_cues, .inl (cI, 120, .inl v_cues)), (a_rowOf, .inl (cI, 120, .inl v_rowOf)), (a_firstOfRow, .inl (cI, 120, .inl v_firstOfRow)), (aT, .inr (2, [.int v_pairs, .ref a_times, .ref a_positions])), (a_times, .inl (cI, 61, .inl v_times)), (a_positions, .inl (cI, 61, .inl v_positions)), (a_kept, .inl (cI, 4, .inl v_kept))]) [1, 2, 3, 4, 5, 6, 7, 8, 9, 10, 11, 12] rfl
    refine vp_callSi (va_Run.run (va_runV (As := []) (rest := [.ref aS]) ⟨hx, hb, hml, hown, hts⟩ (c_X1_estimatedWord l dC dI cI cZ cO aS a_settings aC a_letters a_passageOf a_cues a_rowOf a_firstOfRow aT a_times a_positions a_kept v_settings v_words v_passages v_wordsInPassage v_rows v_letters v_passageOf v_cues v_rowOf v_firstOfRow v_pairs v_times v_positions v_kept v_keptCount v_position v_speed v_time v_heardTime v_top v_skips v_repeats v_misses v_jerks v_overruns q_184 hq_184) (cwV 0 hts gX3_told_X1_estimatedWord rfl rfl rfl (by decide +kernel) ⟨Nat.le_of_ble_eq_true rfl, Nat.le_of_ble_eq_true rfl⟩) ⟨fb_rd, va_recv hK hPc (ci := 1) (q0 := 0) rfl rfl, pre_rd hPc hK hN⟩ rfl rfl hl.1 rfl (lv_room (Nat.le_of_ble_eq_true rfl)) dX3_told_184 ⟨Nat.zero_le _, Nat.zero_le _⟩)) (fun z_184 hz_184 => ?_)
    subst hz_184
    obtain ⟨q_187, hq_187, hF⟩ := bindE hF
    have hPc := hP.sub (ws' := [(aS, .inr (1, [.ref a_settings, .ref aC, .ref aT, .ref a_kept, .int v_keptCount, .int v_position, .int v_speed, .int v_time, .int v_heardTime, .int v_top, .int v_skips, .int v_repeats, .int v_misses, .int v_jerks, .int v_overruns])), (a_settings, .inl (cI, 9, .inl v_settings)), (aC, .inr (0, [.int v_words, .int v_passages, .int v_wordsInPassage, .int v_rows, .ref a_letters, .ref a_passageOf, .ref a_cues, .ref a_rowOf, .ref a_firstOfRow])), (a_letters, .inl (cI, 120, .inl v_letters)), (a_passageOf, .inl (cI, 120, .inl v_passageOf)), (a_cues, .inl (cI, 120, .inl v_cues)), (a_rowOf, .inl (cI, 120, .inl v_rowOf)), (a_firstOfRow, .inl (cI, 120, .inl v_firstOfRow)), (aT, .inr (2, [.int v_pairs, .ref a_times, .ref a_positions])), (a_times, .inl (cI, 61, .inl v_times)), (a_positions, .inl (cI, 61, .inl v_positions)), (a_kept, .inl (cI, 4, .inl v_kept))]) [1, 2, 3, 4, 5, 6, 7, 8, 9, 10, 11, 12] rfl
    refine vp_callSi (va_Run.run (va_runV (As := [.int q_184]) (rest := []) ⟨hx, hb, hml, hown, hts⟩ (c_X1_desiredTop l dC dI cI cZ cO aS a_settings aC a_letters a_passageOf a_cues a_rowOf a_firstOfRow aT a_times a_positions a_kept q_184 v_settings v_words v_passages v_wordsInPassage v_rows v_letters v_passageOf v_cues v_rowOf v_firstOfRow v_pairs v_times v_positions v_kept v_keptCount v_position v_speed v_time v_heardTime v_top v_skips v_repeats v_misses v_jerks v_overruns q_187 hq_187) (cwV 1 hts gX3_told_X1_desiredTop rfl rfl rfl (by decide +kernel) ⟨Nat.le_of_ble_eq_true rfl, Nat.le_of_ble_eq_true rfl⟩) ⟨fb_rd, va_recv hK hPc (ci := 1) (q0 := 0) rfl rfl, pre_rd hPc hK hN⟩ rfl rfl hl.1 rfl (lv_room (Nat.le_of_ble_eq_true rfl)) dX3_told_187 ⟨Nat.zero_le _, Nat.zero_le _⟩)) (fun z_187 hz_187 => ?_)
    subst hz_187
    have hF : some q_187 = some r := hF
    cases hF
    subst hQ
    exact W.iret hx hb hr (fun t ht hW => ⟨_, rfl, rfl, ht⟩) (fun q hq => absurd hq List.not_mem_nil) dX3_told_190
  have hF := (if_neg c_1_9).symm.trans hF
  by_cases c_1_10 : p1 = (10 : Int32)
  · have hF := (if_pos c_1_10).symm.trans hF
    refine lv_tableIn (tgt := 191) (off := 190) hx hb dX3_told_1 (by rw [c_1_10]; decide) (by rw [c_1_10]; decide) (by rw [c_1_10]; rfl) (by decide) ?_
    refine lv_aload_n hx hb dX3_told_191 rfl (lv_at hl 0 rfl) ?_
    refine va_get (D := (dC, dI)) (ci := 3) (v := .ref aS) (C := RX3) (T := TX3) (N := 11) hx hb hts inX3 hown hK hP 0 rfl rfl 5 (by decide) fl23 (fun _ h9 => h9) rfl dX3_told_192 ?_
    refine va_get (D := (dC, dI)) (ci := 1) (v := .int v_skips) (C := RX1) (T := TX1) (N := 15) hx hb hts inX1 hown hK hP 1 rfl rfl 10 (by decide) fl169 (fun _ h9 => h9) rfl dX3_told_195 ?_
    have hF : some v_skips = some r := hF
    cases hF
    subst hQ
    exact W.iret hx hb hr (fun t ht hW => ⟨_, rfl, rfl, ht⟩) (fun q hq => absurd hq List.not_mem_nil) dX3_told_198
  have hF := (if_neg c_1_10).symm.trans hF
  by_cases c_1_11 : p1 = (11 : Int32)
  · have hF := (if_pos c_1_11).symm.trans hF
    refine lv_tableIn (tgt := 199) (off := 198) hx hb dX3_told_1 (by rw [c_1_11]; decide) (by rw [c_1_11]; decide) (by rw [c_1_11]; rfl) (by decide) ?_
    refine lv_aload_n hx hb dX3_told_199 rfl (lv_at hl 0 rfl) ?_
    refine va_get (D := (dC, dI)) (ci := 3) (v := .ref aS) (C := RX3) (T := TX3) (N := 11) hx hb hts inX3 hown hK hP 0 rfl rfl 5 (by decide) fl23 (fun _ h9 => h9) rfl dX3_told_200 ?_
    refine va_get (D := (dC, dI)) (ci := 1) (v := .int v_repeats) (C := RX1) (T := TX1) (N := 15) hx hb hts inX1 hown hK hP 1 rfl rfl 11 (by decide) fl172 (fun _ h9 => h9) rfl dX3_told_203 ?_
    have hF : some v_repeats = some r := hF
    cases hF
    subst hQ
    exact W.iret hx hb hr (fun t ht hW => ⟨_, rfl, rfl, ht⟩) (fun q hq => absurd hq List.not_mem_nil) dX3_told_206
  have hF := (if_neg c_1_11).symm.trans hF
  by_cases c_1_12 : p1 = (12 : Int32)
  · have hF := (if_pos c_1_12).symm.trans hF
    refine lv_tableIn (tgt := 207) (off := 206) hx hb dX3_told_1 (by rw [c_1_12]; decide) (by rw [c_1_12]; decide) (by rw [c_1_12]; rfl) (by decide) ?_
    refine lv_aload_n hx hb dX3_told_207 rfl (lv_at hl 0 rfl) ?_
    refine va_get (D := (dC, dI)) (ci := 3) (v := .ref aS) (C := RX3) (T := TX3) (N := 11) hx hb hts inX3 hown hK hP 0 rfl rfl 5 (by decide) fl23 (fun _ h9 => h9) rfl dX3_told_208 ?_
    refine va_get (D := (dC, dI)) (ci := 1) (v := .int v_misses) (C := RX1) (T := TX1) (N := 15) hx hb hts inX1 hown hK hP 1 rfl rfl 12 (by decide) fl175 (fun _ h9 => h9) rfl dX3_told_211 ?_
    have hF : some v_misses = some r := hF
    cases hF
    subst hQ
    exact W.iret hx hb hr (fun t ht hW => ⟨_, rfl, rfl, ht⟩) (fun q hq => absurd hq List.not_mem_nil) dX3_told_214
  have hF := (if_neg c_1_12).symm.trans hF
  by_cases c_1_13 : p1 = (13 : Int32)
  · have hF := (if_pos c_1_13).symm.trans hF
    refine lv_tableIn (tgt := 215) (off := 214) hx hb dX3_told_1 (by rw [c_1_13]; decide) (by rw [c_1_13]; decide) (by rw [c_1_13]; rfl) (by decide) ?_
    refine lv_aload_n hx hb dX3_told_215 rfl (lv_at hl 0 rfl) ?_
    refine va_get (D := (dC, dI)) (ci := 3) (v := .ref aS) (C := RX3) (T := TX3) (N := 11) hx hb hts inX3 hown hK hP 0 rfl rfl 5 (by decide) fl23 (fun _ h9 => h9) rfl dX3_told_216 ?_
    refine va_get (D := (dC, dI)) (ci := 1) (v := .int v_jerks) (C := RX1) (T := TX1) (N := 15) hx hb hts inX1 hown hK hP 1 rfl rfl 13 (by decide) fl178 (fun _ h9 => h9) rfl dX3_told_219 ?_
    have hF : some v_jerks = some r := hF
    cases hF
    subst hQ
    exact W.iret hx hb hr (fun t ht hW => ⟨_, rfl, rfl, ht⟩) (fun q hq => absurd hq List.not_mem_nil) dX3_told_222
  have hF := (if_neg c_1_13).symm.trans hF
  by_cases c_1_14 : p1 = (14 : Int32)
  · have hF := (if_pos c_1_14).symm.trans hF
    refine lv_tableIn (tgt := 223) (off := 222) hx hb dX3_told_1 (by rw [c_1_14]; decide) (by rw [c_1_14]; decide) (by rw [c_1_14]; rfl) (by decide) ?_
    refine lv_aload_n hx hb dX3_told_223 rfl (lv_at hl 0 rfl) ?_
    refine va_get (D := (dC, dI)) (ci := 3) (v := .ref aS) (C := RX3) (T := TX3) (N := 11) hx hb hts inX3 hown hK hP 0 rfl rfl 5 (by decide) fl23 (fun _ h9 => h9) rfl dX3_told_224 ?_
    refine va_get (D := (dC, dI)) (ci := 1) (v := .int v_overruns) (C := RX1) (T := TX1) (N := 15) hx hb hts inX1 hown hK hP 1 rfl rfl 14 (by decide) fl181 (fun _ h9 => h9) rfl dX3_told_227 ?_
    have hF : some v_overruns = some r := hF
    cases hF
    subst hQ
    exact W.iret hx hb hr (fun t ht hW => ⟨_, rfl, rfl, ht⟩) (fun q hq => absurd hq List.not_mem_nil) dX3_told_230
  have hF := (if_neg c_1_14).symm.trans hF
  by_cases c_1_15 : p1 = (15 : Int32)
  · have hF := (if_pos c_1_15).symm.trans hF
    refine lv_tableIn (tgt := 231) (off := 230) hx hb dX3_told_1 (by rw [c_1_15]; decide) (by rw [c_1_15]; decide) (by rw [c_1_15]; rfl) (by decide) ?_
    refine lv_aload_n hx hb dX3_told_231 rfl (lv_at hl 0 rfl) ?_
    refine va_get (D := (dC, dI)) (ci := 3) (v := .ref aS) (C := RX3) (T := TX3) (N := 11) hx hb hts inX3 hown hK hP 0 rfl rfl 5 (by decide) fl23 (fun _ h9 => h9) rfl dX3_told_232 ?_
    refine va_get (D := (dC, dI)) (ci := 1) (v := .ref aT) (C := RX1) (T := TX1) (N := 15) hx hb hts inX1 hown hK hP 1 rfl rfl 2 (by decide) fl184 (fun _ h9 => h9) rfl dX3_told_235 ?_
    refine va_get (D := (dC, dI)) (ci := 2) (v := .int v_pairs) (C := RX2) (T := TX2) (N := 3) hx hb hts inX2 hown hK hP 9 rfl rfl 0 (by decide) fl188 (fun _ h9 => h9) rfl dX3_told_238 ?_
    have hF : some v_pairs = some r := hF
    cases hF
    subst hQ
    exact W.iret hx hb hr (fun t ht hW => ⟨_, rfl, rfl, ht⟩) (fun q hq => absurd hq List.not_mem_nil) dX3_told_241
  have hF := (if_neg c_1_15).symm.trans hF
  by_cases c_1_16 : p1 = (16 : Int32)
  · have hF := (if_pos c_1_16).symm.trans hF
    refine lv_tableIn (tgt := 242) (off := 241) hx hb dX3_told_1 (by rw [c_1_16]; decide) (by rw [c_1_16]; decide) (by rw [c_1_16]; rfl) (by decide) ?_
    refine lv_aload_n hx hb dX3_told_242 rfl (lv_at hl 0 rfl) ?_
    refine va_get (D := (dC, dI)) (ci := 3) (v := .ref aS) (C := RX3) (T := TX3) (N := 11) hx hb hts inX3 hown hK hP 0 rfl rfl 5 (by decide) fl23 (fun _ h9 => h9) rfl dX3_told_243 ?_
    refine va_get (D := (dC, dI)) (ci := 1) (v := .ref aC) (C := RX1) (T := TX1) (N := 15) hx hb hts inX1 hown hK hP 1 rfl rfl 1 (by decide) fl69 (fun _ h9 => h9) rfl dX3_told_246 ?_
    obtain ⟨q_249, hq_249, hF⟩ := bindE hF
    have hPc := hP.sub (ws' := [(aC, .inr (0, [.int v_words, .int v_passages, .int v_wordsInPassage, .int v_rows, .ref a_letters, .ref a_passageOf, .ref a_cues, .ref a_rowOf, .ref a_firstOfRow])), (a_letters, .inl (cI, 120, .inl v_letters)), (a_passageOf, .inl (cI, 120, .inl v_passageOf)), (a_cues, .inl (cI, 120, .inl v_cues)), (a_rowOf, .inl (cI, 120, .inl v_rowOf)), (a_firstOfRow, .inl (cI, 120, .inl v_firstOfRow))]) [3, 4, 5, 6, 7, 8] rfl
    refine vp_callSi (va_Run.run (va_runV (As := []) (rest := []) ⟨hx, hb, hml, hown, hts⟩ (c_X0_nextCue l dC dI cI cZ cO aC a_letters a_passageOf a_cues a_rowOf a_firstOfRow v_words v_passages v_wordsInPassage v_rows v_letters v_passageOf v_cues v_rowOf v_firstOfRow q_249 hq_249) (cwV 0 hts gX3_told_X0_nextCue rfl rfl rfl (by decide +kernel) ⟨Nat.le_of_ble_eq_true rfl, Nat.le_of_ble_eq_true rfl⟩) ⟨fb_rd, va_recv hK hPc (ci := 0) (q0 := 0) rfl rfl, pre_rd hPc hK hN⟩ rfl rfl hl.1 rfl (lv_room (Nat.le_of_ble_eq_true rfl)) dX3_told_249 ⟨Nat.zero_le _, Nat.zero_le _⟩)) (fun z_249 hz_249 => ?_)
    subst hz_249
    have hF : some q_249 = some r := hF
    cases hF
    subst hQ
    exact W.iret hx hb hr (fun t ht hW => ⟨_, rfl, rfl, ht⟩) (fun q hq => absurd hq List.not_mem_nil) dX3_told_252
  have hF := (if_neg c_1_16).symm.trans hF
  by_cases c_1_17 : p1 = (17 : Int32)
  · have hF := (if_pos c_1_17).symm.trans hF
    refine lv_tableIn (tgt := 253) (off := 252) hx hb dX3_told_1 (by rw [c_1_17]; decide) (by rw [c_1_17]; decide) (by rw [c_1_17]; rfl) (by decide) ?_
    refine lv_aload_n hx hb dX3_told_253 rfl (lv_at hl 0 rfl) ?_
    refine va_get (D := (dC, dI)) (ci := 3) (v := .ref aS) (C := RX3) (T := TX3) (N := 11) hx hb hts inX3 hown hK hP 0 rfl rfl 5 (by decide) fl23 (fun _ h9 => h9) rfl dX3_told_254 ?_
    refine va_get (D := (dC, dI)) (ci := 1) (v := .int v_keptCount) (C := RX1) (T := TX1) (N := 15) hx hb hts inX1 hown hK hP 1 rfl rfl 4 (by decide) fl193 (fun _ h9 => h9) rfl dX3_told_257 ?_
    have hF : some v_keptCount = some r := hF
    cases hF
    subst hQ
    exact W.iret hx hb hr (fun t ht hW => ⟨_, rfl, rfl, ht⟩) (fun q hq => absurd hq List.not_mem_nil) dX3_told_260
  have hF := (if_neg c_1_17).symm.trans hF
  by_cases c_1_18 : p1 = (18 : Int32)
  · have hF := (if_pos c_1_18).symm.trans hF
    refine lv_tableIn (tgt := 261) (off := 260) hx hb dX3_told_1 (by rw [c_1_18]; decide) (by rw [c_1_18]; decide) (by rw [c_1_18]; rfl) (by decide) ?_
    refine lv_aload_n hx hb dX3_told_261 rfl (lv_at hl 0 rfl) ?_
    refine va_get (D := (dC, dI)) (ci := 3) (v := .int v_undoable) (C := RX3) (T := TX3) (N := 11) hx hb hts inX3 hown hK hP 0 rfl rfl 8 (by decide) fl121 (fun _ h9 => h9) rfl dX3_told_262 ?_
    have hF : some v_undoable = some r := hF
    cases hF
    subst hQ
    exact W.iret hx hb hr (fun t ht hW => ⟨_, rfl, rfl, ht⟩) (fun q hq => absurd hq List.not_mem_nil) dX3_told_265
  have hF := (if_neg c_1_18).symm.trans hF
  refine lv_tableOut (tgt := 266) hx hb dX3_told_1 (tsOut (by decide) (by decide) (by
      intro k h1 h2; rcases (show k = 0 ∨ k = 1 ∨ k = 2 ∨ k = 3 ∨ k = 4 ∨ k = 5 ∨ k = 6 ∨ k = 7 ∨ k = 8 ∨ k = 9 ∨ k = 10 ∨ k = 11 ∨ k = 12 ∨ k = 13 ∨ k = 14 ∨ k = 15 ∨ k = 16 ∨ k = 17 ∨ k = 18 by omega) with rfl | rfl | rfl | rfl | rfl | rfl | rfl | rfl | rfl | rfl | rfl | rfl | rfl | rfl | rfl | rfl | rfl | rfl | rfl
      · exact c_1_0
      · exact c_1_1
      · exact c_1_2
      · exact c_1_3
      · exact c_1_4
      · exact c_1_5
      · exact c_1_6
      · exact c_1_7
      · exact c_1_8
      · exact c_1_9
      · exact c_1_10
      · exact c_1_11
      · exact c_1_12
      · exact c_1_13
      · exact c_1_14
      · exact c_1_15
      · exact c_1_16
      · exact c_1_17
      · exact c_1_18
      )) (by decide) ?_
  refine lv_iconst (v := (-1 : Int32)) hx hb dX3_told_266 (by decide) ?_
  have hF : some (-1 : Int32) = some r := hF
  cases hF
  subst hQ
  exact W.iret hx hb hr (fun t ht hW => ⟨_, rfl, rfl, ht⟩) (fun q hq => absurd hq List.not_mem_nil) dX3_told_267
def f_X3_setting (p1 : Int32) (v_settings : (Nat → Int32)) : Option Int32 :=
  (f_X3_isSetting p1).bind fun q1 =>
  if q1 = (0 : Int32) then
    some (-1 : Int32)
  else
    (f_X3_at 9 p1 v_settings).bind fun q15 =>
    some q15
def rm_X3_setting : Room := { frames := 1, cells := 0, slots := 0, locals := 21 }
set_option maxHeartbeats 4000000 in
set_option maxRecDepth 100000 in
theorem c_X3_setting (l : Launch) (dC : Nat → ClassId) (dI : Nat → Nat → Nat) (cI cZ cO : ClassId) (aX aS a_settings aC a_letters a_passageOf a_cues a_rowOf a_firstOfRow aT a_times a_positions a_kept a_text d_aC c_aS a_history a_images a_imageKept : Nat) (p1 : Int32) (v_textLength : Int32) (v_faultKind : Int32) (v_faultPlace : Int32) (v_settings : (Nat → Int32)) (v_words : Int32) (v_passages : Int32) (v_wordsInPassage : Int32) (v_rows : Int32) (v_letters : (Nat → Int32)) (v_passageOf : (Nat → Int32)) (v_cues : (Nat → Int32)) (v_rowOf : (Nat → Int32)) (v_firstOfRow : (Nat → Int32)) (v_pairs : Int32) (v_times : (Nat → Int32)) (v_positions : (Nat → Int32)) (v_kept : (Nat → Int32)) (v_keptCount : Int32) (v_position : Int32) (v_speed : Int32) (v_time : Int32) (v_heardTime : Int32) (v_top : Int32) (v_skips : Int32) (v_repeats : Int32) (v_misses : Int32) (v_jerks : Int32) (v_overruns : Int32) (v_undoable : Int32) (r : Int32) (hF : f_X3_setting p1 v_settings = some r) : Met l yX3_setting wsX3_setting rm_X3_setting (va_Pc [.ref aX, .int p1] (rdW dC dI cI cZ cO [(aX, .inr (3, [.ref a_text, .int v_textLength, .int v_faultKind, .int v_faultPlace, .ref d_aC, .ref aS, .ref c_aS, .ref a_history, .int v_undoable, .ref a_images, .ref a_imageKept])), (aS, .inr (1, [.ref a_settings, .ref aC, .ref aT, .ref a_kept, .int v_keptCount, .int v_position, .int v_speed, .int v_time, .int v_heardTime, .int v_top, .int v_skips, .int v_repeats, .int v_misses, .int v_jerks, .int v_overruns])), (a_settings, .inl (cI, 9, .inl v_settings)), (aC, .inr (0, [.int v_words, .int v_passages, .int v_wordsInPassage, .int v_rows, .ref a_letters, .ref a_passageOf, .ref a_cues, .ref a_rowOf, .ref a_firstOfRow])), (a_letters, .inl (cI, 120, .inl v_letters)), (a_passageOf, .inl (cI, 120, .inl v_passageOf)), (a_cues, .inl (cI, 120, .inl v_cues)), (a_rowOf, .inl (cI, 120, .inl v_rowOf)), (a_firstOfRow, .inl (cI, 120, .inl v_firstOfRow)), (aT, .inr (2, [.int v_pairs, .ref a_times, .ref a_positions])), (a_times, .inl (cI, 61, .inl v_times)), (a_positions, .inl (cI, 61, .inl v_positions)), (a_kept, .inl (cI, 4, .inl v_kept))])) (vp_Si (fun q => r = q)) 0 0 (fun _ => False) := by
  refine Met.ofW (cc := cX3_setting) (maxL := 2) (ret := (some .int)) (by decide) rfl ?_
  intro p e s m args below meth c s₁ B hml hv
  obtain ⟨rfl, hP, hK, hN⟩ := hv
  have hx := B.exec
  have hb := B.bytes
  have hr := B.returns
  have hts := atoms_spec (ws := wsX3_setting) B.pre
  have hown : s.vm.findClass RX3 = some m.cls := findClass_of_methodNamed B.named
  have hlocks := B.notSynchronized
  obtain ⟨Q, hQ⟩ : ∃ Q, Q = MQ below (vp_Si (fun q => r = q)) ([.ref aX, .int p1] : List Value).toArray s 0 0 (fun _ => False) := ⟨_, rfl⟩
  rw [← hQ]
  have hS : va_S (fun _ => False) s.heap s.heap [] := va_S.rf
  have fl23 := hts (.fieldLink RX3 23 "Teleprompter" "now" "LTeleprompter$State;") (by decide +kernel)
  have fl44 := hts (.fieldLink RX3 44 "Teleprompter$State" "settings" "[I") (by decide +kernel)
  have inX3 : ∀ w ∈ u_ws RX3 TX3 11, w ∈ wsX3_setting := by decide +kernel
  have inX1 : ∀ w ∈ u_ws RX1 TX1 15, w ∈ wsX3_setting := by decide +kernel
  have hl := lv_entry ([.ref aX, .int p1]) (n := 2) (Nat.le_of_ble_eq_true rfl)
  rw [lg_entry_eq]
  generalize (lg_sl ([.ref aX, .int p1]) ++ List.replicate (2 - (lg_sl ([.ref aX, .int p1])).length) Slot.unset).toArray = ls at hl ⊢
  have hl : lv_has ls 2 [(0, .ref aX), (1, .int p1)] := hl
  unfold f_X3_setting at hF
  refine lv_iload_n hx hb dX3_setting_0 rfl (lv_at hl 1 rfl) ?_
  obtain ⟨q_1, hq_1, hF⟩ := bindE hF
  have hPc := hP.sub (ws' := []) [] rfl
  refine vp_callSi (va_Run.run (va_runS (As := [.int p1]) (rest := []) ⟨hx, hb, hml, hown, hts⟩ (c_X3_isSetting l dC dI cI cZ cO p1 q_1 hq_1) (cwS 1 hts gX3_setting_X3_isSetting rfl rfl rfl (by decide +kernel) ⟨Nat.le_of_ble_eq_true rfl, Nat.le_of_ble_eq_true rfl⟩) ⟨fb_rd, pre_rd hPc hK hN⟩ rfl rfl hl.1 rfl (lv_room (Nat.le_of_ble_eq_true rfl)) dX3_setting_1 ⟨Nat.zero_le _, Nat.zero_le _⟩)) (fun z_1 hz_1 => ?_)
  subst hz_1
  refine lv_if_eq (tgt := 21) hx hb dX3_setting_4 (by decide) (fun c_4 => ?_) (fun c_4 => ?_)
  · have hF := (if_pos c_4).symm.trans hF
    refine lv_iconst (v := (-1 : Int32)) hx hb dX3_setting_21 (by decide) ?_
    have hF : some (-1 : Int32) = some r := hF
    cases hF
    subst hQ
    exact W.iret hx hb hr (fun t ht hW => ⟨_, rfl, rfl, ht⟩) (fun q hq => absurd hq List.not_mem_nil) dX3_setting_22
  · have hF := (if_neg c_4).symm.trans hF
    refine lv_aload_n hx hb dX3_setting_7 rfl (lv_at hl 0 rfl) ?_
    refine va_get (D := (dC, dI)) (ci := 3) (v := .ref aS) (C := RX3) (T := TX3) (N := 11) hx hb hts inX3 hown hK hP 0 rfl rfl 5 (by decide) fl23 (fun _ h9 => h9) rfl dX3_setting_8 ?_
    refine va_get (D := (dC, dI)) (ci := 1) (v := .ref a_settings) (C := RX1) (T := TX1) (N := 15) hx hb hts inX1 hown hK hP 1 rfl rfl 0 (by decide) fl44 (fun _ h9 => h9) rfl dX3_setting_11 ?_
    refine lv_iload_n hx hb dX3_setting_14 rfl (lv_at hl 1 rfl) ?_
    obtain ⟨q_15, hq_15, hF⟩ := bindE hF
    have hPc := hP.sub (ws' := [(a_settings, .inl (cI, 9, .inl v_settings))]) [2] rfl
    refine vp_callSi (va_Run.run (va_runS (As := [.ref a_settings, .int p1]) (rest := []) ⟨hx, hb, hml, hown, hts⟩ (c_X3_at l dC dI cI cZ cO a_settings 9 p1 v_settings q_15 hq_15) (cwS 2 hts gX3_setting_X3_at rfl rfl rfl (by decide +kernel) ⟨Nat.le_of_ble_eq_true rfl, Nat.le_of_ble_eq_true rfl⟩) ⟨fb_rd, pre_rd hPc hK hN⟩ rfl rfl hl.1 rfl (lv_room (Nat.le_of_ble_eq_true rfl)) dX3_setting_15 ⟨Nat.zero_le _, Nat.zero_le _⟩)) (fun z_15 hz_15 => ?_)
    subst hz_15
    refine lv_goto (tgt := 22) hx hb dX3_setting_18 (by decide) ?_
    have hF : some q_15 = some r := hF
    cases hF
    subst hQ
    exact W.iret hx hb hr (fun t ht hW => ⟨_, rfl, rfl, ht⟩) (fun q hq => absurd hq List.not_mem_nil) dX3_setting_22
def f_X3_word (p1 : Int32) (p2 : Int32) (v_settings : (Nat → Int32)) (v_words : Int32) (v_letters : (Nat → Int32)) (v_passageOf : (Nat → Int32)) (v_cues : (Nat → Int32)) (v_rowOf : (Nat → Int32)) (v_top : Int32) : Option Int32 :=
  (f_X0_has p1 v_words).bind fun q10 =>
  if q10 = (0 : Int32) then
    some (-1 : Int32)
  else
    if p2 = (0 : Int32) then
      (f_X3_at 120 p1 v_letters).bind fun q57 =>
      some q57
    else if p2 = (1 : Int32) then
      (f_X3_at 120 p1 v_rowOf).bind fun q66 =>
      some q66
    else if p2 = (2 : Int32) then
      (f_X3_at 120 p1 v_passageOf).bind fun q75 =>
      some q75
    else if p2 = (3 : Int32) then
      (f_X3_at 120 p1 v_cues).bind fun q84 =>
      some q84
    else if p2 = (4 : Int32) then
      (f_X3_at 120 p1 v_rowOf).bind fun q97 =>
      (f_X1_shows q97 v_settings v_top).bind fun q100 =>
      if q100 = (0 : Int32) then
        some (0 : Int32)
      else
        some (1 : Int32)
    else some (-1 : Int32)
def rm_X3_word : Room := { frames := 3, cells := 0, slots := 0, locals := 62 }
set_option maxHeartbeats 4000000 in
set_option maxRecDepth 100000 in
theorem c_X3_word (l : Launch) (dC : Nat → ClassId) (dI : Nat → Nat → Nat) (cI cZ cO : ClassId) (aX aS a_settings aC a_letters a_passageOf a_cues a_rowOf a_firstOfRow aT a_times a_positions a_kept a_text d_aC c_aS a_history a_images a_imageKept : Nat) (p1 : Int32) (p2 : Int32) (v_textLength : Int32) (v_faultKind : Int32) (v_faultPlace : Int32) (v_settings : (Nat → Int32)) (v_words : Int32) (v_passages : Int32) (v_wordsInPassage : Int32) (v_rows : Int32) (v_letters : (Nat → Int32)) (v_passageOf : (Nat → Int32)) (v_cues : (Nat → Int32)) (v_rowOf : (Nat → Int32)) (v_firstOfRow : (Nat → Int32)) (v_pairs : Int32) (v_times : (Nat → Int32)) (v_positions : (Nat → Int32)) (v_kept : (Nat → Int32)) (v_keptCount : Int32) (v_position : Int32) (v_speed : Int32) (v_time : Int32) (v_heardTime : Int32) (v_top : Int32) (v_skips : Int32) (v_repeats : Int32) (v_misses : Int32) (v_jerks : Int32) (v_overruns : Int32) (v_undoable : Int32) (r : Int32) (hF : f_X3_word p1 p2 v_settings v_words v_letters v_passageOf v_cues v_rowOf v_top = some r) : Met l yX3_word wsX3_word rm_X3_word (va_Pc [.ref aX, .int p1, .int p2] (rdW dC dI cI cZ cO [(aX, .inr (3, [.ref a_text, .int v_textLength, .int v_faultKind, .int v_faultPlace, .ref d_aC, .ref aS, .ref c_aS, .ref a_history, .int v_undoable, .ref a_images, .ref a_imageKept])), (aS, .inr (1, [.ref a_settings, .ref aC, .ref aT, .ref a_kept, .int v_keptCount, .int v_position, .int v_speed, .int v_time, .int v_heardTime, .int v_top, .int v_skips, .int v_repeats, .int v_misses, .int v_jerks, .int v_overruns])), (a_settings, .inl (cI, 9, .inl v_settings)), (aC, .inr (0, [.int v_words, .int v_passages, .int v_wordsInPassage, .int v_rows, .ref a_letters, .ref a_passageOf, .ref a_cues, .ref a_rowOf, .ref a_firstOfRow])), (a_letters, .inl (cI, 120, .inl v_letters)), (a_passageOf, .inl (cI, 120, .inl v_passageOf)), (a_cues, .inl (cI, 120, .inl v_cues)), (a_rowOf, .inl (cI, 120, .inl v_rowOf)), (a_firstOfRow, .inl (cI, 120, .inl v_firstOfRow)), (aT, .inr (2, [.int v_pairs, .ref a_times, .ref a_positions])), (a_times, .inl (cI, 61, .inl v_times)), (a_positions, .inl (cI, 61, .inl v_positions)), (a_kept, .inl (cI, 4, .inl v_kept))])) (vp_Si (fun q => r = q)) 0 0 (fun _ => False) := by
  refine Met.ofW (cc := cX3_word) (maxL := 4) (ret := (some .int)) (by decide) rfl ?_
  intro p e s m args below meth c s₁ B hml hv
  obtain ⟨rfl, hP, hK, hN⟩ := hv
  have hx := B.exec
  have hb := B.bytes
  have hr := B.returns
  have hts := atoms_spec (ws := wsX3_word) B.pre
  have hown : s.vm.findClass RX3 = some m.cls := findClass_of_methodNamed B.named
  have hlocks := B.notSynchronized
  obtain ⟨Q, hQ⟩ : ∃ Q, Q = MQ below (vp_Si (fun q => r = q)) ([.ref aX, .int p1, .int p2] : List Value).toArray s 0 0 (fun _ => False) := ⟨_, rfl⟩
  rw [← hQ]
  have hS : va_S (fun _ => False) s.heap s.heap [] := va_S.rf
  have fl23 := hts (.fieldLink RX3 23 "Teleprompter" "now" "LTeleprompter$State;") (by decide +kernel)
  have fl69 := hts (.fieldLink RX3 69 "Teleprompter$State" "script" "LTeleprompter$Script;") (by decide +kernel)
  have fl196 := hts (.fieldLink RX3 196 "Teleprompter$Script" "letters" "[I") (by decide +kernel)
  have fl199 := hts (.fieldLink RX3 199 "Teleprompter$Script" "rowOf" "[I") (by decide +kernel)
  have fl202 := hts (.fieldLink RX3 202 "Teleprompter$Script" "passageOf" "[I") (by decide +kernel)
  have fl205 := hts (.fieldLink RX3 205 "Teleprompter$Script" "cues" "[I") (by decide +kernel)
  have inX3 : ∀ w ∈ u_ws RX3 TX3 11, w ∈ wsX3_word := by decide +kernel
  have inX1 : ∀ w ∈ u_ws RX1 TX1 15, w ∈ wsX3_word := by decide +kernel
  have inX0 : ∀ w ∈ u_ws RX0 TX0 9, w ∈ wsX3_word := by decide +kernel
  have hl := lv_entry ([.ref aX, .int p1, .int p2]) (n := 4) (Nat.le_of_ble_eq_true rfl)
  rw [lg_entry_eq]
  generalize (lg_sl ([.ref aX, .int p1, .int p2]) ++ List.replicate (4 - (lg_sl ([.ref aX, .int p1, .int p2])).length) Slot.unset).toArray = ls at hl ⊢
  have hl : lv_has ls 4 [(0, .ref aX), (1, .int p1), (2, .int p2)] := hl
  unfold f_X3_word at hF
  refine lv_aload_n hx hb dX3_word_0 rfl (lv_at hl 0 rfl) ?_
  refine va_get (D := (dC, dI)) (ci := 3) (v := .ref aS) (C := RX3) (T := TX3) (N := 11) hx hb hts inX3 hown hK hP 0 rfl rfl 5 (by decide) fl23 (fun _ h9 => h9) rfl dX3_word_1 ?_
  refine va_get (D := (dC, dI)) (ci := 1) (v := .ref aC) (C := RX1) (T := TX1) (N := 15) hx hb hts inX1 hown hK hP 1 rfl rfl 1 (by decide) fl69 (fun _ h9 => h9) rfl dX3_word_4 ?_
  refine lv_astore_n (lv' := [(3, .ref aC), (0, .ref aX), (1, .int p1), (2, .int p2)]) hx hb dX3_word_7 rfl hl (by decide) rfl (fun ls hl => ?_)
  refine lv_aload_n hx hb dX3_word_8 rfl (lv_at hl 0 rfl) ?_
  refine lv_iload_n hx hb dX3_word_9 rfl (lv_at hl 2 rfl) ?_
  obtain ⟨q_10, hq_10, hF⟩ := bindE hF
  have hPc := hP.sub (ws' := [(aC, .inr (0, [.int v_words, .int v_passages, .int v_wordsInPassage, .int v_rows, .ref a_letters, .ref a_passageOf, .ref a_cues, .ref a_rowOf, .ref a_firstOfRow])), (a_letters, .inl (cI, 120, .inl v_letters)), (a_passageOf, .inl (cI, 120, .inl v_passageOf)), (a_cues, .inl (cI, 120, .inl v_cues)), (a_rowOf, .inl (cI, 120, .inl v_rowOf)), (a_firstOfRow, .inl (cI, 120, .inl v_firstOfRow))]) [3, 4, 5, 6, 7, 8] rfl
  refine vp_callSi (va_Run.run (va_runV (As := [.int p1]) (rest := []) ⟨hx, hb, hml, hown, hts⟩ (c_X0_has l dC dI cI cZ cO aC a_letters a_passageOf a_cues a_rowOf a_firstOfRow p1 v_words v_passages v_wordsInPassage v_rows v_letters v_passageOf v_cues v_rowOf v_firstOfRow q_10 hq_10) (cwV 1 hts gX3_word_X0_has rfl rfl rfl (by decide +kernel) ⟨Nat.le_of_ble_eq_true rfl, Nat.le_of_ble_eq_true rfl⟩) ⟨fb_rd, va_recv hK hPc (ci := 0) (q0 := 0) rfl rfl, pre_rd hPc hK hN⟩ rfl rfl hl.1 rfl (lv_room (Nat.le_of_ble_eq_true rfl)) dX3_word_10 ⟨Nat.zero_le _, Nat.zero_le _⟩)) (fun z_10 hz_10 => ?_)
  subst hz_10
  refine lv_if_ne (tgt := 18) hx hb dX3_word_13 (by decide) (fun c_13 => ?_) (fun c_13 => ?_)
  · have hF := (if_neg c_13).symm.trans hF
    refine lv_iload_n hx hb dX3_word_18 rfl (lv_at hl 3 rfl) ?_
    by_cases c_19_0 : p2 = (0 : Int32)
    · have hF := (if_pos c_19_0).symm.trans hF
      refine lv_tableIn (tgt := 52) (off := 33) hx hb dX3_word_19 (by rw [c_19_0]; decide) (by rw [c_19_0]; decide) (by rw [c_19_0]; rfl) (by decide) ?_
      refine lv_aload_n hx hb dX3_word_52 rfl (lv_at hl 0 rfl) ?_
      refine va_get (D := (dC, dI)) (ci := 0) (v := .ref a_letters) (C := RX0) (T := TX0) (N := 9) hx hb hts inX0 hown hK hP 3 rfl rfl 4 (by decide) fl196 (fun _ h9 => h9) rfl dX3_word_53 ?_
      refine lv_iload_n hx hb dX3_word_56 rfl (lv_at hl 2 rfl) ?_
      obtain ⟨q_57, hq_57, hF⟩ := bindE hF
      have hPc := hP.sub (ws' := [(a_letters, .inl (cI, 120, .inl v_letters))]) [4] rfl
      refine vp_callSi (va_Run.run (va_runS (As := [.ref a_letters, .int p1]) (rest := []) ⟨hx, hb, hml, hown, hts⟩ (c_X3_at l dC dI cI cZ cO a_letters 120 p1 v_letters q_57 hq_57) (cwS 2 hts gX3_word_X3_at rfl rfl rfl (by decide +kernel) ⟨Nat.le_of_ble_eq_true rfl, Nat.le_of_ble_eq_true rfl⟩) ⟨fb_rd, pre_rd hPc hK hN⟩ rfl rfl hl.1 rfl (lv_room (Nat.le_of_ble_eq_true rfl)) dX3_word_57 ⟨Nat.zero_le _, Nat.zero_le _⟩)) (fun z_57 hz_57 => ?_)
      subst hz_57
      have hF : some q_57 = some r := hF
      cases hF
      subst hQ
      exact W.iret hx hb hr (fun t ht hW => ⟨_, rfl, rfl, ht⟩) (fun q hq => absurd hq List.not_mem_nil) dX3_word_60
    have hF := (if_neg c_19_0).symm.trans hF
    by_cases c_19_1 : p2 = (1 : Int32)
    · have hF := (if_pos c_19_1).symm.trans hF
      refine lv_tableIn (tgt := 61) (off := 42) hx hb dX3_word_19 (by rw [c_19_1]; decide) (by rw [c_19_1]; decide) (by rw [c_19_1]; rfl) (by decide) ?_
      refine lv_aload_n hx hb dX3_word_61 rfl (lv_at hl 0 rfl) ?_
      refine va_get (D := (dC, dI)) (ci := 0) (v := .ref a_rowOf) (C := RX0) (T := TX0) (N := 9) hx hb hts inX0 hown hK hP 3 rfl rfl 7 (by decide) fl199 (fun _ h9 => h9) rfl dX3_word_62 ?_
      refine lv_iload_n hx hb dX3_word_65 rfl (lv_at hl 2 rfl) ?_
      obtain ⟨q_66, hq_66, hF⟩ := bindE hF
      have hPc := hP.sub (ws' := [(a_rowOf, .inl (cI, 120, .inl v_rowOf))]) [7] rfl
      refine vp_callSi (va_Run.run (va_runS (As := [.ref a_rowOf, .int p1]) (rest := []) ⟨hx, hb, hml, hown, hts⟩ (c_X3_at l dC dI cI cZ cO a_rowOf 120 p1 v_rowOf q_66 hq_66) (cwS 2 hts gX3_word_X3_at rfl rfl rfl (by decide +kernel) ⟨Nat.le_of_ble_eq_true rfl, Nat.le_of_ble_eq_true rfl⟩) ⟨fb_rd, pre_rd hPc hK hN⟩ rfl rfl hl.1 rfl (lv_room (Nat.le_of_ble_eq_true rfl)) dX3_word_66 ⟨Nat.zero_le _, Nat.zero_le _⟩)) (fun z_66 hz_66 => ?_)
      subst hz_66
      have hF : some q_66 = some r := hF
      cases hF
      subst hQ
      exact W.iret hx hb hr (fun t ht hW => ⟨_, rfl, rfl, ht⟩) (fun q hq => absurd hq List.not_mem_nil) dX3_word_69
    have hF := (if_neg c_19_1).symm.trans hF
    by_cases c_19_2 : p2 = (2 : Int32)
    · have hF := (if_pos c_19_2).symm.trans hF
      refine lv_tableIn (tgt := 70) (off := 51) hx hb dX3_word_19 (by rw [c_19_2]; decide) (by rw [c_19_2]; decide) (by rw [c_19_2]; rfl) (by decide) ?_
      refine lv_aload_n hx hb dX3_word_70 rfl (lv_at hl 0 rfl) ?_
      refine va_get (D := (dC, dI)) (ci := 0) (v := .ref a_passageOf) (C := RX0) (T := TX0) (N := 9) hx hb hts inX0 hown hK hP 3 rfl rfl 5 (by decide) fl202 (fun _ h9 => h9) rfl dX3_word_71 ?_
      refine lv_iload_n hx hb dX3_word_74 rfl (lv_at hl 2 rfl) ?_
      obtain ⟨q_75, hq_75, hF⟩ := bindE hF
      have hPc := hP.sub (ws' := [(a_passageOf, .inl (cI, 120, .inl v_passageOf))]) [5] rfl
      refine vp_callSi (va_Run.run (va_runS (As := [.ref a_passageOf, .int p1]) (rest := []) ⟨hx, hb, hml, hown, hts⟩ (c_X3_at l dC dI cI cZ cO a_passageOf 120 p1 v_passageOf q_75 hq_75) (cwS 2 hts gX3_word_X3_at rfl rfl rfl (by decide +kernel) ⟨Nat.le_of_ble_eq_true rfl, Nat.le_of_ble_eq_true rfl⟩) ⟨fb_rd, pre_rd hPc hK hN⟩ rfl rfl hl.1 rfl (lv_room (Nat.le_of_ble_eq_true rfl)) dX3_word_75 ⟨Nat.zero_le _, Nat.zero_le _⟩)) (fun z_75 hz_75 => ?_)
      subst hz_75
      have hF : some q_75 = some r := hF
      cases hF
      subst hQ
      exact W.iret hx hb hr (fun t ht hW => ⟨_, rfl, rfl, ht⟩) (fun q hq => absurd hq List.not_mem_nil) dX3_word_78
    have hF := (if_neg c_19_2).symm.trans hF
    by_cases c_19_3 : p2 = (3 : Int32)
    · have hF := (if_pos c_19_3).symm.trans hF
      refine lv_tableIn (tgt := 79) (off := 60) hx hb dX3_word_19 (by rw [c_19_3]; decide) (by rw [c_19_3]; decide) (by rw [c_19_3]; rfl) (by decide) ?_
      refine lv_aload_n hx hb dX3_word_79 rfl (lv_at hl 0 rfl) ?_
      refine va_get (D := (dC, dI)) (ci := 0) (v := .ref a_cues) (C := RX0) (T := TX0) (N := 9) hx hb hts inX0 hown hK hP 3 rfl rfl 6 (by decide) fl205 (fun _ h9 => h9) rfl dX3_word_80 ?_
      refine lv_iload_n hx hb dX3_word_83 rfl (lv_at hl 2 rfl) ?_
      obtain ⟨q_84, hq_84, hF⟩ := bindE hF
      have hPc := hP.sub (ws' := [(a_cues, .inl (cI, 120, .inl v_cues))]) [6] rfl
      refine vp_callSi (va_Run.run (va_runS (As := [.ref a_cues, .int p1]) (rest := []) ⟨hx, hb, hml, hown, hts⟩ (c_X3_at l dC dI cI cZ cO a_cues 120 p1 v_cues q_84 hq_84) (cwS 2 hts gX3_word_X3_at rfl rfl rfl (by decide +kernel) ⟨Nat.le_of_ble_eq_true rfl, Nat.le_of_ble_eq_true rfl⟩) ⟨fb_rd, pre_rd hPc hK hN⟩ rfl rfl hl.1 rfl (lv_room (Nat.le_of_ble_eq_true rfl)) dX3_word_84 ⟨Nat.zero_le _, Nat.zero_le _⟩)) (fun z_84 hz_84 => ?_)
      subst hz_84
      have hF : some q_84 = some r := hF
      cases hF
      subst hQ
      exact W.iret hx hb hr (fun t ht hW => ⟨_, rfl, rfl, ht⟩) (fun q hq => absurd hq List.not_mem_nil) dX3_word_87
    have hF := (if_neg c_19_3).symm.trans hF
    by_cases c_19_4 : p2 = (4 : Int32)
    · have hF := (if_pos c_19_4).symm.trans hF
      refine lv_tableIn (tgt := 88) (off := 69) hx hb dX3_word_19 (by rw [c_19_4]; decide) (by rw [c_19_4]; decide) (by rw [c_19_4]; rfl) (by decide) ?_
      refine lv_aload_n hx hb dX3_word_88 rfl (lv_at hl 1 rfl) ?_
      refine va_get (D := (dC, dI)) (ci := 3) (v := .ref aS) (C := RX3) (T := TX3) (N := 11) hx hb hts inX3 hown hK hP 0 rfl rfl 5 (by decide) fl23 (fun _ h9 => h9) rfl dX3_word_89 ?_
      refine lv_aload_n hx hb dX3_word_92 rfl (lv_at hl 0 rfl) ?_
      refine va_get (D := (dC, dI)) (ci := 0) (v := .ref a_rowOf) (C := RX0) (T := TX0) (N := 9) hx hb hts inX0 hown hK hP 3 rfl rfl 7 (by decide) fl199 (fun _ h9 => h9) rfl dX3_word_93 ?_
      refine lv_iload_n hx hb dX3_word_96 rfl (lv_at hl 2 rfl) ?_
      obtain ⟨q_97, hq_97, hF⟩ := bindE hF
      have hPc := hP.sub (ws' := [(a_rowOf, .inl (cI, 120, .inl v_rowOf))]) [7] rfl
      refine vp_callSi (va_Run.run (va_runS (As := [.ref a_rowOf, .int p1]) (rest := [.ref aS]) ⟨hx, hb, hml, hown, hts⟩ (c_X3_at l dC dI cI cZ cO a_rowOf 120 p1 v_rowOf q_97 hq_97) (cwS 2 hts gX3_word_X3_at rfl rfl rfl (by decide +kernel) ⟨Nat.le_of_ble_eq_true rfl, Nat.le_of_ble_eq_true rfl⟩) ⟨fb_rd, pre_rd hPc hK hN⟩ rfl rfl hl.1 rfl (lv_room (Nat.le_of_ble_eq_true rfl)) dX3_word_97 ⟨Nat.zero_le _, Nat.zero_le _⟩)) (fun z_97 hz_97 => ?_)
      subst hz_97
      obtain ⟨q_100, hq_100, hF⟩ := bindE hF
      have hPc := hP.sub (ws' := [(aS, .inr (1, [.ref a_settings, .ref aC, .ref aT, .ref a_kept, .int v_keptCount, .int v_position, .int v_speed, .int v_time, .int v_heardTime, .int v_top, .int v_skips, .int v_repeats, .int v_misses, .int v_jerks, .int v_overruns])), (a_settings, .inl (cI, 9, .inl v_settings)), (aC, .inr (0, [.int v_words, .int v_passages, .int v_wordsInPassage, .int v_rows, .ref a_letters, .ref a_passageOf, .ref a_cues, .ref a_rowOf, .ref a_firstOfRow])), (a_letters, .inl (cI, 120, .inl v_letters)), (a_passageOf, .inl (cI, 120, .inl v_passageOf)), (a_cues, .inl (cI, 120, .inl v_cues)), (a_rowOf, .inl (cI, 120, .inl v_rowOf)), (a_firstOfRow, .inl (cI, 120, .inl v_firstOfRow)), (aT, .inr (2, [.int v_pairs, .ref a_times, .ref a_positions])), (a_times, .inl (cI, 61, .inl v_times)), (a_positions, .inl (cI, 61, .inl v_positions)), (a_kept, .inl (cI, 4, .inl v_kept))]) [1, 2, 3, 4, 5, 6, 7, 8, 9, 10, 11, 12] rfl
      refine vp_callSi (va_Run.run (va_runV (As := [.int q_97]) (rest := []) ⟨hx, hb, hml, hown, hts⟩ (c_X1_shows l dC dI cI cZ cO aS a_settings aC a_letters a_passageOf a_cues a_rowOf a_firstOfRow aT a_times a_positions a_kept q_97 v_settings v_words v_passages v_wordsInPassage v_rows v_letters v_passageOf v_cues v_rowOf v_firstOfRow v_pairs v_times v_positions v_kept v_keptCount v_position v_speed v_time v_heardTime v_top v_skips v_repeats v_misses v_jerks v_overruns q_100 hq_100) (cwV 1 hts gX3_word_X1_shows rfl rfl rfl (by decide +kernel) ⟨Nat.le_of_ble_eq_true rfl, Nat.le_of_ble_eq_true rfl⟩) ⟨fb_rd, va_recv hK hPc (ci := 1) (q0 := 0) rfl rfl, pre_rd hPc hK hN⟩ rfl rfl hl.1 rfl (lv_room (Nat.le_of_ble_eq_true rfl)) dX3_word_100 ⟨Nat.zero_le _, Nat.zero_le _⟩)) (fun z_100 hz_100 => ?_)
      subst hz_100
      refine lv_if_eq (tgt := 110) hx hb dX3_word_103 (by decide) (fun c_103 => ?_) (fun c_103 => ?_)
      · have hF := (if_pos c_103).symm.trans hF
        refine lv_iconst (v := (0 : Int32)) hx hb dX3_word_110 (by decide) ?_
        have hF : some (0 : Int32) = some r := hF
        cases hF
        subst hQ
        exact W.iret hx hb hr (fun t ht hW => ⟨_, rfl, rfl, ht⟩) (fun q hq => absurd hq List.not_mem_nil) dX3_word_111
      · have hF := (if_neg c_103).symm.trans hF
        refine lv_iconst (v := (1 : Int32)) hx hb dX3_word_106 (by decide) ?_
        refine lv_goto (tgt := 111) hx hb dX3_word_107 (by decide) ?_
        have hF : some (1 : Int32) = some r := hF
        cases hF
        subst hQ
        exact W.iret hx hb hr (fun t ht hW => ⟨_, rfl, rfl, ht⟩) (fun q hq => absurd hq List.not_mem_nil) dX3_word_111
    have hF := (if_neg c_19_4).symm.trans hF
    refine lv_tableOut (tgt := 112) hx hb dX3_word_19 (tsOut (by decide) (by decide) (by
        intro k h1 h2; rcases (show k = 0 ∨ k = 1 ∨ k = 2 ∨ k = 3 ∨ k = 4 by omega) with rfl | rfl | rfl | rfl | rfl
        · exact c_19_0
        · exact c_19_1
        · exact c_19_2
        · exact c_19_3
        · exact c_19_4
        )) (by decide) ?_
    refine lv_iconst (v := (-1 : Int32)) hx hb dX3_word_112 (by decide) ?_
    have hF : some (-1 : Int32) = some r := hF
    cases hF
    subst hQ
    exact W.iret hx hb hr (fun t ht hW => ⟨_, rfl, rfl, ht⟩) (fun q hq => absurd hq List.not_mem_nil) dX3_word_113
  · have hF := (if_pos c_13).symm.trans hF
    refine lv_iconst (v := (-1 : Int32)) hx hb dX3_word_16 (by decide) ?_
    have hF : some (-1 : Int32) = some r := hF
    cases hF
    subst hQ
    exact W.iret hx hb hr (fun t ht hW => ⟨_, rfl, rfl, ht⟩) (fun q hq => absurd hq List.not_mem_nil) dX3_word_17
def f_X3_row (p1 : Int32) (p2 : Int32) (v_words : Int32) (v_rows : Int32) (v_firstOfRow : (Nat → Int32)) : Option Int32 :=
  if p1 < (0 : Int32) then
    some (-1 : Int32)
  else
    if v_rows ≤ p1 then
      some (-1 : Int32)
    else
      if p2 < (0 : Int32) then
        some (-1 : Int32)
      else
        if p2 ≤ (1 : Int32) then
          if p2 = (0 : Int32) then
            (f_X3_at 120 p1 v_firstOfRow).bind fun q44 =>
            some q44
          else
            (f_X0_rowLength p1 v_words v_rows v_firstOfRow).bind fun q58 =>
            some q58
        else
          some (-1 : Int32)
def rm_X3_row : Room := { frames := 2, cells := 0, slots := 0, locals := 43 }
set_option maxHeartbeats 4000000 in
set_option maxRecDepth 100000 in
theorem c_X3_row (l : Launch) (dC : Nat → ClassId) (dI : Nat → Nat → Nat) (cI cZ cO : ClassId) (aX aS a_settings aC a_letters a_passageOf a_cues a_rowOf a_firstOfRow aT a_times a_positions a_kept a_text d_aC c_aS a_history a_images a_imageKept : Nat) (p1 : Int32) (p2 : Int32) (v_textLength : Int32) (v_faultKind : Int32) (v_faultPlace : Int32) (v_settings : (Nat → Int32)) (v_words : Int32) (v_passages : Int32) (v_wordsInPassage : Int32) (v_rows : Int32) (v_letters : (Nat → Int32)) (v_passageOf : (Nat → Int32)) (v_cues : (Nat → Int32)) (v_rowOf : (Nat → Int32)) (v_firstOfRow : (Nat → Int32)) (v_pairs : Int32) (v_times : (Nat → Int32)) (v_positions : (Nat → Int32)) (v_kept : (Nat → Int32)) (v_keptCount : Int32) (v_position : Int32) (v_speed : Int32) (v_time : Int32) (v_heardTime : Int32) (v_top : Int32) (v_skips : Int32) (v_repeats : Int32) (v_misses : Int32) (v_jerks : Int32) (v_overruns : Int32) (v_undoable : Int32) (r : Int32) (hF : f_X3_row p1 p2 v_words v_rows v_firstOfRow = some r) : Met l yX3_row wsX3_row rm_X3_row (va_Pc [.ref aX, .int p1, .int p2] (rdW dC dI cI cZ cO [(aX, .inr (3, [.ref a_text, .int v_textLength, .int v_faultKind, .int v_faultPlace, .ref d_aC, .ref aS, .ref c_aS, .ref a_history, .int v_undoable, .ref a_images, .ref a_imageKept])), (aS, .inr (1, [.ref a_settings, .ref aC, .ref aT, .ref a_kept, .int v_keptCount, .int v_position, .int v_speed, .int v_time, .int v_heardTime, .int v_top, .int v_skips, .int v_repeats, .int v_misses, .int v_jerks, .int v_overruns])), (a_settings, .inl (cI, 9, .inl v_settings)), (aC, .inr (0, [.int v_words, .int v_passages, .int v_wordsInPassage, .int v_rows, .ref a_letters, .ref a_passageOf, .ref a_cues, .ref a_rowOf, .ref a_firstOfRow])), (a_letters, .inl (cI, 120, .inl v_letters)), (a_passageOf, .inl (cI, 120, .inl v_passageOf)), (a_cues, .inl (cI, 120, .inl v_cues)), (a_rowOf, .inl (cI, 120, .inl v_rowOf)), (a_firstOfRow, .inl (cI, 120, .inl v_firstOfRow)), (aT, .inr (2, [.int v_pairs, .ref a_times, .ref a_positions])), (a_times, .inl (cI, 61, .inl v_times)), (a_positions, .inl (cI, 61, .inl v_positions)), (a_kept, .inl (cI, 4, .inl v_kept))])) (vp_Si (fun q => r = q)) 0 0 (fun _ => False) := by
  refine Met.ofW (cc := cX3_row) (maxL := 3) (ret := (some .int)) (by decide) rfl ?_
  intro p e s m args below meth c s₁ B hml hv
  obtain ⟨rfl, hP, hK, hN⟩ := hv
  have hx := B.exec
  have hb := B.bytes
  have hr := B.returns
  have hts := atoms_spec (ws := wsX3_row) B.pre
  have hown : s.vm.findClass RX3 = some m.cls := findClass_of_methodNamed B.named
  have hlocks := B.notSynchronized
  obtain ⟨Q, hQ⟩ : ∃ Q, Q = MQ below (vp_Si (fun q => r = q)) ([.ref aX, .int p1, .int p2] : List Value).toArray s 0 0 (fun _ => False) := ⟨_, rfl⟩
  rw [← hQ]
  have hS : va_S (fun _ => False) s.heap s.heap [] := va_S.rf
  have fl23 := hts (.fieldLink RX3 23 "Teleprompter" "now" "LTeleprompter$State;") (by decide +kernel)
  have fl69 := hts (.fieldLink RX3 69 "Teleprompter$State" "script" "LTeleprompter$Script;") (by decide +kernel)
  have fl145 := hts (.fieldLink RX3 145 "Teleprompter$Script" "rows" "I") (by decide +kernel)
  have fl211 := hts (.fieldLink RX3 211 "Teleprompter$Script" "firstOfRow" "[I") (by decide +kernel)
  have inX3 : ∀ w ∈ u_ws RX3 TX3 11, w ∈ wsX3_row := by decide +kernel
  have inX1 : ∀ w ∈ u_ws RX1 TX1 15, w ∈ wsX3_row := by decide +kernel
  have inX0 : ∀ w ∈ u_ws RX0 TX0 9, w ∈ wsX3_row := by decide +kernel
  have hl := lv_entry ([.ref aX, .int p1, .int p2]) (n := 3) (Nat.le_of_ble_eq_true rfl)
  rw [lg_entry_eq]
  generalize (lg_sl ([.ref aX, .int p1, .int p2]) ++ List.replicate (3 - (lg_sl ([.ref aX, .int p1, .int p2])).length) Slot.unset).toArray = ls at hl ⊢
  have hl : lv_has ls 3 [(0, .ref aX), (1, .int p1), (2, .int p2)] := hl
  unfold f_X3_row at hF
  refine lv_iload_n hx hb dX3_row_0 rfl (lv_at hl 1 rfl) ?_
  refine lv_if_lt (tgt := 27) hx hb dX3_row_1 (by decide) (fun c_1 => ?_) (fun c_1 => ?_)
  · have hF := (if_pos c_1).symm.trans hF
    refine lv_iconst (v := (-1 : Int32)) hx hb dX3_row_27 (by decide) ?_
    have hF : some (-1 : Int32) = some r := hF
    cases hF
    subst hQ
    exact W.iret hx hb hr (fun t ht hW => ⟨_, rfl, rfl, ht⟩) (fun q hq => absurd hq List.not_mem_nil) dX3_row_28
  · have hF := (if_neg c_1).symm.trans hF
    refine lv_iload_n hx hb dX3_row_4 rfl (lv_at hl 1 rfl) ?_
    refine lv_aload_n hx hb dX3_row_5 rfl (lv_at hl 0 rfl) ?_
    refine va_get (D := (dC, dI)) (ci := 3) (v := .ref aS) (C := RX3) (T := TX3) (N := 11) hx hb hts inX3 hown hK hP 0 rfl rfl 5 (by decide) fl23 (fun _ h9 => h9) rfl dX3_row_6 ?_
    refine va_get (D := (dC, dI)) (ci := 1) (v := .ref aC) (C := RX1) (T := TX1) (N := 15) hx hb hts inX1 hown hK hP 1 rfl rfl 1 (by decide) fl69 (fun _ h9 => h9) rfl dX3_row_9 ?_
    refine va_get (D := (dC, dI)) (ci := 0) (v := .int v_rows) (C := RX0) (T := TX0) (N := 9) hx hb hts inX0 hown hK hP 3 rfl rfl 3 (by decide) fl145 (fun _ h9 => h9) rfl dX3_row_12 ?_
    refine lv_icmp_ge (tgt := 27) hx hb dX3_row_15 (by decide) (fun c_15 => ?_) (fun c_15 => ?_)
    · have hF := (if_pos c_15).symm.trans hF
      refine lv_iconst (v := (-1 : Int32)) hx hb dX3_row_27 (by decide) ?_
      have hF : some (-1 : Int32) = some r := hF
      cases hF
      subst hQ
      exact W.iret hx hb hr (fun t ht hW => ⟨_, rfl, rfl, ht⟩) (fun q hq => absurd hq List.not_mem_nil) dX3_row_28
    · have hF := (if_neg c_15).symm.trans hF
      refine lv_iload_n hx hb dX3_row_18 rfl (lv_at hl 2 rfl) ?_
      refine lv_if_lt (tgt := 27) hx hb dX3_row_19 (by decide) (fun c_19 => ?_) (fun c_19 => ?_)
      · have hF := (if_pos c_19).symm.trans hF
        refine lv_iconst (v := (-1 : Int32)) hx hb dX3_row_27 (by decide) ?_
        have hF : some (-1 : Int32) = some r := hF
        cases hF
        subst hQ
        exact W.iret hx hb hr (fun t ht hW => ⟨_, rfl, rfl, ht⟩) (fun q hq => absurd hq List.not_mem_nil) dX3_row_28
      · have hF := (if_neg c_19).symm.trans hF
        refine lv_iload_n hx hb dX3_row_22 rfl (lv_at hl 2 rfl) ?_
        refine lv_iconst (v := (1 : Int32)) hx hb dX3_row_23 (by decide) ?_
        refine lv_icmp_le (tgt := 29) hx hb dX3_row_24 (by decide) (fun c_24 => ?_) (fun c_24 => ?_)
        · have hF := (if_pos c_24).symm.trans hF
          refine lv_iload_n hx hb dX3_row_29 rfl (lv_at hl 2 rfl) ?_
          refine lv_if_ne (tgt := 50) hx hb dX3_row_30 (by decide) (fun c_30 => ?_) (fun c_30 => ?_)
          · have hF := (if_neg c_30).symm.trans hF
            refine lv_aload_n hx hb dX3_row_50 rfl (lv_at hl 0 rfl) ?_
            refine va_get (D := (dC, dI)) (ci := 3) (v := .ref aS) (C := RX3) (T := TX3) (N := 11) hx hb hts inX3 hown hK hP 0 rfl rfl 5 (by decide) fl23 (fun _ h9 => h9) rfl dX3_row_51 ?_
            refine va_get (D := (dC, dI)) (ci := 1) (v := .ref aC) (C := RX1) (T := TX1) (N := 15) hx hb hts inX1 hown hK hP 1 rfl rfl 1 (by decide) fl69 (fun _ h9 => h9) rfl dX3_row_54 ?_
            refine lv_iload_n hx hb dX3_row_57 rfl (lv_at hl 1 rfl) ?_
            obtain ⟨q_58, hq_58, hF⟩ := bindE hF
            have hPc := hP.sub (ws' := [(aC, .inr (0, [.int v_words, .int v_passages, .int v_wordsInPassage, .int v_rows, .ref a_letters, .ref a_passageOf, .ref a_cues, .ref a_rowOf, .ref a_firstOfRow])), (a_letters, .inl (cI, 120, .inl v_letters)), (a_passageOf, .inl (cI, 120, .inl v_passageOf)), (a_cues, .inl (cI, 120, .inl v_cues)), (a_rowOf, .inl (cI, 120, .inl v_rowOf)), (a_firstOfRow, .inl (cI, 120, .inl v_firstOfRow))]) [3, 4, 5, 6, 7, 8] rfl
            refine vp_callSi (va_Run.run (va_runV (As := [.int p1]) (rest := []) ⟨hx, hb, hml, hown, hts⟩ (c_X0_rowLength l dC dI cI cZ cO aC a_letters a_passageOf a_cues a_rowOf a_firstOfRow p1 v_words v_passages v_wordsInPassage v_rows v_letters v_passageOf v_cues v_rowOf v_firstOfRow q_58 hq_58) (cwV 1 hts gX3_row_X0_rowLength rfl rfl rfl (by decide +kernel) ⟨Nat.le_of_ble_eq_true rfl, Nat.le_of_ble_eq_true rfl⟩) ⟨fb_rd, va_recv hK hPc (ci := 0) (q0 := 0) rfl rfl, pre_rd hPc hK hN⟩ rfl rfl hl.1 rfl (lv_room (Nat.le_of_ble_eq_true rfl)) dX3_row_58 ⟨Nat.zero_le _, Nat.zero_le _⟩)) (fun z_58 hz_58 => ?_)
            subst hz_58
            have hF : some q_58 = some r := hF
            cases hF
            subst hQ
            exact W.iret hx hb hr (fun t ht hW => ⟨_, rfl, rfl, ht⟩) (fun q hq => absurd hq List.not_mem_nil) dX3_row_61
          · have hF := (if_pos c_30).symm.trans hF
            refine lv_aload_n hx hb dX3_row_33 rfl (lv_at hl 0 rfl) ?_
            refine va_get (D := (dC, dI)) (ci := 3) (v := .ref aS) (C := RX3) (T := TX3) (N := 11) hx hb hts inX3 hown hK hP 0 rfl rfl 5 (by decide) fl23 (fun _ h9 => h9) rfl dX3_row_34 ?_
            refine va_get (D := (dC, dI)) (ci := 1) (v := .ref aC) (C := RX1) (T := TX1) (N := 15) hx hb hts inX1 hown hK hP 1 rfl rfl 1 (by decide) fl69 (fun _ h9 => h9) rfl dX3_row_37 ?_
            refine va_get (D := (dC, dI)) (ci := 0) (v := .ref a_firstOfRow) (C := RX0) (T := TX0) (N := 9) hx hb hts inX0 hown hK hP 3 rfl rfl 8 (by decide) fl211 (fun _ h9 => h9) rfl dX3_row_40 ?_
            refine lv_iload_n hx hb dX3_row_43 rfl (lv_at hl 1 rfl) ?_
            obtain ⟨q_44, hq_44, hF⟩ := bindE hF
            have hPc := hP.sub (ws' := [(a_firstOfRow, .inl (cI, 120, .inl v_firstOfRow))]) [8] rfl
            refine vp_callSi (va_Run.run (va_runS (As := [.ref a_firstOfRow, .int p1]) (rest := []) ⟨hx, hb, hml, hown, hts⟩ (c_X3_at l dC dI cI cZ cO a_firstOfRow 120 p1 v_firstOfRow q_44 hq_44) (cwS 2 hts gX3_row_X3_at rfl rfl rfl (by decide +kernel) ⟨Nat.le_of_ble_eq_true rfl, Nat.le_of_ble_eq_true rfl⟩) ⟨fb_rd, pre_rd hPc hK hN⟩ rfl rfl hl.1 rfl (lv_room (Nat.le_of_ble_eq_true rfl)) dX3_row_44 ⟨Nat.zero_le _, Nat.zero_le _⟩)) (fun z_44 hz_44 => ?_)
            subst hz_44
            refine lv_goto (tgt := 61) hx hb dX3_row_47 (by decide) ?_
            have hF : some q_44 = some r := hF
            cases hF
            subst hQ
            exact W.iret hx hb hr (fun t ht hW => ⟨_, rfl, rfl, ht⟩) (fun q hq => absurd hq List.not_mem_nil) dX3_row_61
        · have hF := (if_neg c_24).symm.trans hF
          refine lv_iconst (v := (-1 : Int32)) hx hb dX3_row_27 (by decide) ?_
          have hF : some (-1 : Int32) = some r := hF
          cases hF
          subst hQ
          exact W.iret hx hb hr (fun t ht hW => ⟨_, rfl, rfl, ht⟩) (fun q hq => absurd hq List.not_mem_nil) dX3_row_28
def f_X3_heard (p1 : Int32) (v_kept : (Nat → Int32)) (v_keptCount : Int32) : Option Int32 :=
  if (0 : Int32) ≤ p1 then
    if v_keptCount ≤ p1 then
      some (-9 : Int32)
    else
      (f_X3_at 4 p1 v_kept).bind fun q25 =>
      some q25
  else
    some (-1 : Int32)
def rm_X3_heard : Room := { frames := 1, cells := 0, slots := 0, locals := 21 }
set_option maxHeartbeats 4000000 in
set_option maxRecDepth 100000 in
theorem c_X3_heard (l : Launch) (dC : Nat → ClassId) (dI : Nat → Nat → Nat) (cI cZ cO : ClassId) (aX aS a_settings aC a_letters a_passageOf a_cues a_rowOf a_firstOfRow aT a_times a_positions a_kept a_text d_aC c_aS a_history a_images a_imageKept : Nat) (p1 : Int32) (v_textLength : Int32) (v_faultKind : Int32) (v_faultPlace : Int32) (v_settings : (Nat → Int32)) (v_words : Int32) (v_passages : Int32) (v_wordsInPassage : Int32) (v_rows : Int32) (v_letters : (Nat → Int32)) (v_passageOf : (Nat → Int32)) (v_cues : (Nat → Int32)) (v_rowOf : (Nat → Int32)) (v_firstOfRow : (Nat → Int32)) (v_pairs : Int32) (v_times : (Nat → Int32)) (v_positions : (Nat → Int32)) (v_kept : (Nat → Int32)) (v_keptCount : Int32) (v_position : Int32) (v_speed : Int32) (v_time : Int32) (v_heardTime : Int32) (v_top : Int32) (v_skips : Int32) (v_repeats : Int32) (v_misses : Int32) (v_jerks : Int32) (v_overruns : Int32) (v_undoable : Int32) (r : Int32) (hF : f_X3_heard p1 v_kept v_keptCount = some r) : Met l yX3_heard wsX3_heard rm_X3_heard (va_Pc [.ref aX, .int p1] (rdW dC dI cI cZ cO [(aX, .inr (3, [.ref a_text, .int v_textLength, .int v_faultKind, .int v_faultPlace, .ref d_aC, .ref aS, .ref c_aS, .ref a_history, .int v_undoable, .ref a_images, .ref a_imageKept])), (aS, .inr (1, [.ref a_settings, .ref aC, .ref aT, .ref a_kept, .int v_keptCount, .int v_position, .int v_speed, .int v_time, .int v_heardTime, .int v_top, .int v_skips, .int v_repeats, .int v_misses, .int v_jerks, .int v_overruns])), (a_settings, .inl (cI, 9, .inl v_settings)), (aC, .inr (0, [.int v_words, .int v_passages, .int v_wordsInPassage, .int v_rows, .ref a_letters, .ref a_passageOf, .ref a_cues, .ref a_rowOf, .ref a_firstOfRow])), (a_letters, .inl (cI, 120, .inl v_letters)), (a_passageOf, .inl (cI, 120, .inl v_passageOf)), (a_cues, .inl (cI, 120, .inl v_cues)), (a_rowOf, .inl (cI, 120, .inl v_rowOf)), (a_firstOfRow, .inl (cI, 120, .inl v_firstOfRow)), (aT, .inr (2, [.int v_pairs, .ref a_times, .ref a_positions])), (a_times, .inl (cI, 61, .inl v_times)), (a_positions, .inl (cI, 61, .inl v_positions)), (a_kept, .inl (cI, 4, .inl v_kept))])) (vp_Si (fun q => r = q)) 0 0 (fun _ => False) := by
  refine Met.ofW (cc := cX3_heard) (maxL := 2) (ret := (some .int)) (by decide) rfl ?_
  intro p e s m args below meth c s₁ B hml hv
  obtain ⟨rfl, hP, hK, hN⟩ := hv
  have hx := B.exec
  have hb := B.bytes
  have hr := B.returns
  have hts := atoms_spec (ws := wsX3_heard) B.pre
  have hown : s.vm.findClass RX3 = some m.cls := findClass_of_methodNamed B.named
  have hlocks := B.notSynchronized
  obtain ⟨Q, hQ⟩ : ∃ Q, Q = MQ below (vp_Si (fun q => r = q)) ([.ref aX, .int p1] : List Value).toArray s 0 0 (fun _ => False) := ⟨_, rfl⟩
  rw [← hQ]
  have hS : va_S (fun _ => False) s.heap s.heap [] := va_S.rf
  have fl23 := hts (.fieldLink RX3 23 "Teleprompter" "now" "LTeleprompter$State;") (by decide +kernel)
  have fl193 := hts (.fieldLink RX3 193 "Teleprompter$State" "keptCount" "I") (by decide +kernel)
  have fl217 := hts (.fieldLink RX3 217 "Teleprompter$State" "kept" "[I") (by decide +kernel)
  have inX3 : ∀ w ∈ u_ws RX3 TX3 11, w ∈ wsX3_heard := by decide +kernel
  have inX1 : ∀ w ∈ u_ws RX1 TX1 15, w ∈ wsX3_heard := by decide +kernel
  have hl := lv_entry ([.ref aX, .int p1]) (n := 2) (Nat.le_of_ble_eq_true rfl)
  rw [lg_entry_eq]
  generalize (lg_sl ([.ref aX, .int p1]) ++ List.replicate (2 - (lg_sl ([.ref aX, .int p1])).length) Slot.unset).toArray = ls at hl ⊢
  have hl : lv_has ls 2 [(0, .ref aX), (1, .int p1)] := hl
  unfold f_X3_heard at hF
  refine lv_iload_n hx hb dX3_heard_0 rfl (lv_at hl 1 rfl) ?_
  refine lv_if_ge (tgt := 6) hx hb dX3_heard_1 (by decide) (fun c_1 => ?_) (fun c_1 => ?_)
  · have hF := (if_pos c_1).symm.trans hF
    refine lv_iload_n hx hb dX3_heard_6 rfl (lv_at hl 1 rfl) ?_
    refine lv_aload_n hx hb dX3_heard_7 rfl (lv_at hl 0 rfl) ?_
    refine va_get (D := (dC, dI)) (ci := 3) (v := .ref aS) (C := RX3) (T := TX3) (N := 11) hx hb hts inX3 hown hK hP 0 rfl rfl 5 (by decide) fl23 (fun _ h9 => h9) rfl dX3_heard_8 ?_
    refine va_get (D := (dC, dI)) (ci := 1) (v := .int v_keptCount) (C := RX1) (T := TX1) (N := 15) hx hb hts inX1 hown hK hP 1 rfl rfl 4 (by decide) fl193 (fun _ h9 => h9) rfl dX3_heard_11 ?_
    refine lv_icmp_ge (tgt := 31) hx hb dX3_heard_14 (by decide) (fun c_14 => ?_) (fun c_14 => ?_)
    · have hF := (if_pos c_14).symm.trans hF
      refine lv_bipush (v := (-9 : Int32)) hx hb dX3_heard_31 (by decide) ?_
      have hF : some (-9 : Int32) = some r := hF
      cases hF
      subst hQ
      exact W.iret hx hb hr (fun t ht hW => ⟨_, rfl, rfl, ht⟩) (fun q hq => absurd hq List.not_mem_nil) dX3_heard_33
    · have hF := (if_neg c_14).symm.trans hF
      refine lv_aload_n hx hb dX3_heard_17 rfl (lv_at hl 0 rfl) ?_
      refine va_get (D := (dC, dI)) (ci := 3) (v := .ref aS) (C := RX3) (T := TX3) (N := 11) hx hb hts inX3 hown hK hP 0 rfl rfl 5 (by decide) fl23 (fun _ h9 => h9) rfl dX3_heard_18 ?_
      refine va_get (D := (dC, dI)) (ci := 1) (v := .ref a_kept) (C := RX1) (T := TX1) (N := 15) hx hb hts inX1 hown hK hP 1 rfl rfl 3 (by decide) fl217 (fun _ h9 => h9) rfl dX3_heard_21 ?_
      refine lv_iload_n hx hb dX3_heard_24 rfl (lv_at hl 1 rfl) ?_
      obtain ⟨q_25, hq_25, hF⟩ := bindE hF
      have hPc := hP.sub (ws' := [(a_kept, .inl (cI, 4, .inl v_kept))]) [12] rfl
      refine vp_callSi (va_Run.run (va_runS (As := [.ref a_kept, .int p1]) (rest := []) ⟨hx, hb, hml, hown, hts⟩ (c_X3_at l dC dI cI cZ cO a_kept 4 p1 v_kept q_25 hq_25) (cwS 2 hts gX3_heard_X3_at rfl rfl rfl (by decide +kernel) ⟨Nat.le_of_ble_eq_true rfl, Nat.le_of_ble_eq_true rfl⟩) ⟨fb_rd, pre_rd hPc hK hN⟩ rfl rfl hl.1 rfl (lv_room (Nat.le_of_ble_eq_true rfl)) dX3_heard_25 ⟨Nat.zero_le _, Nat.zero_le _⟩)) (fun z_25 hz_25 => ?_)
      subst hz_25
      refine lv_goto (tgt := 33) hx hb dX3_heard_28 (by decide) ?_
      have hF : some q_25 = some r := hF
      cases hF
      subst hQ
      exact W.iret hx hb hr (fun t ht hW => ⟨_, rfl, rfl, ht⟩) (fun q hq => absurd hq List.not_mem_nil) dX3_heard_33
  · have hF := (if_neg c_1).symm.trans hF
    refine lv_iconst (v := (-1 : Int32)) hx hb dX3_heard_4 (by decide) ?_
    have hF : some (-1 : Int32) = some r := hF
    cases hF
    subst hQ
    exact W.iret hx hb hr (fun t ht hW => ⟨_, rfl, rfl, ht⟩) (fun q hq => absurd hq List.not_mem_nil) dX3_heard_5
def f_X3_trail (p1 : Int32) (p2 : Int32) (v_pairs : Int32) (v_times : (Nat → Int32)) (v_positions : (Nat → Int32)) : Option Int32 :=
  if p1 < (0 : Int32) then
    some (-1 : Int32)
  else
    if p2 < (0 : Int32) then
      some (-1 : Int32)
    else
      if p2 ≤ (1 : Int32) then
        if p1 < v_pairs then
          if p2 = (0 : Int32) then
            (f_X3_at 61 p1 v_times).bind fun q47 =>
            some q47
          else
            (f_X3_at 61 p1 v_positions).bind fun q64 =>
            some q64
        else
          some (-9 : Int32)
      else
        some (-1 : Int32)
def rm_X3_trail : Room := { frames := 1, cells := 0, slots := 0, locals := 21 }
set_option maxHeartbeats 4000000 in
set_option maxRecDepth 100000 in
theorem c_X3_trail (l : Launch) (dC : Nat → ClassId) (dI : Nat → Nat → Nat) (cI cZ cO : ClassId) (aX aS a_settings aC a_letters a_passageOf a_cues a_rowOf a_firstOfRow aT a_times a_positions a_kept a_text d_aC c_aS a_history a_images a_imageKept : Nat) (p1 : Int32) (p2 : Int32) (v_textLength : Int32) (v_faultKind : Int32) (v_faultPlace : Int32) (v_settings : (Nat → Int32)) (v_words : Int32) (v_passages : Int32) (v_wordsInPassage : Int32) (v_rows : Int32) (v_letters : (Nat → Int32)) (v_passageOf : (Nat → Int32)) (v_cues : (Nat → Int32)) (v_rowOf : (Nat → Int32)) (v_firstOfRow : (Nat → Int32)) (v_pairs : Int32) (v_times : (Nat → Int32)) (v_positions : (Nat → Int32)) (v_kept : (Nat → Int32)) (v_keptCount : Int32) (v_position : Int32) (v_speed : Int32) (v_time : Int32) (v_heardTime : Int32) (v_top : Int32) (v_skips : Int32) (v_repeats : Int32) (v_misses : Int32) (v_jerks : Int32) (v_overruns : Int32) (v_undoable : Int32) (r : Int32) (hF : f_X3_trail p1 p2 v_pairs v_times v_positions = some r) : Met l yX3_trail wsX3_trail rm_X3_trail (va_Pc [.ref aX, .int p1, .int p2] (rdW dC dI cI cZ cO [(aX, .inr (3, [.ref a_text, .int v_textLength, .int v_faultKind, .int v_faultPlace, .ref d_aC, .ref aS, .ref c_aS, .ref a_history, .int v_undoable, .ref a_images, .ref a_imageKept])), (aS, .inr (1, [.ref a_settings, .ref aC, .ref aT, .ref a_kept, .int v_keptCount, .int v_position, .int v_speed, .int v_time, .int v_heardTime, .int v_top, .int v_skips, .int v_repeats, .int v_misses, .int v_jerks, .int v_overruns])), (a_settings, .inl (cI, 9, .inl v_settings)), (aC, .inr (0, [.int v_words, .int v_passages, .int v_wordsInPassage, .int v_rows, .ref a_letters, .ref a_passageOf, .ref a_cues, .ref a_rowOf, .ref a_firstOfRow])), (a_letters, .inl (cI, 120, .inl v_letters)), (a_passageOf, .inl (cI, 120, .inl v_passageOf)), (a_cues, .inl (cI, 120, .inl v_cues)), (a_rowOf, .inl (cI, 120, .inl v_rowOf)), (a_firstOfRow, .inl (cI, 120, .inl v_firstOfRow)), (aT, .inr (2, [.int v_pairs, .ref a_times, .ref a_positions])), (a_times, .inl (cI, 61, .inl v_times)), (a_positions, .inl (cI, 61, .inl v_positions)), (a_kept, .inl (cI, 4, .inl v_kept))])) (vp_Si (fun q => r = q)) 0 0 (fun _ => False) := by
  refine Met.ofW (cc := cX3_trail) (maxL := 3) (ret := (some .int)) (by decide) rfl ?_
  intro p e s m args below meth c s₁ B hml hv
  obtain ⟨rfl, hP, hK, hN⟩ := hv
  have hx := B.exec
  have hb := B.bytes
  have hr := B.returns
  have hts := atoms_spec (ws := wsX3_trail) B.pre
  have hown : s.vm.findClass RX3 = some m.cls := findClass_of_methodNamed B.named
  have hlocks := B.notSynchronized
  obtain ⟨Q, hQ⟩ : ∃ Q, Q = MQ below (vp_Si (fun q => r = q)) ([.ref aX, .int p1, .int p2] : List Value).toArray s 0 0 (fun _ => False) := ⟨_, rfl⟩
  rw [← hQ]
  have hS : va_S (fun _ => False) s.heap s.heap [] := va_S.rf
  have fl23 := hts (.fieldLink RX3 23 "Teleprompter" "now" "LTeleprompter$State;") (by decide +kernel)
  have fl184 := hts (.fieldLink RX3 184 "Teleprompter$State" "trail" "LTeleprompter$Trail;") (by decide +kernel)
  have fl188 := hts (.fieldLink RX3 188 "Teleprompter$Trail" "pairs" "I") (by decide +kernel)
  have fl223 := hts (.fieldLink RX3 223 "Teleprompter$Trail" "positions" "[I") (by decide +kernel)
  have fl220 := hts (.fieldLink RX3 220 "Teleprompter$Trail" "times" "[I") (by decide +kernel)
  have inX3 : ∀ w ∈ u_ws RX3 TX3 11, w ∈ wsX3_trail := by decide +kernel
  have inX1 : ∀ w ∈ u_ws RX1 TX1 15, w ∈ wsX3_trail := by decide +kernel
  have inX2 : ∀ w ∈ u_ws RX2 TX2 3, w ∈ wsX3_trail := by decide +kernel
  have hl := lv_entry ([.ref aX, .int p1, .int p2]) (n := 3) (Nat.le_of_ble_eq_true rfl)
  rw [lg_entry_eq]
  generalize (lg_sl ([.ref aX, .int p1, .int p2]) ++ List.replicate (3 - (lg_sl ([.ref aX, .int p1, .int p2])).length) Slot.unset).toArray = ls at hl ⊢
  have hl : lv_has ls 3 [(0, .ref aX), (1, .int p1), (2, .int p2)] := hl
  unfold f_X3_trail at hF
  refine lv_iload_n hx hb dX3_trail_0 rfl (lv_at hl 1 rfl) ?_
  refine lv_if_lt (tgt := 13) hx hb dX3_trail_1 (by decide) (fun c_1 => ?_) (fun c_1 => ?_)
  · have hF := (if_pos c_1).symm.trans hF
    refine lv_iconst (v := (-1 : Int32)) hx hb dX3_trail_13 (by decide) ?_
    have hF : some (-1 : Int32) = some r := hF
    cases hF
    subst hQ
    exact W.iret hx hb hr (fun t ht hW => ⟨_, rfl, rfl, ht⟩) (fun q hq => absurd hq List.not_mem_nil) dX3_trail_14
  · have hF := (if_neg c_1).symm.trans hF
    refine lv_iload_n hx hb dX3_trail_4 rfl (lv_at hl 2 rfl) ?_
    refine lv_if_lt (tgt := 13) hx hb dX3_trail_5 (by decide) (fun c_5 => ?_) (fun c_5 => ?_)
    · have hF := (if_pos c_5).symm.trans hF
      refine lv_iconst (v := (-1 : Int32)) hx hb dX3_trail_13 (by decide) ?_
      have hF : some (-1 : Int32) = some r := hF
      cases hF
      subst hQ
      exact W.iret hx hb hr (fun t ht hW => ⟨_, rfl, rfl, ht⟩) (fun q hq => absurd hq List.not_mem_nil) dX3_trail_14
    · have hF := (if_neg c_5).symm.trans hF
      refine lv_iload_n hx hb dX3_trail_8 rfl (lv_at hl 2 rfl) ?_
      refine lv_iconst (v := (1 : Int32)) hx hb dX3_trail_9 (by decide) ?_
      refine lv_icmp_le (tgt := 15) hx hb dX3_trail_10 (by decide) (fun c_10 => ?_) (fun c_10 => ?_)
      · have hF := (if_pos c_10).symm.trans hF
        refine lv_iload_n hx hb dX3_trail_15 rfl (lv_at hl 1 rfl) ?_
        refine lv_aload_n hx hb dX3_trail_16 rfl (lv_at hl 0 rfl) ?_
        refine va_get (D := (dC, dI)) (ci := 3) (v := .ref aS) (C := RX3) (T := TX3) (N := 11) hx hb hts inX3 hown hK hP 0 rfl rfl 5 (by decide) fl23 (fun _ h9 => h9) rfl dX3_trail_17 ?_
        refine va_get (D := (dC, dI)) (ci := 1) (v := .ref aT) (C := RX1) (T := TX1) (N := 15) hx hb hts inX1 hown hK hP 1 rfl rfl 2 (by decide) fl184 (fun _ h9 => h9) rfl dX3_trail_20 ?_
        refine va_get (D := (dC, dI)) (ci := 2) (v := .int v_pairs) (C := RX2) (T := TX2) (N := 3) hx hb hts inX2 hown hK hP 9 rfl rfl 0 (by decide) fl188 (fun _ h9 => h9) rfl dX3_trail_23 ?_
        refine lv_icmp_lt (tgt := 32) hx hb dX3_trail_26 (by decide) (fun c_26 => ?_) (fun c_26 => ?_)
        · have hF := (if_pos c_26).symm.trans hF
          refine lv_iload_n hx hb dX3_trail_32 rfl (lv_at hl 2 rfl) ?_
          refine lv_if_ne (tgt := 53) hx hb dX3_trail_33 (by decide) (fun c_33 => ?_) (fun c_33 => ?_)
          · have hF := (if_neg c_33).symm.trans hF
            refine lv_aload_n hx hb dX3_trail_53 rfl (lv_at hl 0 rfl) ?_
            refine va_get (D := (dC, dI)) (ci := 3) (v := .ref aS) (C := RX3) (T := TX3) (N := 11) hx hb hts inX3 hown hK hP 0 rfl rfl 5 (by decide) fl23 (fun _ h9 => h9) rfl dX3_trail_54 ?_
            refine va_get (D := (dC, dI)) (ci := 1) (v := .ref aT) (C := RX1) (T := TX1) (N := 15) hx hb hts inX1 hown hK hP 1 rfl rfl 2 (by decide) fl184 (fun _ h9 => h9) rfl dX3_trail_57 ?_
            refine va_get (D := (dC, dI)) (ci := 2) (v := .ref a_positions) (C := RX2) (T := TX2) (N := 3) hx hb hts inX2 hown hK hP 9 rfl rfl 2 (by decide) fl223 (fun _ h9 => h9) rfl dX3_trail_60 ?_
            refine lv_iload_n hx hb dX3_trail_63 rfl (lv_at hl 1 rfl) ?_
            obtain ⟨q_64, hq_64, hF⟩ := bindE hF
            have hPc := hP.sub (ws' := [(a_positions, .inl (cI, 61, .inl v_positions))]) [11] rfl
            refine vp_callSi (va_Run.run (va_runS (As := [.ref a_positions, .int p1]) (rest := []) ⟨hx, hb, hml, hown, hts⟩ (c_X3_at l dC dI cI cZ cO a_positions 61 p1 v_positions q_64 hq_64) (cwS 2 hts gX3_trail_X3_at rfl rfl rfl (by decide +kernel) ⟨Nat.le_of_ble_eq_true rfl, Nat.le_of_ble_eq_true rfl⟩) ⟨fb_rd, pre_rd hPc hK hN⟩ rfl rfl hl.1 rfl (lv_room (Nat.le_of_ble_eq_true rfl)) dX3_trail_64 ⟨Nat.zero_le _, Nat.zero_le _⟩)) (fun z_64 hz_64 => ?_)
            subst hz_64
            have hF : some q_64 = some r := hF
            cases hF
            subst hQ
            exact W.iret hx hb hr (fun t ht hW => ⟨_, rfl, rfl, ht⟩) (fun q hq => absurd hq List.not_mem_nil) dX3_trail_67
          · have hF := (if_pos c_33).symm.trans hF
            refine lv_aload_n hx hb dX3_trail_36 rfl (lv_at hl 0 rfl) ?_
            refine va_get (D := (dC, dI)) (ci := 3) (v := .ref aS) (C := RX3) (T := TX3) (N := 11) hx hb hts inX3 hown hK hP 0 rfl rfl 5 (by decide) fl23 (fun _ h9 => h9) rfl dX3_trail_37 ?_
            refine va_get (D := (dC, dI)) (ci := 1) (v := .ref aT) (C := RX1) (T := TX1) (N := 15) hx hb hts inX1 hown hK hP 1 rfl rfl 2 (by decide) fl184 (fun _ h9 => h9) rfl dX3_trail_40 ?_
            refine va_get (D := (dC, dI)) (ci := 2) (v := .ref a_times) (C := RX2) (T := TX2) (N := 3) hx hb hts inX2 hown hK hP 9 rfl rfl 1 (by decide) fl220 (fun _ h9 => h9) rfl dX3_trail_43 ?_
            refine lv_iload_n hx hb dX3_trail_46 rfl (lv_at hl 1 rfl) ?_
            obtain ⟨q_47, hq_47, hF⟩ := bindE hF
            have hPc := hP.sub (ws' := [(a_times, .inl (cI, 61, .inl v_times))]) [10] rfl
            refine vp_callSi (va_Run.run (va_runS (As := [.ref a_times, .int p1]) (rest := []) ⟨hx, hb, hml, hown, hts⟩ (c_X3_at l dC dI cI cZ cO a_times 61 p1 v_times q_47 hq_47) (cwS 2 hts gX3_trail_X3_at rfl rfl rfl (by decide +kernel) ⟨Nat.le_of_ble_eq_true rfl, Nat.le_of_ble_eq_true rfl⟩) ⟨fb_rd, pre_rd hPc hK hN⟩ rfl rfl hl.1 rfl (lv_room (Nat.le_of_ble_eq_true rfl)) dX3_trail_47 ⟨Nat.zero_le _, Nat.zero_le _⟩)) (fun z_47 hz_47 => ?_)
            subst hz_47
            refine lv_goto (tgt := 67) hx hb dX3_trail_50 (by decide) ?_
            have hF : some q_47 = some r := hF
            cases hF
            subst hQ
            exact W.iret hx hb hr (fun t ht hW => ⟨_, rfl, rfl, ht⟩) (fun q hq => absurd hq List.not_mem_nil) dX3_trail_67
        · have hF := (if_neg c_26).symm.trans hF
          refine lv_bipush (v := (-9 : Int32)) hx hb dX3_trail_29 (by decide) ?_
          have hF : some (-9 : Int32) = some r := hF
          cases hF
          subst hQ
          exact W.iret hx hb hr (fun t ht hW => ⟨_, rfl, rfl, ht⟩) (fun q hq => absurd hq List.not_mem_nil) dX3_trail_31
      · have hF := (if_neg c_10).symm.trans hF
        refine lv_iconst (v := (-1 : Int32)) hx hb dX3_trail_13 (by decide) ?_
        have hF : some (-1 : Int32) = some r := hF
        cases hF
        subst hQ
        exact W.iret hx hb hr (fun t ht hW => ⟨_, rfl, rfl, ht⟩) (fun q hq => absurd hq List.not_mem_nil) dX3_trail_14
def f_X3_score (p1 : Int32) (v_words : Int32) (v_letters : (Nat → Int32)) (v_kept : (Nat → Int32)) (v_keptCount : Int32) : Option Int32 :=
  (f_X0_has p1 v_words).bind fun q8 =>
  if q8 = (0 : Int32) then
    some (-1 : Int32)
  else
    (f_X1_points p1 v_letters v_kept v_keptCount).bind fun q19 =>
    some q19
def rm_X3_score : Room := { frames := 2, cells := 0, slots := 0, locals := 43 }
set_option maxHeartbeats 4000000 in
set_option maxRecDepth 100000 in
theorem c_X3_score (l : Launch) (dC : Nat → ClassId) (dI : Nat → Nat → Nat) (cI cZ cO : ClassId) (aX aS a_settings aC a_letters a_passageOf a_cues a_rowOf a_firstOfRow aT a_times a_positions a_kept a_text d_aC c_aS a_history a_images a_imageKept : Nat) (p1 : Int32) (v_textLength : Int32) (v_faultKind : Int32) (v_faultPlace : Int32) (v_settings : (Nat → Int32)) (v_words : Int32) (v_passages : Int32) (v_wordsInPassage : Int32) (v_rows : Int32) (v_letters : (Nat → Int32)) (v_passageOf : (Nat → Int32)) (v_cues : (Nat → Int32)) (v_rowOf : (Nat → Int32)) (v_firstOfRow : (Nat → Int32)) (v_pairs : Int32) (v_times : (Nat → Int32)) (v_positions : (Nat → Int32)) (v_kept : (Nat → Int32)) (v_keptCount : Int32) (v_position : Int32) (v_speed : Int32) (v_time : Int32) (v_heardTime : Int32) (v_top : Int32) (v_skips : Int32) (v_repeats : Int32) (v_misses : Int32) (v_jerks : Int32) (v_overruns : Int32) (v_undoable : Int32) (r : Int32) (hF : f_X3_score p1 v_words v_letters v_kept v_keptCount = some r) : Met l yX3_score wsX3_score rm_X3_score (va_Pc [.ref aX, .int p1] (rdW dC dI cI cZ cO [(aX, .inr (3, [.ref a_text, .int v_textLength, .int v_faultKind, .int v_faultPlace, .ref d_aC, .ref aS, .ref c_aS, .ref a_history, .int v_undoable, .ref a_images, .ref a_imageKept])), (aS, .inr (1, [.ref a_settings, .ref aC, .ref aT, .ref a_kept, .int v_keptCount, .int v_position, .int v_speed, .int v_time, .int v_heardTime, .int v_top, .int v_skips, .int v_repeats, .int v_misses, .int v_jerks, .int v_overruns])), (a_settings, .inl (cI, 9, .inl v_settings)), (aC, .inr (0, [.int v_words, .int v_passages, .int v_wordsInPassage, .int v_rows, .ref a_letters, .ref a_passageOf, .ref a_cues, .ref a_rowOf, .ref a_firstOfRow])), (a_letters, .inl (cI, 120, .inl v_letters)), (a_passageOf, .inl (cI, 120, .inl v_passageOf)), (a_cues, .inl (cI, 120, .inl v_cues)), (a_rowOf, .inl (cI, 120, .inl v_rowOf)), (a_firstOfRow, .inl (cI, 120, .inl v_firstOfRow)), (aT, .inr (2, [.int v_pairs, .ref a_times, .ref a_positions])), (a_times, .inl (cI, 61, .inl v_times)), (a_positions, .inl (cI, 61, .inl v_positions)), (a_kept, .inl (cI, 4, .inl v_kept))])) (vp_Si (fun q => r = q)) 0 0 (fun _ => False) := by
  refine Met.ofW (cc := cX3_score) (maxL := 2) (ret := (some .int)) (by decide) rfl ?_
  intro p e s m args below meth c s₁ B hml hv
  obtain ⟨rfl, hP, hK, hN⟩ := hv
  have hx := B.exec
  have hb := B.bytes
  have hr := B.returns
  have hts := atoms_spec (ws := wsX3_score) B.pre
  have hown : s.vm.findClass RX3 = some m.cls := findClass_of_methodNamed B.named
  have hlocks := B.notSynchronized
  obtain ⟨Q, hQ⟩ : ∃ Q, Q = MQ below (vp_Si (fun q => r = q)) ([.ref aX, .int p1] : List Value).toArray s 0 0 (fun _ => False) := ⟨_, rfl⟩
  rw [← hQ]
  have hS : va_S (fun _ => False) s.heap s.heap [] := va_S.rf
  have fl23 := hts (.fieldLink RX3 23 "Teleprompter" "now" "LTeleprompter$State;") (by decide +kernel)
  have fl69 := hts (.fieldLink RX3 69 "Teleprompter$State" "script" "LTeleprompter$Script;") (by decide +kernel)
  have inX3 : ∀ w ∈ u_ws RX3 TX3 11, w ∈ wsX3_score := by decide +kernel
  have inX1 : ∀ w ∈ u_ws RX1 TX1 15, w ∈ wsX3_score := by decide +kernel
  have hl := lv_entry ([.ref aX, .int p1]) (n := 2) (Nat.le_of_ble_eq_true rfl)
  rw [lg_entry_eq]
  generalize (lg_sl ([.ref aX, .int p1]) ++ List.replicate (2 - (lg_sl ([.ref aX, .int p1])).length) Slot.unset).toArray = ls at hl ⊢
  have hl : lv_has ls 2 [(0, .ref aX), (1, .int p1)] := hl
  unfold f_X3_score at hF
  refine lv_aload_n hx hb dX3_score_0 rfl (lv_at hl 0 rfl) ?_
  refine va_get (D := (dC, dI)) (ci := 3) (v := .ref aS) (C := RX3) (T := TX3) (N := 11) hx hb hts inX3 hown hK hP 0 rfl rfl 5 (by decide) fl23 (fun _ h9 => h9) rfl dX3_score_1 ?_
  refine va_get (D := (dC, dI)) (ci := 1) (v := .ref aC) (C := RX1) (T := TX1) (N := 15) hx hb hts inX1 hown hK hP 1 rfl rfl 1 (by decide) fl69 (fun _ h9 => h9) rfl dX3_score_4 ?_
  refine lv_iload_n hx hb dX3_score_7 rfl (lv_at hl 1 rfl) ?_
  obtain ⟨q_8, hq_8, hF⟩ := bindE hF
  have hPc := hP.sub (ws' := [(aC, .inr (0, [.int v_words, .int v_passages, .int v_wordsInPassage, .int v_rows, .ref a_letters, .ref a_passageOf, .ref a_cues, .ref a_rowOf, .ref a_firstOfRow])), (a_letters, .inl (cI, 120, .inl v_letters)), (a_passageOf, .inl (cI, 120, .inl v_passageOf)), (a_cues, .inl (cI, 120, .inl v_cues)), (a_rowOf, .inl (cI, 120, .inl v_rowOf)), (a_firstOfRow, .inl (cI, 120, .inl v_firstOfRow))]) [3, 4, 5, 6, 7, 8] rfl
  refine vp_callSi (va_Run.run (va_runV (As := [.int p1]) (rest := []) ⟨hx, hb, hml, hown, hts⟩ (c_X0_has l dC dI cI cZ cO aC a_letters a_passageOf a_cues a_rowOf a_firstOfRow p1 v_words v_passages v_wordsInPassage v_rows v_letters v_passageOf v_cues v_rowOf v_firstOfRow q_8 hq_8) (cwV 1 hts gX3_score_X0_has rfl rfl rfl (by decide +kernel) ⟨Nat.le_of_ble_eq_true rfl, Nat.le_of_ble_eq_true rfl⟩) ⟨fb_rd, va_recv hK hPc (ci := 0) (q0 := 0) rfl rfl, pre_rd hPc hK hN⟩ rfl rfl hl.1 rfl (lv_room (Nat.le_of_ble_eq_true rfl)) dX3_score_8 ⟨Nat.zero_le _, Nat.zero_le _⟩)) (fun z_8 hz_8 => ?_)
  subst hz_8
  refine lv_if_eq (tgt := 25) hx hb dX3_score_11 (by decide) (fun c_11 => ?_) (fun c_11 => ?_)
  · have hF := (if_pos c_11).symm.trans hF
    refine lv_iconst (v := (-1 : Int32)) hx hb dX3_score_25 (by decide) ?_
    have hF : some (-1 : Int32) = some r := hF
    cases hF
    subst hQ
    exact W.iret hx hb hr (fun t ht hW => ⟨_, rfl, rfl, ht⟩) (fun q hq => absurd hq List.not_mem_nil) dX3_score_26
  · have hF := (if_neg c_11).symm.trans hF
    refine lv_aload_n hx hb dX3_score_14 rfl (lv_at hl 0 rfl) ?_
    refine va_get (D := (dC, dI)) (ci := 3) (v := .ref aS) (C := RX3) (T := TX3) (N := 11) hx hb hts inX3 hown hK hP 0 rfl rfl 5 (by decide) fl23 (fun _ h9 => h9) rfl dX3_score_15 ?_
    refine lv_iload_n hx hb dX3_score_18 rfl (lv_at hl 1 rfl) ?_
    obtain ⟨q_19, hq_19, hF⟩ := bindE hF
    have hPc := hP.sub (ws' := [(aS, .inr (1, [.ref a_settings, .ref aC, .ref aT, .ref a_kept, .int v_keptCount, .int v_position, .int v_speed, .int v_time, .int v_heardTime, .int v_top, .int v_skips, .int v_repeats, .int v_misses, .int v_jerks, .int v_overruns])), (a_settings, .inl (cI, 9, .inl v_settings)), (aC, .inr (0, [.int v_words, .int v_passages, .int v_wordsInPassage, .int v_rows, .ref a_letters, .ref a_passageOf, .ref a_cues, .ref a_rowOf, .ref a_firstOfRow])), (a_letters, .inl (cI, 120, .inl v_letters)), (a_passageOf, .inl (cI, 120, .inl v_passageOf)), (a_cues, .inl (cI, 120, .inl v_cues)), (a_rowOf, .inl (cI, 120, .inl v_rowOf)), (a_firstOfRow, .inl (cI, 120, .inl v_firstOfRow)), (aT, .inr (2, [.int v_pairs, .ref a_times, .ref a_positions])), (a_times, .inl (cI, 61, .inl v_times)), (a_positions, .inl (cI, 61, .inl v_positions)), (a_kept, .inl (cI, 4, .inl v_kept))]) [1, 2, 3, 4, 5, 6, 7, 8, 9, 10, 11, 12] rfl
    refine vp_callSi (va_Run.run (va_runV (As := [.int p1]) (rest := []) ⟨hx, hb, hml, hown, hts⟩ (c_X1_points l dC dI cI cZ cO aS a_settings aC a_letters a_passageOf a_cues a_rowOf a_firstOfRow aT a_times a_positions a_kept p1 v_settings v_words v_passages v_wordsInPassage v_rows v_letters v_passageOf v_cues v_rowOf v_firstOfRow v_pairs v_times v_positions v_kept v_keptCount v_position v_speed v_time v_heardTime v_top v_skips v_repeats v_misses v_jerks v_overruns q_19 hq_19) (cwV 1 hts gX3_score_X1_points rfl rfl rfl (by decide +kernel) ⟨Nat.le_of_ble_eq_true rfl, Nat.le_of_ble_eq_true rfl⟩) ⟨fb_rd, va_recv hK hPc (ci := 1) (q0 := 0) rfl rfl, pre_rd hPc hK hN⟩ rfl rfl hl.1 rfl (lv_room (Nat.le_of_ble_eq_true rfl)) dX3_score_19 ⟨Nat.zero_le _, Nat.zero_le _⟩)) (fun z_19 hz_19 => ?_)
    subst hz_19
    refine lv_goto (tgt := 26) hx hb dX3_score_22 (by decide) ?_
    have hF : some q_19 = some r := hF
    cases hF
    subst hQ
    exact W.iret hx hb hr (fun t ht hW => ⟨_, rfl, rfl, ht⟩) (fun q hq => absurd hq List.not_mem_nil) dX3_score_26
def f_X3_best (p1 : Int32) (p2 : Int32) (v_settings : (Nat → Int32)) (v_words : Int32) (v_letters : (Nat → Int32)) (v_kept : (Nat → Int32)) (v_keptCount : Int32) (v_position : Int32) : Option Int32 :=
  (f_X3_isLetter p1).bind fun q1 =>
  if q1 = (0 : Int32) then
    some (-1 : Int32)
  else
    if p2 < (0 : Int32) then
      some (-1 : Int32)
    else
      if p2 ≤ (2 : Int32) then
        (f_X1_bestCandidate p1 v_settings v_words v_letters v_kept v_keptCount v_position).bind fun q23 =>
        if q23 = (-9 : Int32) then
          some q23
        else
          if p2 = (0 : Int32) then
            some q23
          else
            if p2 = (1 : Int32) then
              (f_X1_points q23 v_letters v_kept v_keptCount).bind fun q49 =>
              some q49
            else
              (f_X1_accepts q23 v_settings v_letters v_kept v_keptCount v_position).bind fun q58 =>
              if q58 = (0 : Int32) then
                some (0 : Int32)
              else
                some (1 : Int32)
      else
        some (-1 : Int32)
def rm_X3_best : Room := { frames := 4, cells := 0, slots := 0, locals := 92 }
set_option maxHeartbeats 4000000 in
set_option maxRecDepth 100000 in
theorem c_X3_best (l : Launch) (dC : Nat → ClassId) (dI : Nat → Nat → Nat) (cI cZ cO : ClassId) (aX aS a_settings aC a_letters a_passageOf a_cues a_rowOf a_firstOfRow aT a_times a_positions a_kept a_text d_aC c_aS a_history a_images a_imageKept : Nat) (p1 : Int32) (p2 : Int32) (v_textLength : Int32) (v_faultKind : Int32) (v_faultPlace : Int32) (v_settings : (Nat → Int32)) (v_words : Int32) (v_passages : Int32) (v_wordsInPassage : Int32) (v_rows : Int32) (v_letters : (Nat → Int32)) (v_passageOf : (Nat → Int32)) (v_cues : (Nat → Int32)) (v_rowOf : (Nat → Int32)) (v_firstOfRow : (Nat → Int32)) (v_pairs : Int32) (v_times : (Nat → Int32)) (v_positions : (Nat → Int32)) (v_kept : (Nat → Int32)) (v_keptCount : Int32) (v_position : Int32) (v_speed : Int32) (v_time : Int32) (v_heardTime : Int32) (v_top : Int32) (v_skips : Int32) (v_repeats : Int32) (v_misses : Int32) (v_jerks : Int32) (v_overruns : Int32) (v_undoable : Int32) (r : Int32) (hF : f_X3_best p1 p2 v_settings v_words v_letters v_kept v_keptCount v_position = some r) : Met l yX3_best wsX3_best rm_X3_best (va_Pc [.ref aX, .int p1, .int p2] (rdW dC dI cI cZ cO [(aX, .inr (3, [.ref a_text, .int v_textLength, .int v_faultKind, .int v_faultPlace, .ref d_aC, .ref aS, .ref c_aS, .ref a_history, .int v_undoable, .ref a_images, .ref a_imageKept])), (aS, .inr (1, [.ref a_settings, .ref aC, .ref aT, .ref a_kept, .int v_keptCount, .int v_position, .int v_speed, .int v_time, .int v_heardTime, .int v_top, .int v_skips, .int v_repeats, .int v_misses, .int v_jerks, .int v_overruns])), (a_settings, .inl (cI, 9, .inl v_settings)), (aC, .inr (0, [.int v_words, .int v_passages, .int v_wordsInPassage, .int v_rows, .ref a_letters, .ref a_passageOf, .ref a_cues, .ref a_rowOf, .ref a_firstOfRow])), (a_letters, .inl (cI, 120, .inl v_letters)), (a_passageOf, .inl (cI, 120, .inl v_passageOf)), (a_cues, .inl (cI, 120, .inl v_cues)), (a_rowOf, .inl (cI, 120, .inl v_rowOf)), (a_firstOfRow, .inl (cI, 120, .inl v_firstOfRow)), (aT, .inr (2, [.int v_pairs, .ref a_times, .ref a_positions])), (a_times, .inl (cI, 61, .inl v_times)), (a_positions, .inl (cI, 61, .inl v_positions)), (a_kept, .inl (cI, 4, .inl v_kept))])) (vp_Si (fun q => r = q)) 0 0 (fun _ => False) := by
  refine Met.ofW (cc := cX3_best) (maxL := 4) (ret := (some .int)) (by decide) rfl ?_
  intro p e s m args below meth c s₁ B hml hv
  obtain ⟨rfl, hP, hK, hN⟩ := hv
  have hx := B.exec
  have hb := B.bytes
  have hr := B.returns
  have hts := atoms_spec (ws := wsX3_best) B.pre
  have hown : s.vm.findClass RX3 = some m.cls := findClass_of_methodNamed B.named
  have hlocks := B.notSynchronized
  obtain ⟨Q, hQ⟩ : ∃ Q, Q = MQ below (vp_Si (fun q => r = q)) ([.ref aX, .int p1, .int p2] : List Value).toArray s 0 0 (fun _ => False) := ⟨_, rfl⟩
  rw [← hQ]
  have hS : va_S (fun _ => False) s.heap s.heap [] := va_S.rf
  have fl23 := hts (.fieldLink RX3 23 "Teleprompter" "now" "LTeleprompter$State;") (by decide +kernel)
  have inX3 : ∀ w ∈ u_ws RX3 TX3 11, w ∈ wsX3_best := by decide +kernel
  have hl := lv_entry ([.ref aX, .int p1, .int p2]) (n := 4) (Nat.le_of_ble_eq_true rfl)
  rw [lg_entry_eq]
  generalize (lg_sl ([.ref aX, .int p1, .int p2]) ++ List.replicate (4 - (lg_sl ([.ref aX, .int p1, .int p2])).length) Slot.unset).toArray = ls at hl ⊢
  have hl : lv_has ls 4 [(0, .ref aX), (1, .int p1), (2, .int p2)] := hl
  unfold f_X3_best at hF
  refine lv_iload_n hx hb dX3_best_0 rfl (lv_at hl 1 rfl) ?_
  obtain ⟨q_1, hq_1, hF⟩ := bindE hF
  have hPc := hP.sub (ws' := []) [] rfl
  refine vp_callSi (va_Run.run (va_runS (As := [.int p1]) (rest := []) ⟨hx, hb, hml, hown, hts⟩ (c_X3_isLetter l dC dI cI cZ cO p1 q_1 hq_1) (cwS 1 hts gX3_best_X3_isLetter rfl rfl rfl (by decide +kernel) ⟨Nat.le_of_ble_eq_true rfl, Nat.le_of_ble_eq_true rfl⟩) ⟨fb_rd, pre_rd hPc hK hN⟩ rfl rfl hl.1 rfl (lv_room (Nat.le_of_ble_eq_true rfl)) dX3_best_1 ⟨Nat.zero_le _, Nat.zero_le _⟩)) (fun z_1 hz_1 => ?_)
  subst hz_1
  refine lv_if_eq (tgt := 16) hx hb dX3_best_4 (by decide) (fun c_4 => ?_) (fun c_4 => ?_)
  · have hF := (if_pos c_4).symm.trans hF
    refine lv_iconst (v := (-1 : Int32)) hx hb dX3_best_16 (by decide) ?_
    have hF : some (-1 : Int32) = some r := hF
    cases hF
    subst hQ
    exact W.iret hx hb hr (fun t ht hW => ⟨_, rfl, rfl, ht⟩) (fun q hq => absurd hq List.not_mem_nil) dX3_best_17
  · have hF := (if_neg c_4).symm.trans hF
    refine lv_iload_n hx hb dX3_best_7 rfl (lv_at hl 2 rfl) ?_
    refine lv_if_lt (tgt := 16) hx hb dX3_best_8 (by decide) (fun c_8 => ?_) (fun c_8 => ?_)
    · have hF := (if_pos c_8).symm.trans hF
      refine lv_iconst (v := (-1 : Int32)) hx hb dX3_best_16 (by decide) ?_
      have hF : some (-1 : Int32) = some r := hF
      cases hF
      subst hQ
      exact W.iret hx hb hr (fun t ht hW => ⟨_, rfl, rfl, ht⟩) (fun q hq => absurd hq List.not_mem_nil) dX3_best_17
    · have hF := (if_neg c_8).symm.trans hF
      refine lv_iload_n hx hb dX3_best_11 rfl (lv_at hl 2 rfl) ?_
      refine lv_iconst (v := (2 : Int32)) hx hb dX3_best_12 (by decide) ?_
      refine lv_icmp_le (tgt := 18) hx hb dX3_best_13 (by decide) (fun c_13 => ?_) (fun c_13 => ?_)
      · have hF := (if_pos c_13).symm.trans hF
        refine lv_aload_n hx hb dX3_best_18 rfl (lv_at hl 0 rfl) ?_
        refine va_get (D := (dC, dI)) (ci := 3) (v := .ref aS) (C := RX3) (T := TX3) (N := 11) hx hb hts inX3 hown hK hP 0 rfl rfl 5 (by decide) fl23 (fun _ h9 => h9) rfl dX3_best_19 ?_
        refine lv_iload_n hx hb dX3_best_22 rfl (lv_at hl 1 rfl) ?_
        obtain ⟨q_23, hq_23, hF⟩ := bindE hF
        have hPc := hP.sub (ws' := [(aS, .inr (1, [.ref a_settings, .ref aC, .ref aT, .ref a_kept, .int v_keptCount, .int v_position, .int v_speed, .int v_time, .int v_heardTime, .int v_top, .int v_skips, .int v_repeats, .int v_misses, .int v_jerks, .int v_overruns])), (a_settings, .inl (cI, 9, .inl v_settings)), (aC, .inr (0, [.int v_words, .int v_passages, .int v_wordsInPassage, .int v_rows, .ref a_letters, .ref a_passageOf, .ref a_cues, .ref a_rowOf, .ref a_firstOfRow])), (a_letters, .inl (cI, 120, .inl v_letters)), (a_passageOf, .inl (cI, 120, .inl v_passageOf)), (a_cues, .inl (cI, 120, .inl v_cues)), (a_rowOf, .inl (cI, 120, .inl v_rowOf)), (a_firstOfRow, .inl (cI, 120, .inl v_firstOfRow)), (aT, .inr (2, [.int v_pairs, .ref a_times, .ref a_positions])), (a_times, .inl (cI, 61, .inl v_times)), (a_positions, .inl (cI, 61, .inl v_positions)), (a_kept, .inl (cI, 4, .inl v_kept))]) [1, 2, 3, 4, 5, 6, 7, 8, 9, 10, 11, 12] rfl
        refine vp_callSi (va_Run.run (va_runV (As := [.int p1]) (rest := []) ⟨hx, hb, hml, hown, hts⟩ (c_X1_bestCandidate l dC dI cI cZ cO aS a_settings aC a_letters a_passageOf a_cues a_rowOf a_firstOfRow aT a_times a_positions a_kept p1 v_settings v_words v_passages v_wordsInPassage v_rows v_letters v_passageOf v_cues v_rowOf v_firstOfRow v_pairs v_times v_positions v_kept v_keptCount v_position v_speed v_time v_heardTime v_top v_skips v_repeats v_misses v_jerks v_overruns q_23 hq_23) (cwV 1 hts gX3_best_X1_bestCandidate rfl rfl rfl (by decide +kernel) ⟨Nat.le_of_ble_eq_true rfl, Nat.le_of_ble_eq_true rfl⟩) ⟨fb_rd, va_recv hK hPc (ci := 1) (q0 := 0) rfl rfl, pre_rd hPc hK hN⟩ rfl rfl hl.1 rfl (lv_room (Nat.le_of_ble_eq_true rfl)) dX3_best_23 ⟨Nat.zero_le _, Nat.zero_le _⟩)) (fun z_23 hz_23 => ?_)
        subst hz_23
        refine lv_istore_n (lv' := [(3, .int q_23), (0, .ref aX), (1, .int p1), (2, .int p2)]) hx hb dX3_best_26 rfl hl (by decide) rfl (fun ls hl => ?_)
        refine lv_iload_n hx hb dX3_best_27 rfl (lv_at hl 0 rfl) ?_
        refine lv_bipush (v := (-9 : Int32)) hx hb dX3_best_28 (by decide) ?_
        refine lv_icmp_eq (tgt := 37) hx hb dX3_best_30 (by decide) (fun c_30 => ?_) (fun c_30 => ?_)
        · have hF := (if_pos c_30).symm.trans hF
          refine lv_iload_n hx hb dX3_best_37 rfl (lv_at hl 0 rfl) ?_
          have hF : some q_23 = some r := hF
          cases hF
          subst hQ
          exact W.iret hx hb hr (fun t ht hW => ⟨_, rfl, rfl, ht⟩) (fun q hq => absurd hq List.not_mem_nil) dX3_best_38
        · have hF := (if_neg c_30).symm.trans hF
          refine lv_iload_n hx hb dX3_best_33 rfl (lv_at hl 3 rfl) ?_
          refine lv_if_ne (tgt := 39) hx hb dX3_best_34 (by decide) (fun c_34 => ?_) (fun c_34 => ?_)
          · have hF := (if_neg c_34).symm.trans hF
            refine lv_iload_n hx hb dX3_best_39 rfl (lv_at hl 3 rfl) ?_
            refine lv_iconst (v := (1 : Int32)) hx hb dX3_best_40 (by decide) ?_
            refine lv_icmp_ne (tgt := 53) hx hb dX3_best_41 (by decide) (fun c_41 => ?_) (fun c_41 => ?_)
            · have hF := (if_neg c_41).symm.trans hF
              refine lv_aload_n hx hb dX3_best_53 rfl (lv_at hl 1 rfl) ?_
              refine va_get (D := (dC, dI)) (ci := 3) (v := .ref aS) (C := RX3) (T := TX3) (N := 11) hx hb hts inX3 hown hK hP 0 rfl rfl 5 (by decide) fl23 (fun _ h9 => h9) rfl dX3_best_54 ?_
              refine lv_iload_n hx hb dX3_best_57 rfl (lv_at hl 0 rfl) ?_
              obtain ⟨q_58, hq_58, hF⟩ := bindE hF
              have hPc := hP.sub (ws' := [(aS, .inr (1, [.ref a_settings, .ref aC, .ref aT, .ref a_kept, .int v_keptCount, .int v_position, .int v_speed, .int v_time, .int v_heardTime, .int v_top, .int v_skips, .int v_repeats, .int v_misses, .int v_jerks, .int v_overruns])), (a_settings, .inl (cI, 9, .inl v_settings)), (aC, .inr (0, [.int v_words, .int v_passages, .int v_wordsInPassage, .int v_rows, .ref a_letters, .ref a_passageOf, .ref a_cues, .ref a_rowOf, .ref a_firstOfRow])), (a_letters, .inl (cI, 120, .inl v_letters)), (a_passageOf, .inl (cI, 120, .inl v_passageOf)), (a_cues, .inl (cI, 120, .inl v_cues)), (a_rowOf, .inl (cI, 120, .inl v_rowOf)), (a_firstOfRow, .inl (cI, 120, .inl v_firstOfRow)), (aT, .inr (2, [.int v_pairs, .ref a_times, .ref a_positions])), (a_times, .inl (cI, 61, .inl v_times)), (a_positions, .inl (cI, 61, .inl v_positions)), (a_kept, .inl (cI, 4, .inl v_kept))]) [1, 2, 3, 4, 5, 6, 7, 8, 9, 10, 11, 12] rfl
              refine vp_callSi (va_Run.run (va_runV (As := [.int q_23]) (rest := []) ⟨hx, hb, hml, hown, hts⟩ (c_X1_accepts l dC dI cI cZ cO aS a_settings aC a_letters a_passageOf a_cues a_rowOf a_firstOfRow aT a_times a_positions a_kept q_23 v_settings v_words v_passages v_wordsInPassage v_rows v_letters v_passageOf v_cues v_rowOf v_firstOfRow v_pairs v_times v_positions v_kept v_keptCount v_position v_speed v_time v_heardTime v_top v_skips v_repeats v_misses v_jerks v_overruns q_58 hq_58) (cwV 1 hts gX3_best_X1_accepts rfl rfl rfl (by decide +kernel) ⟨Nat.le_of_ble_eq_true rfl, Nat.le_of_ble_eq_true rfl⟩) ⟨fb_rd, va_recv hK hPc (ci := 1) (q0 := 0) rfl rfl, pre_rd hPc hK hN⟩ rfl rfl hl.1 rfl (lv_room (Nat.le_of_ble_eq_true rfl)) dX3_best_58 ⟨Nat.zero_le _, Nat.zero_le _⟩)) (fun z_58 hz_58 => ?_)
              subst hz_58
              refine lv_if_eq (tgt := 68) hx hb dX3_best_61 (by decide) (fun c_61 => ?_) (fun c_61 => ?_)
              · have hF := (if_pos c_61).symm.trans hF
                refine lv_iconst (v := (0 : Int32)) hx hb dX3_best_68 (by decide) ?_
                have hF : some (0 : Int32) = some r := hF
                cases hF
                subst hQ
                exact W.iret hx hb hr (fun t ht hW => ⟨_, rfl, rfl, ht⟩) (fun q hq => absurd hq List.not_mem_nil) dX3_best_69
              · have hF := (if_neg c_61).symm.trans hF
                refine lv_iconst (v := (1 : Int32)) hx hb dX3_best_64 (by decide) ?_
                refine lv_goto (tgt := 69) hx hb dX3_best_65 (by decide) ?_
                have hF : some (1 : Int32) = some r := hF
                cases hF
                subst hQ
                exact W.iret hx hb hr (fun t ht hW => ⟨_, rfl, rfl, ht⟩) (fun q hq => absurd hq List.not_mem_nil) dX3_best_69
            · have hF := (if_pos c_41).symm.trans hF
              refine lv_aload_n hx hb dX3_best_44 rfl (lv_at hl 1 rfl) ?_
              refine va_get (D := (dC, dI)) (ci := 3) (v := .ref aS) (C := RX3) (T := TX3) (N := 11) hx hb hts inX3 hown hK hP 0 rfl rfl 5 (by decide) fl23 (fun _ h9 => h9) rfl dX3_best_45 ?_
              refine lv_iload_n hx hb dX3_best_48 rfl (lv_at hl 0 rfl) ?_
              obtain ⟨q_49, hq_49, hF⟩ := bindE hF
              have hPc := hP.sub (ws' := [(aS, .inr (1, [.ref a_settings, .ref aC, .ref aT, .ref a_kept, .int v_keptCount, .int v_position, .int v_speed, .int v_time, .int v_heardTime, .int v_top, .int v_skips, .int v_repeats, .int v_misses, .int v_jerks, .int v_overruns])), (a_settings, .inl (cI, 9, .inl v_settings)), (aC, .inr (0, [.int v_words, .int v_passages, .int v_wordsInPassage, .int v_rows, .ref a_letters, .ref a_passageOf, .ref a_cues, .ref a_rowOf, .ref a_firstOfRow])), (a_letters, .inl (cI, 120, .inl v_letters)), (a_passageOf, .inl (cI, 120, .inl v_passageOf)), (a_cues, .inl (cI, 120, .inl v_cues)), (a_rowOf, .inl (cI, 120, .inl v_rowOf)), (a_firstOfRow, .inl (cI, 120, .inl v_firstOfRow)), (aT, .inr (2, [.int v_pairs, .ref a_times, .ref a_positions])), (a_times, .inl (cI, 61, .inl v_times)), (a_positions, .inl (cI, 61, .inl v_positions)), (a_kept, .inl (cI, 4, .inl v_kept))]) [1, 2, 3, 4, 5, 6, 7, 8, 9, 10, 11, 12] rfl
              refine vp_callSi (va_Run.run (va_runV (As := [.int q_23]) (rest := []) ⟨hx, hb, hml, hown, hts⟩ (c_X1_points l dC dI cI cZ cO aS a_settings aC a_letters a_passageOf a_cues a_rowOf a_firstOfRow aT a_times a_positions a_kept q_23 v_settings v_words v_passages v_wordsInPassage v_rows v_letters v_passageOf v_cues v_rowOf v_firstOfRow v_pairs v_times v_positions v_kept v_keptCount v_position v_speed v_time v_heardTime v_top v_skips v_repeats v_misses v_jerks v_overruns q_49 hq_49) (cwV 1 hts gX3_best_X1_points rfl rfl rfl (by decide +kernel) ⟨Nat.le_of_ble_eq_true rfl, Nat.le_of_ble_eq_true rfl⟩) ⟨fb_rd, va_recv hK hPc (ci := 1) (q0 := 0) rfl rfl, pre_rd hPc hK hN⟩ rfl rfl hl.1 rfl (lv_room (Nat.le_of_ble_eq_true rfl)) dX3_best_49 ⟨Nat.zero_le _, Nat.zero_le _⟩)) (fun z_49 hz_49 => ?_)
              subst hz_49
              have hF : some q_49 = some r := hF
              cases hF
              subst hQ
              exact W.iret hx hb hr (fun t ht hW => ⟨_, rfl, rfl, ht⟩) (fun q hq => absurd hq List.not_mem_nil) dX3_best_52
          · have hF := (if_pos c_34).symm.trans hF
            refine lv_iload_n hx hb dX3_best_37 rfl (lv_at hl 0 rfl) ?_
            have hF : some q_23 = some r := hF
            cases hF
            subst hQ
            exact W.iret hx hb hr (fun t ht hW => ⟨_, rfl, rfl, ht⟩) (fun q hq => absurd hq List.not_mem_nil) dX3_best_38
      · have hF := (if_neg c_13).symm.trans hF
        refine lv_iconst (v := (-1 : Int32)) hx hb dX3_best_16 (by decide) ?_
        have hF : some (-1 : Int32) = some r := hF
        cases hF
        subst hQ
        exact W.iret hx hb hr (fun t ht hW => ⟨_, rfl, rfl, ht⟩) (fun q hq => absurd hq List.not_mem_nil) dX3_best_17
def f_X3_mean (v_words : Int32) (v_rows : Int32) : Option UInt32 :=
  if v_rows ≤ (0 : Int32) then
    some FP.fconst0
  else
    if ¬ ((FP.fdiv (FP.i2f v_words) (FP.i2f v_rows)) &&& 0x7fffffff ≤ 0x7f800000) then none else
    some (FP.fdiv (FP.i2f v_words) (FP.i2f v_rows))
def rm_X3_mean : Room := { frames := 0, cells := 0, slots := 0, locals := 0 }
set_option maxHeartbeats 4000000 in
set_option maxRecDepth 100000 in
theorem c_X3_mean (l : Launch) (dC : Nat → ClassId) (dI : Nat → Nat → Nat) (cI cZ cO : ClassId) (aX aS a_settings aC a_letters a_passageOf a_cues a_rowOf a_firstOfRow aT a_times a_positions a_kept a_text d_aC c_aS a_history a_images a_imageKept : Nat) (v_textLength : Int32) (v_faultKind : Int32) (v_faultPlace : Int32) (v_settings : (Nat → Int32)) (v_words : Int32) (v_passages : Int32) (v_wordsInPassage : Int32) (v_rows : Int32) (v_letters : (Nat → Int32)) (v_passageOf : (Nat → Int32)) (v_cues : (Nat → Int32)) (v_rowOf : (Nat → Int32)) (v_firstOfRow : (Nat → Int32)) (v_pairs : Int32) (v_times : (Nat → Int32)) (v_positions : (Nat → Int32)) (v_kept : (Nat → Int32)) (v_keptCount : Int32) (v_position : Int32) (v_speed : Int32) (v_time : Int32) (v_heardTime : Int32) (v_top : Int32) (v_skips : Int32) (v_repeats : Int32) (v_misses : Int32) (v_jerks : Int32) (v_overruns : Int32) (v_undoable : Int32) (r : UInt32) (hF : f_X3_mean v_words v_rows = some r) : Met l yX3_mean wsX3_mean rm_X3_mean (va_Pc [.ref aX] (rdW dC dI cI cZ cO [(aX, .inr (3, [.ref a_text, .int v_textLength, .int v_faultKind, .int v_faultPlace, .ref d_aC, .ref aS, .ref c_aS, .ref a_history, .int v_undoable, .ref a_images, .ref a_imageKept])), (aS, .inr (1, [.ref a_settings, .ref aC, .ref aT, .ref a_kept, .int v_keptCount, .int v_position, .int v_speed, .int v_time, .int v_heardTime, .int v_top, .int v_skips, .int v_repeats, .int v_misses, .int v_jerks, .int v_overruns])), (a_settings, .inl (cI, 9, .inl v_settings)), (aC, .inr (0, [.int v_words, .int v_passages, .int v_wordsInPassage, .int v_rows, .ref a_letters, .ref a_passageOf, .ref a_cues, .ref a_rowOf, .ref a_firstOfRow])), (a_letters, .inl (cI, 120, .inl v_letters)), (a_passageOf, .inl (cI, 120, .inl v_passageOf)), (a_cues, .inl (cI, 120, .inl v_cues)), (a_rowOf, .inl (cI, 120, .inl v_rowOf)), (a_firstOfRow, .inl (cI, 120, .inl v_firstOfRow)), (aT, .inr (2, [.int v_pairs, .ref a_times, .ref a_positions])), (a_times, .inl (cI, 61, .inl v_times)), (a_positions, .inl (cI, 61, .inl v_positions)), (a_kept, .inl (cI, 4, .inl v_kept))])) (vp_Sf (fun q => r = q)) 0 0 (fun _ => False) := by
  refine Met.ofW (cc := cX3_mean) (maxL := 2) (ret := (some .float)) (by decide) rfl ?_
  intro p e s m args below meth c s₁ B hml hv
  obtain ⟨rfl, hP, hK, hN⟩ := hv
  have hx := B.exec
  have hb := B.bytes
  have hr := B.returns
  have hts := atoms_spec (ws := wsX3_mean) B.pre
  have hown : s.vm.findClass RX3 = some m.cls := findClass_of_methodNamed B.named
  have hlocks := B.notSynchronized
  obtain ⟨Q, hQ⟩ : ∃ Q, Q = MQ below (vp_Sf (fun q => r = q)) ([.ref aX] : List Value).toArray s 0 0 (fun _ => False) := ⟨_, rfl⟩
  rw [← hQ]
  have hS : va_S (fun _ => False) s.heap s.heap [] := va_S.rf
  have fl23 := hts (.fieldLink RX3 23 "Teleprompter" "now" "LTeleprompter$State;") (by decide +kernel)
  have fl69 := hts (.fieldLink RX3 69 "Teleprompter$State" "script" "LTeleprompter$Script;") (by decide +kernel)
  have fl145 := hts (.fieldLink RX3 145 "Teleprompter$Script" "rows" "I") (by decide +kernel)
  have fl72 := hts (.fieldLink RX3 72 "Teleprompter$Script" "words" "I") (by decide +kernel)
  have inX3 : ∀ w ∈ u_ws RX3 TX3 11, w ∈ wsX3_mean := by decide +kernel
  have inX1 : ∀ w ∈ u_ws RX1 TX1 15, w ∈ wsX3_mean := by decide +kernel
  have inX0 : ∀ w ∈ u_ws RX0 TX0 9, w ∈ wsX3_mean := by decide +kernel
  have hl := lv_entry ([.ref aX]) (n := 2) (Nat.le_of_ble_eq_true rfl)
  rw [lg_entry_eq]
  generalize (lg_sl ([.ref aX]) ++ List.replicate (2 - (lg_sl ([.ref aX])).length) Slot.unset).toArray = ls at hl ⊢
  have hl : lv_has ls 2 [(0, .ref aX)] := hl
  unfold f_X3_mean at hF
  refine lv_aload_n hx hb dX3_mean_0 rfl (lv_at hl 0 rfl) ?_
  refine va_get (D := (dC, dI)) (ci := 3) (v := .ref aS) (C := RX3) (T := TX3) (N := 11) hx hb hts inX3 hown hK hP 0 rfl rfl 5 (by decide) fl23 (fun _ h9 => h9) rfl dX3_mean_1 ?_
  refine va_get (D := (dC, dI)) (ci := 1) (v := .ref aC) (C := RX1) (T := TX1) (N := 15) hx hb hts inX1 hown hK hP 1 rfl rfl 1 (by decide) fl69 (fun _ h9 => h9) rfl dX3_mean_4 ?_
  refine va_get (D := (dC, dI)) (ci := 0) (v := .int v_rows) (C := RX0) (T := TX0) (N := 9) hx hb hts inX0 hown hK hP 3 rfl rfl 3 (by decide) fl145 (fun _ h9 => h9) rfl dX3_mean_7 ?_
  refine lv_istore_n (lv' := [(1, .int v_rows), (0, .ref aX)]) hx hb dX3_mean_10 rfl hl (by decide) rfl (fun ls hl => ?_)
  refine lv_iload_n hx hb dX3_mean_11 rfl (lv_at hl 0 rfl) ?_
  refine lv_if_le (tgt := 32) hx hb dX3_mean_12 (by decide) (fun c_12 => ?_) (fun c_12 => ?_)
  · have hF := (if_pos c_12).symm.trans hF
    refine lv_fconst0 hx hb dX3_mean_32 ?_
    have hF : some FP.fconst0 = some r := hF
    cases hF
    subst hQ
    exact W.fret hx hb hr (fun t ht hW => ⟨_, rfl, rfl, ht⟩) (fun q hq => absurd hq List.not_mem_nil) dX3_mean_33
  · have hF := (if_neg c_12).symm.trans hF
    refine lv_aload_n hx hb dX3_mean_15 rfl (lv_at hl 1 rfl) ?_
    refine va_get (D := (dC, dI)) (ci := 3) (v := .ref aS) (C := RX3) (T := TX3) (N := 11) hx hb hts inX3 hown hK hP 0 rfl rfl 5 (by decide) fl23 (fun _ h9 => h9) rfl dX3_mean_16 ?_
    refine va_get (D := (dC, dI)) (ci := 1) (v := .ref aC) (C := RX1) (T := TX1) (N := 15) hx hb hts inX1 hown hK hP 1 rfl rfl 1 (by decide) fl69 (fun _ h9 => h9) rfl dX3_mean_19 ?_
    refine va_get (D := (dC, dI)) (ci := 0) (v := .int v_words) (C := RX0) (T := TX0) (N := 9) hx hb hts inX0 hown hK hP 3 rfl rfl 0 (by decide) fl72 (fun _ h9 => h9) rfl dX3_mean_22 ?_
    refine lv_i2f hx hb dX3_mean_25 ?_
    refine lv_iload_n hx hb dX3_mean_26 rfl (lv_at hl 0 rfl) ?_
    refine lv_i2f hx hb dX3_mean_27 ?_
    by_cases b_28 : ¬ ((FP.fdiv (FP.i2f v_words) (FP.i2f v_rows)) &&& 0x7fffffff ≤ 0x7f800000)
    · exact noneE ((if_pos b_28).symm.trans hF)
    have hF := (if_neg b_28).symm.trans hF
    have b_28 := Decidable.of_not_not b_28
    refine lv_fdiv hx hb dX3_mean_28 b_28 ?_
    refine lv_goto (tgt := 33) hx hb dX3_mean_29 (by decide) ?_
    have hF : some (FP.fdiv (FP.i2f v_words) (FP.i2f v_rows)) = some r := hF
    cases hF
    subst hQ
    exact W.fret hx hb hr (fun t ht hW => ⟨_, rfl, rfl, ht⟩) (fun q hq => absurd hq List.not_mem_nil) dX3_mean_33
