def f_X1_points_2 (v_letters : (Nat → Int32)) (v_kept : (Nat → Int32)) (v_keptCount : Int32) (x1 : Int32) : Nat → Int32 → Option Int32
  | 0, _ => none
  | n + 1, x2 =>
    if (4 : Int32) ≤ x2 then
      some x2
    else
      if v_keptCount < x2 then
        some x2
      else
        if x1 < x2 then
          some x2
        else
          (f_X3_at 4 (x2 - (1 : Int32)) v_kept).bind fun q27 =>
          (f_X3_at 120 (x1 - x2) v_letters).bind fun q40 =>
          if q27 = q40 then
            f_X1_points_2 v_letters v_kept v_keptCount x1 n (x2 + 1)
          else
            some x2
def f_X1_points (p1 : Int32) (v_letters : (Nat → Int32)) (v_kept : (Nat → Int32)) (v_keptCount : Int32) : Option Int32 :=
  f_X1_points_2 v_letters v_kept v_keptCount p1 gas (1 : Int32)
def rm_X1_points : Room := { frames := 1, cells := 0, slots := 0, locals := 21 }
set_option maxHeartbeats 4000000 in
set_option maxRecDepth 100000 in
theorem c_X1_points (l : Launch) (dC : Nat → ClassId) (dI : Nat → Nat → Nat) (cI cZ cO : ClassId) (aS a_settings aC a_letters a_passageOf a_cues a_rowOf a_firstOfRow aT a_times a_positions a_kept : Nat) (p1 : Int32) (v_settings : (Nat → Int32)) (v_words : Int32) (v_passages : Int32) (v_wordsInPassage : Int32) (v_rows : Int32) (v_letters : (Nat → Int32)) (v_passageOf : (Nat → Int32)) (v_cues : (Nat → Int32)) (v_rowOf : (Nat → Int32)) (v_firstOfRow : (Nat → Int32)) (v_pairs : Int32) (v_times : (Nat → Int32)) (v_positions : (Nat → Int32)) (v_kept : (Nat → Int32)) (v_keptCount : Int32) (v_position : Int32) (v_speed : Int32) (v_time : Int32) (v_heardTime : Int32) (v_top : Int32) (v_skips : Int32) (v_repeats : Int32) (v_misses : Int32) (v_jerks : Int32) (v_overruns : Int32) (r : Int32) (hF : f_X1_points p1 v_letters v_kept v_keptCount = some r) : Met l yX1_points wsX1_points rm_X1_points (va_Pc [.ref aS, .int p1] (rdW dC dI cI cZ cO [(aS, .inr (1, [.ref a_settings, .ref aC, .ref aT, .ref a_kept, .int v_keptCount, .int v_position, .int v_speed, .int v_time, .int v_heardTime, .int v_top, .int v_skips, .int v_repeats, .int v_misses, .int v_jerks, .int v_overruns])), (a_settings, .inl (cI, 9, .inl v_settings)), (aC, .inr (0, [.int v_words, .int v_passages, .int v_wordsInPassage, .int v_rows, .ref a_letters, .ref a_passageOf, .ref a_cues, .ref a_rowOf, .ref a_firstOfRow])), (a_letters, .inl (cI, 120, .inl v_letters)), (a_passageOf, .inl (cI, 120, .inl v_passageOf)), (a_cues, .inl (cI, 120, .inl v_cues)), (a_rowOf, .inl (cI, 120, .inl v_rowOf)), (a_firstOfRow, .inl (cI, 120, .inl v_firstOfRow)), (aT, .inr (2, [.int v_pairs, .ref a_times, .ref a_positions])), (a_times, .inl (cI, 61, .inl v_times)), (a_positions, .inl (cI, 61, .inl v_positions)), (a_kept, .inl (cI, 4, .inl v_kept))])) (vp_Si (fun q => r = q)) 0 0 (fun _ => False) := by
  refine Met.ofW (cc := cX1_points) (maxL := 3) (ret := (some .int)) (by decide) rfl ?_
  intro p e s m args below meth c s₁ B hml hv
  obtain ⟨rfl, hP, hK, hN⟩ := hv
  have hx := B.exec
  have hb := B.bytes
  have hr := B.returns
  have hts := atoms_spec (ws := wsX1_points) B.pre
  have hown : s.vm.findClass RX1 = some m.cls := findClass_of_methodNamed B.named
  have hlocks := B.notSynchronized
  obtain ⟨Q, hQ⟩ : ∃ Q, Q = MQ below (vp_Si (fun q => r = q)) ([.ref aS, .int p1] : List Value).toArray s 0 0 (fun _ => False) := ⟨_, rfl⟩
  rw [← hQ]
  have hS : va_S (fun _ => False) s.heap s.heap [] := va_S.rf
  have fl43 := hts (.fieldLink RX1 43 "Teleprompter$State" "keptCount" "I") (by decide +kernel)
  have fl29 := hts (.fieldLink RX1 29 "Teleprompter$State" "kept" "[I") (by decide +kernel)
  have fl18 := hts (.fieldLink RX1 18 "Teleprompter$State" "script" "LTeleprompter$Script;") (by decide +kernel)
  have fl129 := hts (.fieldLink RX1 129 "Teleprompter$Script" "letters" "[I") (by decide +kernel)
  have inX1 : ∀ w ∈ u_ws RX1 TX1 15, w ∈ wsX1_points := by decide +kernel
  have inX0 : ∀ w ∈ u_ws RX0 TX0 9, w ∈ wsX1_points := by decide +kernel
  have hl := lv_entry ([.ref aS, .int p1]) (n := 3) (Nat.le_of_ble_eq_true rfl)
  rw [lg_entry_eq]
  generalize (lg_sl ([.ref aS, .int p1]) ++ List.replicate (3 - (lg_sl ([.ref aS, .int p1])).length) Slot.unset).toArray = ls at hl ⊢
  have hl : lv_has ls 3 [(0, .ref aS), (1, .int p1)] := hl
  have B2 : ∀ (n_2 : Nat) (x1_2 : Int32) (x2_2 : Int32), f_X1_points_2 v_letters v_kept v_keptCount x1_2 n_2 x2_2 = some r → ∀ ls : Array Slot, lv_has ls 3 [(0, .ref aS), (1, .int x1_2), (2, .int x2_2)] → W p l e (headSpec wsX1_points rm_X1_points).room s m ([.ref aS, .int p1] : List Value).toArray below meth c s.heap [] 0 0 Q (F0 m 2 ls []) := by
    intro n_2
    induction n_2 with
    | zero => intro x1_2 x2_2 hF; exact noneE hF
    | succ n_2 ih2 =>
      intro x1_2 x2_2 hF ls hl
      rw [f_X1_points_2] at hF
      refine lv_iload_n hx hb dX1_points_2 rfl (lv_at hl 2 rfl) ?_
      refine lv_iconst (v := (4 : Int32)) hx hb dX1_points_3 (by decide) ?_
      refine lv_icmp_ge (tgt := 52) hx hb dX1_points_4 (by decide) (fun c_4 => ?_) (fun c_4 => ?_)
      · have hF := (if_pos c_4).symm.trans hF
        refine lv_iload_n hx hb dX1_points_52 rfl (lv_at hl 2 rfl) ?_
        have hF : some x2_2 = some r := hF
        cases hF
        subst hQ
        exact W.iret hx hb hr (fun t ht hW => ⟨_, rfl, rfl, ht⟩) (fun q hq => absurd hq List.not_mem_nil) dX1_points_53
      · have hF := (if_neg c_4).symm.trans hF
        refine lv_iload_n hx hb dX1_points_7 rfl (lv_at hl 2 rfl) ?_
        refine lv_aload_n hx hb dX1_points_8 rfl (lv_at hl 0 rfl) ?_
        refine va_get (D := (dC, dI)) (ci := 1) (v := .int v_keptCount) (C := RX1) (T := TX1) (N := 15) hx hb hts inX1 hown hK hP 0 rfl rfl 4 (by decide) fl43 (fun _ h9 => h9) rfl dX1_points_9 ?_
        refine lv_icmp_gt (tgt := 52) hx hb dX1_points_12 (by decide) (fun c_12 => ?_) (fun c_12 => ?_)
        · have hF := (if_pos c_12).symm.trans hF
          refine lv_iload_n hx hb dX1_points_52 rfl (lv_at hl 2 rfl) ?_
          have hF : some x2_2 = some r := hF
          cases hF
          subst hQ
          exact W.iret hx hb hr (fun t ht hW => ⟨_, rfl, rfl, ht⟩) (fun q hq => absurd hq List.not_mem_nil) dX1_points_53
        · have hF := (if_neg c_12).symm.trans hF
          refine lv_iload_n hx hb dX1_points_15 rfl (lv_at hl 2 rfl) ?_
          refine lv_iload_n hx hb dX1_points_16 rfl (lv_at hl 1 rfl) ?_
          refine lv_icmp_gt (tgt := 52) hx hb dX1_points_17 (by decide) (fun c_17 => ?_) (fun c_17 => ?_)
          · have hF := (if_pos c_17).symm.trans hF
            refine lv_iload_n hx hb dX1_points_52 rfl (lv_at hl 2 rfl) ?_
            have hF : some x2_2 = some r := hF
            cases hF
            subst hQ
            exact W.iret hx hb hr (fun t ht hW => ⟨_, rfl, rfl, ht⟩) (fun q hq => absurd hq List.not_mem_nil) dX1_points_53
          · have hF := (if_neg c_17).symm.trans hF
            refine lv_aload_n hx hb dX1_points_20 rfl (lv_at hl 0 rfl) ?_
            refine va_get (D := (dC, dI)) (ci := 1) (v := .ref a_kept) (C := RX1) (T := TX1) (N := 15) hx hb hts inX1 hown hK hP 0 rfl rfl 3 (by decide) fl29 (fun _ h9 => h9) rfl dX1_points_21 ?_
            refine lv_iload_n hx hb dX1_points_24 rfl (lv_at hl 2 rfl) ?_
            refine lv_iconst (v := (1 : Int32)) hx hb dX1_points_25 (by decide) ?_
            refine lv_isub hx hb dX1_points_26 ?_
            obtain ⟨q_27, hq_27, hF⟩ := bindE hF
            have hPc := hP.sub (ws' := [(a_kept, .inl (cI, 4, .inl v_kept))]) [11] rfl
            refine vp_callSi (va_Run.run (va_runSN (As := [.ref a_kept, .int (x2_2 - (1 : Int32))]) (rest := []) ⟨hx, hb, hml, hown, hts⟩ (c_X3_at l dC dI cI cZ cO a_kept 4 (x2_2 - (1 : Int32)) v_kept q_27 hq_27) ⟨(va_cnB 2 hts gX1_points_X3_at_n77 rfl rfl rfl (NW_X1_77 hN) (hts (.initialized RX3) (by decide +kernel)) (by decide +kernel) ⟨Nat.le_of_ble_eq_true rfl, Nat.le_of_ble_eq_true rfl⟩), hts (.static yX3_at) (by decide +kernel), trivial⟩ ⟨fb_rd, pre_rd hPc hK hN⟩ rfl rfl hl.1 rfl (lv_room (Nat.le_of_ble_eq_true rfl)) dX1_points_27 ⟨Nat.zero_le _, Nat.zero_le _⟩)) (fun z_27 hz_27 => ?_)
            subst hz_27
            refine lv_aload_n hx hb dX1_points_30 rfl (lv_at hl 0 rfl) ?_
            refine va_get (D := (dC, dI)) (ci := 1) (v := .ref aC) (C := RX1) (T := TX1) (N := 15) hx hb hts inX1 hown hK hP 0 rfl rfl 1 (by decide) fl18 (fun _ h9 => h9) rfl dX1_points_31 ?_
            refine va_get (D := (dC, dI)) (ci := 0) (v := .ref a_letters) (C := RX0) (T := TX0) (N := 9) hx hb hts inX0 hown hK hP 2 rfl rfl 4 (by decide) fl129 (fun _ h9 => h9) rfl dX1_points_34 ?_
            refine lv_iload_n hx hb dX1_points_37 rfl (lv_at hl 1 rfl) ?_
            refine lv_iload_n hx hb dX1_points_38 rfl (lv_at hl 2 rfl) ?_
            refine lv_isub hx hb dX1_points_39 ?_
            obtain ⟨q_40, hq_40, hF⟩ := bindE hF
            have hPc := hP.sub (ws' := [(a_letters, .inl (cI, 120, .inl v_letters))]) [3] rfl
            refine vp_callSi (va_Run.run (va_runSN (As := [.ref a_letters, .int (x1_2 - x2_2)]) (rest := [.int q_27]) ⟨hx, hb, hml, hown, hts⟩ (c_X3_at l dC dI cI cZ cO a_letters 120 (x1_2 - x2_2) v_letters q_40 hq_40) ⟨(va_cnB 2 hts gX1_points_X3_at_n77 rfl rfl rfl (NW_X1_77 hN) (hts (.initialized RX3) (by decide +kernel)) (by decide +kernel) ⟨Nat.le_of_ble_eq_true rfl, Nat.le_of_ble_eq_true rfl⟩), hts (.static yX3_at) (by decide +kernel), trivial⟩ ⟨fb_rd, pre_rd hPc hK hN⟩ rfl rfl hl.1 rfl (lv_room (Nat.le_of_ble_eq_true rfl)) dX1_points_40 ⟨Nat.zero_le _, Nat.zero_le _⟩)) (fun z_40 hz_40 => ?_)
            subst hz_40
            refine lv_icmp_ne (tgt := 52) hx hb dX1_points_43 (by decide) (fun c_43 => ?_) (fun c_43 => ?_)
            · have hF := (if_neg c_43).symm.trans hF
              refine lv_iload_n hx hb dX1_points_52 rfl (lv_at hl 2 rfl) ?_
              have hF : some x2_2 = some r := hF
              cases hF
              subst hQ
              exact W.iret hx hb hr (fun t ht hW => ⟨_, rfl, rfl, ht⟩) (fun q hq => absurd hq List.not_mem_nil) dX1_points_53
            · have hF := (if_pos c_43).symm.trans hF
              refine lv_iinc (v := (x2_2 + 1)) (lv' := [(2, .int (x2_2 + 1)), (0, .ref aS), (1, .int x1_2)]) hx hb dX1_points_46 hl (k := 2) rfl rfl (by decide) rfl (fun ls hl => ?_)
              refine lv_goto (tgt := 2) hx hb dX1_points_49 (by decide) ?_
              exact ih2 x1_2 (x2_2 + 1) hF _ (lv_sub hl [1, 2, 0] rfl)
  unfold f_X1_points at hF
  refine lv_iconst (v := (1 : Int32)) hx hb dX1_points_0 (by decide) ?_
  refine lv_istore_n (lv' := [(2, .int (1 : Int32)), (0, .ref aS), (1, .int p1)]) hx hb dX1_points_1 rfl hl (by decide) rfl (fun ls hl => ?_)
  exact B2 gas p1 (1 : Int32) hF _ (lv_sub hl [1, 2, 0] rfl)
def f_X1_isBetter (p1 : Int32) (p2 : Int32) (v_letters : (Nat → Int32)) (v_kept : (Nat → Int32)) (v_keptCount : Int32) (v_position : Int32) : Option Int32 :=
  (f_X1_points p1 v_letters v_kept v_keptCount).bind fun q2 =>
  (f_X1_points p2 v_letters v_kept v_keptCount).bind fun q8 =>
  if q2 = q8 then
    if (if 0 ≤ (p2 - v_position) then (p2 - v_position) else 0 - (p2 - v_position)) ≤ (if 0 ≤ (p1 - v_position) then (p1 - v_position) else 0 - (p1 - v_position)) then
      some (0 : Int32)
    else
      some (1 : Int32)
  else
    if q2 ≤ q8 then
      some (0 : Int32)
    else
      some (1 : Int32)
def rm_X1_isBetter : Room := { frames := 2, cells := 0, slots := 0, locals := 43 }
set_option maxHeartbeats 4000000 in
set_option maxRecDepth 100000 in
theorem c_X1_isBetter (l : Launch) (dC : Nat → ClassId) (dI : Nat → Nat → Nat) (cI cZ cO : ClassId) (aS a_settings aC a_letters a_passageOf a_cues a_rowOf a_firstOfRow aT a_times a_positions a_kept : Nat) (p1 : Int32) (p2 : Int32) (v_settings : (Nat → Int32)) (v_words : Int32) (v_passages : Int32) (v_wordsInPassage : Int32) (v_rows : Int32) (v_letters : (Nat → Int32)) (v_passageOf : (Nat → Int32)) (v_cues : (Nat → Int32)) (v_rowOf : (Nat → Int32)) (v_firstOfRow : (Nat → Int32)) (v_pairs : Int32) (v_times : (Nat → Int32)) (v_positions : (Nat → Int32)) (v_kept : (Nat → Int32)) (v_keptCount : Int32) (v_position : Int32) (v_speed : Int32) (v_time : Int32) (v_heardTime : Int32) (v_top : Int32) (v_skips : Int32) (v_repeats : Int32) (v_misses : Int32) (v_jerks : Int32) (v_overruns : Int32) (r : Int32) (hF : f_X1_isBetter p1 p2 v_letters v_kept v_keptCount v_position = some r) : Met l yX1_isBetter wsX1_isBetter rm_X1_isBetter (va_Pc [.ref aS, .int p1, .int p2] (rdW dC dI cI cZ cO [(aS, .inr (1, [.ref a_settings, .ref aC, .ref aT, .ref a_kept, .int v_keptCount, .int v_position, .int v_speed, .int v_time, .int v_heardTime, .int v_top, .int v_skips, .int v_repeats, .int v_misses, .int v_jerks, .int v_overruns])), (a_settings, .inl (cI, 9, .inl v_settings)), (aC, .inr (0, [.int v_words, .int v_passages, .int v_wordsInPassage, .int v_rows, .ref a_letters, .ref a_passageOf, .ref a_cues, .ref a_rowOf, .ref a_firstOfRow])), (a_letters, .inl (cI, 120, .inl v_letters)), (a_passageOf, .inl (cI, 120, .inl v_passageOf)), (a_cues, .inl (cI, 120, .inl v_cues)), (a_rowOf, .inl (cI, 120, .inl v_rowOf)), (a_firstOfRow, .inl (cI, 120, .inl v_firstOfRow)), (aT, .inr (2, [.int v_pairs, .ref a_times, .ref a_positions])), (a_times, .inl (cI, 61, .inl v_times)), (a_positions, .inl (cI, 61, .inl v_positions)), (a_kept, .inl (cI, 4, .inl v_kept))])) (vp_Si (fun q => r = q)) 0 0 (fun _ => False) := by
  refine Met.ofW (cc := cX1_isBetter) (maxL := 5) (ret := (some .boolean)) (by decide) rfl ?_
  intro p e s m args below meth c s₁ B hml hv
  obtain ⟨rfl, hP, hK, hN⟩ := hv
  have hx := B.exec
  have hb := B.bytes
  have hr := B.returns
  have hts := atoms_spec (ws := wsX1_isBetter) B.pre
  have hown : s.vm.findClass RX1 = some m.cls := findClass_of_methodNamed B.named
  have hlocks := B.notSynchronized
  obtain ⟨Q, hQ⟩ : ∃ Q, Q = MQ below (vp_Si (fun q => r = q)) ([.ref aS, .int p1, .int p2] : List Value).toArray s 0 0 (fun _ => False) := ⟨_, rfl⟩
  rw [← hQ]
  have hS : va_S (fun _ => False) s.heap s.heap [] := va_S.rf
  have fl47 := hts (.fieldLink RX1 47 "Teleprompter$State" "position" "I") (by decide +kernel)
  have ml139 := hts (.methodLink RX1 139 Lib.Math.abs.name) (by decide +kernel)
  have ls_mabs := hts (.static Lib.Math.abs.name) (by decide +kernel)
  have lmI := hts (.initialized "java/lang/Math") (by decide +kernel)
  have lc_mabs := hts (.code Lib.Math.abs.name Lib.Math.abs.code 1 (some .int)) (by decide +kernel)
  have inX1 : ∀ w ∈ u_ws RX1 TX1 15, w ∈ wsX1_isBetter := by decide +kernel
  have hl := lv_entry ([.ref aS, .int p1, .int p2]) (n := 5) (Nat.le_of_ble_eq_true rfl)
  rw [lg_entry_eq]
  generalize (lg_sl ([.ref aS, .int p1, .int p2]) ++ List.replicate (5 - (lg_sl ([.ref aS, .int p1, .int p2])).length) Slot.unset).toArray = ls at hl ⊢
  have hl : lv_has ls 5 [(0, .ref aS), (1, .int p1), (2, .int p2)] := hl
  unfold f_X1_isBetter at hF
  refine lv_aload_n hx hb dX1_isBetter_0 rfl (lv_at hl 0 rfl) ?_
  refine lv_iload_n hx hb dX1_isBetter_1 rfl (lv_at hl 1 rfl) ?_
  obtain ⟨q_2, hq_2, hF⟩ := bindE hF
  have hPc := hP
  refine vp_callSi (va_Run.run (va_runV (As := [.int p1]) (rest := []) ⟨hx, hb, hml, hown, hts⟩ (c_X1_points l dC dI cI cZ cO aS a_settings aC a_letters a_passageOf a_cues a_rowOf a_firstOfRow aT a_times a_positions a_kept p1 v_settings v_words v_passages v_wordsInPassage v_rows v_letters v_passageOf v_cues v_rowOf v_firstOfRow v_pairs v_times v_positions v_kept v_keptCount v_position v_speed v_time v_heardTime v_top v_skips v_repeats v_misses v_jerks v_overruns q_2 hq_2) (cwV 1 hts gX1_isBetter_X1_points rfl rfl rfl (by decide +kernel) ⟨Nat.le_of_ble_eq_true rfl, Nat.le_of_ble_eq_true rfl⟩) ⟨fb_rd, va_recv hK hPc (ci := 1) (q0 := 0) rfl rfl, pre_rd hPc hK hN⟩ rfl rfl hl.1 rfl (lv_room (Nat.le_of_ble_eq_true rfl)) dX1_isBetter_2 ⟨Nat.zero_le _, Nat.zero_le _⟩)) (fun z_2 hz_2 => ?_)
  subst hz_2
  refine lv_istore_n (lv' := [(3, .int q_2), (0, .ref aS), (1, .int p1), (2, .int p2)]) hx hb dX1_isBetter_5 rfl hl (by decide) rfl (fun ls hl => ?_)
  refine lv_aload_n hx hb dX1_isBetter_6 rfl (lv_at hl 1 rfl) ?_
  refine lv_iload_n hx hb dX1_isBetter_7 rfl (lv_at hl 3 rfl) ?_
  obtain ⟨q_8, hq_8, hF⟩ := bindE hF
  have hPc := hP
  refine vp_callSi (va_Run.run (va_runV (As := [.int p2]) (rest := []) ⟨hx, hb, hml, hown, hts⟩ (c_X1_points l dC dI cI cZ cO aS a_settings aC a_letters a_passageOf a_cues a_rowOf a_firstOfRow aT a_times a_positions a_kept p2 v_settings v_words v_passages v_wordsInPassage v_rows v_letters v_passageOf v_cues v_rowOf v_firstOfRow v_pairs v_times v_positions v_kept v_keptCount v_position v_speed v_time v_heardTime v_top v_skips v_repeats v_misses v_jerks v_overruns q_8 hq_8) (cwV 1 hts gX1_isBetter_X1_points rfl rfl rfl (by decide +kernel) ⟨Nat.le_of_ble_eq_true rfl, Nat.le_of_ble_eq_true rfl⟩) ⟨fb_rd, va_recv hK hPc (ci := 1) (q0 := 0) rfl rfl, pre_rd hPc hK hN⟩ rfl rfl hl.1 rfl (lv_room (Nat.le_of_ble_eq_true rfl)) dX1_isBetter_8 ⟨Nat.zero_le _, Nat.zero_le _⟩)) (fun z_8 hz_8 => ?_)
  subst hz_8
  refine lv_istore (lv' := [(4, .int q_8), (3, .int q_2), (0, .ref aS), (1, .int p1), (2, .int p2)]) hx hb dX1_isBetter_11 hl (by decide) rfl (fun ls hl => ?_)
  refine lv_iload_n hx hb dX1_isBetter_13 rfl (lv_at hl 1 rfl) ?_
  refine lv_iload hx hb dX1_isBetter_14 (lv_at hl 0 rfl) ?_
  refine lv_icmp_eq (tgt := 31) hx hb dX1_isBetter_16 (by decide) (fun c_16 => ?_) (fun c_16 => ?_)
  · have hF := (if_pos c_16).symm.trans hF
    refine lv_iload_n hx hb dX1_isBetter_31 rfl (lv_at hl 3 rfl) ?_
    refine lv_aload_n hx hb dX1_isBetter_32 rfl (lv_at hl 2 rfl) ?_
    refine va_get (D := (dC, dI)) (ci := 1) (v := .int v_position) (C := RX1) (T := TX1) (N := 15) hx hb hts inX1 hown hK hP 0 rfl rfl 5 (by decide) fl47 (fun _ h9 => h9) rfl dX1_isBetter_33 ?_
    refine lv_isub hx hb dX1_isBetter_36 ?_
    refine va_mabs hx hb (by rw [hml]; exact hl.1.symm) hown ml139 ls_mabs lmI lc_mabs (Nat.le_of_ble_eq_true rfl) (Nat.le_of_ble_eq_true rfl) (Nat.zero_le _) (Nat.zero_le _) dX1_isBetter_37 ?_
    refine lv_iload_n hx hb dX1_isBetter_40 rfl (lv_at hl 4 rfl) ?_
    refine lv_aload_n hx hb dX1_isBetter_41 rfl (lv_at hl 2 rfl) ?_
    refine va_get (D := (dC, dI)) (ci := 1) (v := .int v_position) (C := RX1) (T := TX1) (N := 15) hx hb hts inX1 hown hK hP 0 rfl rfl 5 (by decide) fl47 (fun _ h9 => h9) rfl dX1_isBetter_42 ?_
    refine lv_isub hx hb dX1_isBetter_45 ?_
    refine va_mabs hx hb (by rw [hml]; exact hl.1.symm) hown ml139 ls_mabs lmI lc_mabs (Nat.le_of_ble_eq_true rfl) (Nat.le_of_ble_eq_true rfl) (Nat.zero_le _) (Nat.zero_le _) dX1_isBetter_46 ?_
    refine lv_icmp_ge (tgt := 56) hx hb dX1_isBetter_49 (by decide) (fun c_49 => ?_) (fun c_49 => ?_)
    · have hF := (if_pos c_49).symm.trans hF
      refine lv_iconst (v := (0 : Int32)) hx hb dX1_isBetter_56 (by decide) ?_
      have hF : some (0 : Int32) = some r := hF
      cases hF
      subst hQ
      exact W.zret (ty := .boolean) hx hb hr rfl (fun t ht hW => ⟨_, rfl, rfl, ht⟩) (fun q hq => absurd hq List.not_mem_nil) dX1_isBetter_57
    · have hF := (if_neg c_49).symm.trans hF
      refine lv_iconst (v := (1 : Int32)) hx hb dX1_isBetter_52 (by decide) ?_
      refine lv_goto (tgt := 57) hx hb dX1_isBetter_53 (by decide) ?_
      have hF : some (1 : Int32) = some r := hF
      cases hF
      subst hQ
      exact W.zret (ty := .boolean) hx hb hr rfl (fun t ht hW => ⟨_, rfl, rfl, ht⟩) (fun q hq => absurd hq List.not_mem_nil) dX1_isBetter_57
  · have hF := (if_neg c_16).symm.trans hF
    refine lv_iload_n hx hb dX1_isBetter_19 rfl (lv_at hl 1 rfl) ?_
    refine lv_iload hx hb dX1_isBetter_20 (lv_at hl 0 rfl) ?_
    refine lv_icmp_le (tgt := 29) hx hb dX1_isBetter_22 (by decide) (fun c_22 => ?_) (fun c_22 => ?_)
    · have hF := (if_pos c_22).symm.trans hF
      refine lv_iconst (v := (0 : Int32)) hx hb dX1_isBetter_29 (by decide) ?_
      have hF : some (0 : Int32) = some r := hF
      cases hF
      subst hQ
      exact W.zret (ty := .boolean) hx hb hr rfl (fun t ht hW => ⟨_, rfl, rfl, ht⟩) (fun q hq => absurd hq List.not_mem_nil) dX1_isBetter_30
    · have hF := (if_neg c_22).symm.trans hF
      refine lv_iconst (v := (1 : Int32)) hx hb dX1_isBetter_25 (by decide) ?_
      refine lv_goto (tgt := 30) hx hb dX1_isBetter_26 (by decide) ?_
      have hF : some (1 : Int32) = some r := hF
      cases hF
      subst hQ
      exact W.zret (ty := .boolean) hx hb hr rfl (fun t ht hW => ⟨_, rfl, rfl, ht⟩) (fun q hq => absurd hq List.not_mem_nil) dX1_isBetter_30
def f_X1_bestCandidate_51 (v_letters : (Nat → Int32)) (v_kept : (Nat → Int32)) (v_keptCount : Int32) (v_position : Int32) (x1 : Int32) (x4 : Int32) : Nat → Int32 → Int32 → Option Int32
  | 0, _, _ => none
  | n + 1, x2, x5 =>
    if x4 < x5 then
      some x2
    else
      (f_X3_at 120 x5 v_letters).bind fun q67 =>
      if q67 = x1 then
        if x2 = (-9 : Int32) then
          f_X1_bestCandidate_51 v_letters v_kept v_keptCount v_position x1 x4 n x5 (x5 + 1)
        else
          (f_X1_isBetter x5 x2 v_letters v_kept v_keptCount v_position).bind fun q84 =>
          if q84 = (0 : Int32) then
            f_X1_bestCandidate_51 v_letters v_kept v_keptCount v_position x1 x4 n x2 (x5 + 1)
          else
            f_X1_bestCandidate_51 v_letters v_kept v_keptCount v_position x1 x4 n x5 (x5 + 1)
      else
        f_X1_bestCandidate_51 v_letters v_kept v_keptCount v_position x1 x4 n x2 (x5 + 1)
def f_X1_bestCandidate (p1 : Int32) (v_settings : (Nat → Int32)) (v_words : Int32) (v_letters : (Nat → Int32)) (v_kept : (Nat → Int32)) (v_keptCount : Int32) (v_position : Int32) : Option Int32 :=
  (f_X3_at 9 (3 : Int32) v_settings).bind fun q13 =>
  (f_X3_at 9 (4 : Int32) v_settings).bind fun q39 =>
  f_X1_bestCandidate_51 v_letters v_kept v_keptCount v_position p1 (if (v_position + q39) < (v_words - (1 : Int32)) then (v_position + q39) else (v_words - (1 : Int32))) gas (-9 : Int32) (if (0 : Int32) < (v_position - q13) then (v_position - q13) else (0 : Int32))
def rm_X1_bestCandidate : Room := { frames := 3, cells := 0, slots := 0, locals := 67 }
set_option maxHeartbeats 4000000 in
set_option maxRecDepth 100000 in
theorem c_X1_bestCandidate (l : Launch) (dC : Nat → ClassId) (dI : Nat → Nat → Nat) (cI cZ cO : ClassId) (aS a_settings aC a_letters a_passageOf a_cues a_rowOf a_firstOfRow aT a_times a_positions a_kept : Nat) (p1 : Int32) (v_settings : (Nat → Int32)) (v_words : Int32) (v_passages : Int32) (v_wordsInPassage : Int32) (v_rows : Int32) (v_letters : (Nat → Int32)) (v_passageOf : (Nat → Int32)) (v_cues : (Nat → Int32)) (v_rowOf : (Nat → Int32)) (v_firstOfRow : (Nat → Int32)) (v_pairs : Int32) (v_times : (Nat → Int32)) (v_positions : (Nat → Int32)) (v_kept : (Nat → Int32)) (v_keptCount : Int32) (v_position : Int32) (v_speed : Int32) (v_time : Int32) (v_heardTime : Int32) (v_top : Int32) (v_skips : Int32) (v_repeats : Int32) (v_misses : Int32) (v_jerks : Int32) (v_overruns : Int32) (r : Int32) (hF : f_X1_bestCandidate p1 v_settings v_words v_letters v_kept v_keptCount v_position = some r) : Met l yX1_bestCandidate wsX1_bestCandidate rm_X1_bestCandidate (va_Pc [.ref aS, .int p1] (rdW dC dI cI cZ cO [(aS, .inr (1, [.ref a_settings, .ref aC, .ref aT, .ref a_kept, .int v_keptCount, .int v_position, .int v_speed, .int v_time, .int v_heardTime, .int v_top, .int v_skips, .int v_repeats, .int v_misses, .int v_jerks, .int v_overruns])), (a_settings, .inl (cI, 9, .inl v_settings)), (aC, .inr (0, [.int v_words, .int v_passages, .int v_wordsInPassage, .int v_rows, .ref a_letters, .ref a_passageOf, .ref a_cues, .ref a_rowOf, .ref a_firstOfRow])), (a_letters, .inl (cI, 120, .inl v_letters)), (a_passageOf, .inl (cI, 120, .inl v_passageOf)), (a_cues, .inl (cI, 120, .inl v_cues)), (a_rowOf, .inl (cI, 120, .inl v_rowOf)), (a_firstOfRow, .inl (cI, 120, .inl v_firstOfRow)), (aT, .inr (2, [.int v_pairs, .ref a_times, .ref a_positions])), (a_times, .inl (cI, 61, .inl v_times)), (a_positions, .inl (cI, 61, .inl v_positions)), (a_kept, .inl (cI, 4, .inl v_kept))])) (vp_Si (fun q => r = q)) 0 0 (fun _ => False) := by
  refine Met.ofW (cc := cX1_bestCandidate) (maxL := 6) (ret := (some .int)) (by decide) rfl ?_
  intro p e s m args below meth c s₁ B hml hv
  obtain ⟨rfl, hP, hK, hN⟩ := hv
  have hx := B.exec
  have hb := B.bytes
  have hr := B.returns
  have hts := atoms_spec (ws := wsX1_bestCandidate) B.pre
  have hown : s.vm.findClass RX1 = some m.cls := findClass_of_methodNamed B.named
  have hlocks := B.notSynchronized
  obtain ⟨Q, hQ⟩ : ∃ Q, Q = MQ below (vp_Si (fun q => r = q)) ([.ref aS, .int p1] : List Value).toArray s 0 0 (fun _ => False) := ⟨_, rfl⟩
  rw [← hQ]
  have hS : va_S (fun _ => False) s.heap s.heap [] := va_S.rf
  have fl18 := hts (.fieldLink RX1 18 "Teleprompter$State" "script" "LTeleprompter$Script;") (by decide +kernel)
  have fl129 := hts (.fieldLink RX1 129 "Teleprompter$Script" "letters" "[I") (by decide +kernel)
  have fl47 := hts (.fieldLink RX1 47 "Teleprompter$State" "position" "I") (by decide +kernel)
  have fl9 := hts (.fieldLink RX1 9 "Teleprompter$State" "settings" "[I") (by decide +kernel)
  have ml117 := hts (.methodLink RX1 117 Lib.Math.max.name) (by decide +kernel)
  have ls_mmax := hts (.static Lib.Math.max.name) (by decide +kernel)
  have lmI := hts (.initialized "java/lang/Math") (by decide +kernel)
  have lc_mmax := hts (.code Lib.Math.max.name Lib.Math.max.code 2 (some .int)) (by decide +kernel)
  have fl123 := hts (.fieldLink RX1 123 "Teleprompter$Script" "words" "I") (by decide +kernel)
  have ml126 := hts (.methodLink RX1 126 Lib.Math.min.name) (by decide +kernel)
  have ls_mmin := hts (.static Lib.Math.min.name) (by decide +kernel)
  have lc_mmin := hts (.code Lib.Math.min.name Lib.Math.min.code 2 (some .int)) (by decide +kernel)
  have inX1 : ∀ w ∈ u_ws RX1 TX1 15, w ∈ wsX1_bestCandidate := by decide +kernel
  have inX0 : ∀ w ∈ u_ws RX0 TX0 9, w ∈ wsX1_bestCandidate := by decide +kernel
  have hl := lv_entry ([.ref aS, .int p1]) (n := 6) (Nat.le_of_ble_eq_true rfl)
  rw [lg_entry_eq]
  generalize (lg_sl ([.ref aS, .int p1]) ++ List.replicate (6 - (lg_sl ([.ref aS, .int p1])).length) Slot.unset).toArray = ls at hl ⊢
  have hl : lv_has ls 6 [(0, .ref aS), (1, .int p1)] := hl
  have B51 : ∀ (n_51 : Nat) (x1_51 : Int32) (x4_51 : Int32) (x2_51 : Int32) (x5_51 : Int32), f_X1_bestCandidate_51 v_letters v_kept v_keptCount v_position x1_51 x4_51 n_51 x2_51 x5_51 = some r → ∀ ls : Array Slot, lv_has ls 6 [(0, .ref aS), (1, .int x1_51), (2, .int x2_51), (4, .int x4_51), (5, .int x5_51)] → W p l e (headSpec wsX1_bestCandidate rm_X1_bestCandidate).room s m ([.ref aS, .int p1] : List Value).toArray below meth c s.heap [] 0 0 Q (F0 m 51 ls []) := by
    intro n_51
    induction n_51 with
    | zero => intro x1_51 x4_51 x2_51 x5_51 hF; exact noneE hF
    | succ n_51 ih51 =>
      intro x1_51 x4_51 x2_51 x5_51 hF ls hl
      rw [f_X1_bestCandidate_51] at hF
      refine lv_iload hx hb dX1_bestCandidate_51 (lv_at hl 4 rfl) ?_
      refine lv_iload hx hb dX1_bestCandidate_53 (lv_at hl 3 rfl) ?_
      refine lv_icmp_gt (tgt := 99) hx hb dX1_bestCandidate_55 (by decide) (fun c_55 => ?_) (fun c_55 => ?_)
      · have hF := (if_pos c_55).symm.trans hF
        refine lv_iload_n hx hb dX1_bestCandidate_99 rfl (lv_at hl 2 rfl) ?_
        have hF : some x2_51 = some r := hF
        cases hF
        subst hQ
        exact W.iret hx hb hr (fun t ht hW => ⟨_, rfl, rfl, ht⟩) (fun q hq => absurd hq List.not_mem_nil) dX1_bestCandidate_100
      · have hF := (if_neg c_55).symm.trans hF
        refine lv_aload_n hx hb dX1_bestCandidate_58 rfl (lv_at hl 0 rfl) ?_
        refine va_get (D := (dC, dI)) (ci := 1) (v := .ref aC) (C := RX1) (T := TX1) (N := 15) hx hb hts inX1 hown hK hP 0 rfl rfl 1 (by decide) fl18 (fun _ h9 => h9) rfl dX1_bestCandidate_59 ?_
        refine va_get (D := (dC, dI)) (ci := 0) (v := .ref a_letters) (C := RX0) (T := TX0) (N := 9) hx hb hts inX0 hown hK hP 2 rfl rfl 4 (by decide) fl129 (fun _ h9 => h9) rfl dX1_bestCandidate_62 ?_
        refine lv_iload hx hb dX1_bestCandidate_65 (lv_at hl 4 rfl) ?_
        obtain ⟨q_67, hq_67, hF⟩ := bindE hF
        have hPc := hP.sub (ws' := [(a_letters, .inl (cI, 120, .inl v_letters))]) [3] rfl
        refine vp_callSi (va_Run.run (va_runSN (As := [.ref a_letters, .int x5_51]) (rest := []) ⟨hx, hb, hml, hown, hts⟩ (c_X3_at l dC dI cI cZ cO a_letters 120 x5_51 v_letters q_67 hq_67) ⟨(va_cnB 2 hts gX1_bestCandidate_X3_at_n77 rfl rfl rfl (NW_X1_77 hN) (hts (.initialized RX3) (by decide +kernel)) (by decide +kernel) ⟨Nat.le_of_ble_eq_true rfl, Nat.le_of_ble_eq_true rfl⟩), hts (.static yX3_at) (by decide +kernel), trivial⟩ ⟨fb_rd, pre_rd hPc hK hN⟩ rfl rfl hl.1 rfl (lv_room (Nat.le_of_ble_eq_true rfl)) dX1_bestCandidate_67 ⟨Nat.zero_le _, Nat.zero_le _⟩)) (fun z_67 hz_67 => ?_)
        subst hz_67
        refine lv_iload_n hx hb dX1_bestCandidate_70 rfl (lv_at hl 1 rfl) ?_
        refine lv_icmp_ne (tgt := 93) hx hb dX1_bestCandidate_71 (by decide) (fun c_71 => ?_) (fun c_71 => ?_)
        · have hF := (if_neg c_71).symm.trans hF
          refine lv_iinc (v := (x5_51 + 1)) (lv' := [(5, .int (x5_51 + 1)), (0, .ref aS), (1, .int x1_51), (2, .int x2_51), (4, .int x4_51)]) hx hb dX1_bestCandidate_93 hl (k := 4) rfl rfl (by decide) rfl (fun ls hl => ?_)
          refine lv_goto (tgt := 51) hx hb dX1_bestCandidate_96 (by decide) ?_
          exact ih51 x1_51 x4_51 x2_51 (x5_51 + 1) hF _ (lv_sub hl [1, 2, 3, 4, 0] rfl)
        · have hF := (if_pos c_71).symm.trans hF
          refine lv_iload_n hx hb dX1_bestCandidate_74 rfl (lv_at hl 2 rfl) ?_
          refine lv_bipush (v := (-9 : Int32)) hx hb dX1_bestCandidate_75 (by decide) ?_
          refine lv_icmp_eq (tgt := 90) hx hb dX1_bestCandidate_77 (by decide) (fun c_77 => ?_) (fun c_77 => ?_)
          · have hF := (if_pos c_77).symm.trans hF
            refine lv_iload hx hb dX1_bestCandidate_90 (lv_at hl 4 rfl) ?_
            refine lv_istore_n (lv' := [(2, .int x5_51), (0, .ref aS), (1, .int x1_51), (4, .int x4_51), (5, .int x5_51)]) hx hb dX1_bestCandidate_92 rfl hl (by decide) rfl (fun ls hl => ?_)
            refine lv_iinc (v := (x5_51 + 1)) (lv' := [(5, .int (x5_51 + 1)), (2, .int x5_51), (0, .ref aS), (1, .int x1_51), (4, .int x4_51)]) hx hb dX1_bestCandidate_93 hl (k := 4) rfl rfl (by decide) rfl (fun ls hl => ?_)
            refine lv_goto (tgt := 51) hx hb dX1_bestCandidate_96 (by decide) ?_
            exact ih51 x1_51 x4_51 x5_51 (x5_51 + 1) hF _ (lv_sub hl [2, 3, 1, 4, 0] rfl)
          · have hF := (if_neg c_77).symm.trans hF
            refine lv_aload_n hx hb dX1_bestCandidate_80 rfl (lv_at hl 0 rfl) ?_
            refine lv_iload hx hb dX1_bestCandidate_81 (lv_at hl 4 rfl) ?_
            refine lv_iload_n hx hb dX1_bestCandidate_83 rfl (lv_at hl 2 rfl) ?_
            obtain ⟨q_84, hq_84, hF⟩ := bindE hF
            have hPc := hP
            refine vp_callSi (va_Run.run (va_runV (As := [.int x5_51, .int x2_51]) (rest := []) ⟨hx, hb, hml, hown, hts⟩ (c_X1_isBetter l dC dI cI cZ cO aS a_settings aC a_letters a_passageOf a_cues a_rowOf a_firstOfRow aT a_times a_positions a_kept x5_51 x2_51 v_settings v_words v_passages v_wordsInPassage v_rows v_letters v_passageOf v_cues v_rowOf v_firstOfRow v_pairs v_times v_positions v_kept v_keptCount v_position v_speed v_time v_heardTime v_top v_skips v_repeats v_misses v_jerks v_overruns q_84 hq_84) (cwV 2 hts gX1_bestCandidate_X1_isBetter rfl rfl rfl (by decide +kernel) ⟨Nat.le_of_ble_eq_true rfl, Nat.le_of_ble_eq_true rfl⟩) ⟨fb_rd, va_recv hK hPc (ci := 1) (q0 := 0) rfl rfl, pre_rd hPc hK hN⟩ rfl rfl hl.1 rfl (lv_room (Nat.le_of_ble_eq_true rfl)) dX1_bestCandidate_84 ⟨Nat.zero_le _, Nat.zero_le _⟩)) (fun z_84 hz_84 => ?_)
            subst hz_84
            refine lv_if_eq (tgt := 93) hx hb dX1_bestCandidate_87 (by decide) (fun c_87 => ?_) (fun c_87 => ?_)
            · have hF := (if_pos c_87).symm.trans hF
              refine lv_iinc (v := (x5_51 + 1)) (lv' := [(5, .int (x5_51 + 1)), (0, .ref aS), (1, .int x1_51), (2, .int x2_51), (4, .int x4_51)]) hx hb dX1_bestCandidate_93 hl (k := 4) rfl rfl (by decide) rfl (fun ls hl => ?_)
              refine lv_goto (tgt := 51) hx hb dX1_bestCandidate_96 (by decide) ?_
              exact ih51 x1_51 x4_51 x2_51 (x5_51 + 1) hF _ (lv_sub hl [1, 2, 3, 4, 0] rfl)
            · have hF := (if_neg c_87).symm.trans hF
              refine lv_iload hx hb dX1_bestCandidate_90 (lv_at hl 4 rfl) ?_
              refine lv_istore_n (lv' := [(2, .int x5_51), (0, .ref aS), (1, .int x1_51), (4, .int x4_51), (5, .int x5_51)]) hx hb dX1_bestCandidate_92 rfl hl (by decide) rfl (fun ls hl => ?_)
              refine lv_iinc (v := (x5_51 + 1)) (lv' := [(5, .int (x5_51 + 1)), (2, .int x5_51), (0, .ref aS), (1, .int x1_51), (4, .int x4_51)]) hx hb dX1_bestCandidate_93 hl (k := 4) rfl rfl (by decide) rfl (fun ls hl => ?_)
              refine lv_goto (tgt := 51) hx hb dX1_bestCandidate_96 (by decide) ?_
              exact ih51 x1_51 x4_51 x5_51 (x5_51 + 1) hF _ (lv_sub hl [2, 3, 1, 4, 0] rfl)
  unfold f_X1_bestCandidate at hF
  refine lv_bipush (v := (-9 : Int32)) hx hb dX1_bestCandidate_0 (by decide) ?_
  refine lv_istore_n (lv' := [(2, .int (-9 : Int32)), (0, .ref aS), (1, .int p1)]) hx hb dX1_bestCandidate_2 rfl hl (by decide) rfl (fun ls hl => ?_)
  refine lv_iconst (v := (0 : Int32)) hx hb dX1_bestCandidate_3 (by decide) ?_
  refine lv_aload_n hx hb dX1_bestCandidate_4 rfl (lv_at hl 1 rfl) ?_
  refine va_get (D := (dC, dI)) (ci := 1) (v := .int v_position) (C := RX1) (T := TX1) (N := 15) hx hb hts inX1 hown hK hP 0 rfl rfl 5 (by decide) fl47 (fun _ h9 => h9) rfl dX1_bestCandidate_5 ?_
  refine lv_aload_n hx hb dX1_bestCandidate_8 rfl (lv_at hl 1 rfl) ?_
  refine va_get (D := (dC, dI)) (ci := 1) (v := .ref a_settings) (C := RX1) (T := TX1) (N := 15) hx hb hts inX1 hown hK hP 0 rfl rfl 0 (by decide) fl9 (fun _ h9 => h9) rfl dX1_bestCandidate_9 ?_
  refine lv_iconst (v := (3 : Int32)) hx hb dX1_bestCandidate_12 (by decide) ?_
  obtain ⟨q_13, hq_13, hF⟩ := bindE hF
  have hPc := hP.sub (ws' := [(a_settings, .inl (cI, 9, .inl v_settings))]) [1] rfl
  refine vp_callSi (va_Run.run (va_runSN (As := [.ref a_settings, .int (3 : Int32)]) (rest := [.int v_position, .int (0 : Int32)]) ⟨hx, hb, hml, hown, hts⟩ (c_X3_at l dC dI cI cZ cO a_settings 9 (3 : Int32) v_settings q_13 hq_13) ⟨(va_cnB 2 hts gX1_bestCandidate_X3_at_n77 rfl rfl rfl (NW_X1_77 hN) (hts (.initialized RX3) (by decide +kernel)) (by decide +kernel) ⟨Nat.le_of_ble_eq_true rfl, Nat.le_of_ble_eq_true rfl⟩), hts (.static yX3_at) (by decide +kernel), trivial⟩ ⟨fb_rd, pre_rd hPc hK hN⟩ rfl rfl hl.1 rfl (lv_room (Nat.le_of_ble_eq_true rfl)) dX1_bestCandidate_13 ⟨Nat.zero_le _, Nat.zero_le _⟩)) (fun z_13 hz_13 => ?_)
  subst hz_13
  refine lv_isub hx hb dX1_bestCandidate_16 ?_
  refine va_mmax hx hb (by rw [hml]; exact hl.1.symm) hown ml117 ls_mmax lmI lc_mmax (Nat.le_of_ble_eq_true rfl) (Nat.le_of_ble_eq_true rfl) (Nat.zero_le _) (Nat.zero_le _) dX1_bestCandidate_17 ?_
  refine lv_istore_n (lv' := [(3, .int (if (0 : Int32) < (v_position - q_13) then (v_position - q_13) else (0 : Int32))), (2, .int (-9 : Int32)), (0, .ref aS), (1, .int p1)]) hx hb dX1_bestCandidate_20 rfl hl (by decide) rfl (fun ls hl => ?_)
  refine lv_aload_n hx hb dX1_bestCandidate_21 rfl (lv_at hl 2 rfl) ?_
  refine va_get (D := (dC, dI)) (ci := 1) (v := .ref aC) (C := RX1) (T := TX1) (N := 15) hx hb hts inX1 hown hK hP 0 rfl rfl 1 (by decide) fl18 (fun _ h9 => h9) rfl dX1_bestCandidate_22 ?_
  refine va_get (D := (dC, dI)) (ci := 0) (v := .int v_words) (C := RX0) (T := TX0) (N := 9) hx hb hts inX0 hown hK hP 2 rfl rfl 0 (by decide) fl123 (fun _ h9 => h9) rfl dX1_bestCandidate_25 ?_
  refine lv_iconst (v := (1 : Int32)) hx hb dX1_bestCandidate_28 (by decide) ?_
  refine lv_isub hx hb dX1_bestCandidate_29 ?_
  refine lv_aload_n hx hb dX1_bestCandidate_30 rfl (lv_at hl 2 rfl) ?_
  refine va_get (D := (dC, dI)) (ci := 1) (v := .int v_position) (C := RX1) (T := TX1) (N := 15) hx hb hts inX1 hown hK hP 0 rfl rfl 5 (by decide) fl47 (fun _ h9 => h9) rfl dX1_bestCandidate_31 ?_
  refine lv_aload_n hx hb dX1_bestCandidate_34 rfl (lv_at hl 2 rfl) ?_
  refine va_get (D := (dC, dI)) (ci := 1) (v := .ref a_settings) (C := RX1) (T := TX1) (N := 15) hx hb hts inX1 hown hK hP 0 rfl rfl 0 (by decide) fl9 (fun _ h9 => h9) rfl dX1_bestCandidate_35 ?_
  refine lv_iconst (v := (4 : Int32)) hx hb dX1_bestCandidate_38 (by decide) ?_
  obtain ⟨q_39, hq_39, hF⟩ := bindE hF
  have hPc := hP.sub (ws' := [(a_settings, .inl (cI, 9, .inl v_settings))]) [1] rfl
  refine vp_callSi (va_Run.run (va_runSN (As := [.ref a_settings, .int (4 : Int32)]) (rest := [.int v_position, .int (v_words - (1 : Int32))]) ⟨hx, hb, hml, hown, hts⟩ (c_X3_at l dC dI cI cZ cO a_settings 9 (4 : Int32) v_settings q_39 hq_39) ⟨(va_cnB 2 hts gX1_bestCandidate_X3_at_n77 rfl rfl rfl (NW_X1_77 hN) (hts (.initialized RX3) (by decide +kernel)) (by decide +kernel) ⟨Nat.le_of_ble_eq_true rfl, Nat.le_of_ble_eq_true rfl⟩), hts (.static yX3_at) (by decide +kernel), trivial⟩ ⟨fb_rd, pre_rd hPc hK hN⟩ rfl rfl hl.1 rfl (lv_room (Nat.le_of_ble_eq_true rfl)) dX1_bestCandidate_39 ⟨Nat.zero_le _, Nat.zero_le _⟩)) (fun z_39 hz_39 => ?_)
  subst hz_39
  refine lv_iadd hx hb dX1_bestCandidate_42 ?_
  refine va_mmin hx hb (by rw [hml]; exact hl.1.symm) hown ml126 ls_mmin lmI lc_mmin (Nat.le_of_ble_eq_true rfl) (Nat.le_of_ble_eq_true rfl) (Nat.zero_le _) (Nat.zero_le _) dX1_bestCandidate_43 ?_
  refine lv_istore (lv' := [(4, .int (if (v_position + q_39) < (v_words - (1 : Int32)) then (v_position + q_39) else (v_words - (1 : Int32)))), (3, .int (if (0 : Int32) < (v_position - q_13) then (v_position - q_13) else (0 : Int32))), (2, .int (-9 : Int32)), (0, .ref aS), (1, .int p1)]) hx hb dX1_bestCandidate_46 hl (by decide) rfl (fun ls hl => ?_)
  refine lv_iload_n hx hb dX1_bestCandidate_48 rfl (lv_at hl 1 rfl) ?_
  refine lv_istore (lv' := [(5, .int (if (0 : Int32) < (v_position - q_13) then (v_position - q_13) else (0 : Int32))), (4, .int (if (v_position + q_39) < (v_words - (1 : Int32)) then (v_position + q_39) else (v_words - (1 : Int32)))), (3, .int (if (0 : Int32) < (v_position - q_13) then (v_position - q_13) else (0 : Int32))), (2, .int (-9 : Int32)), (0, .ref aS), (1, .int p1)]) hx hb dX1_bestCandidate_49 hl (by decide) rfl (fun ls hl => ?_)
  exact B51 gas p1 (if (v_position + q_39) < (v_words - (1 : Int32)) then (v_position + q_39) else (v_words - (1 : Int32))) (-9 : Int32) (if (0 : Int32) < (v_position - q_13) then (v_position - q_13) else (0 : Int32)) hF _ (lv_sub hl [4, 5, 3, 1, 0] rfl)
def f_X1_accepts (p1 : Int32) (v_settings : (Nat → Int32)) (v_letters : (Nat → Int32)) (v_kept : (Nat → Int32)) (v_keptCount : Int32) (v_position : Int32) : Option Int32 :=
  if p1 = v_position then
    some (1 : Int32)
  else
    (f_X1_points p1 v_letters v_kept v_keptCount).bind fun q10 =>
    (f_X3_at 9 (5 : Int32) v_settings).bind fun q18 =>
    if q10 < q18 then
      some (0 : Int32)
    else
      some (1 : Int32)
def rm_X1_accepts : Room := { frames := 2, cells := 0, slots := 0, locals := 43 }
set_option maxHeartbeats 4000000 in
set_option maxRecDepth 100000 in
theorem c_X1_accepts (l : Launch) (dC : Nat → ClassId) (dI : Nat → Nat → Nat) (cI cZ cO : ClassId) (aS a_settings aC a_letters a_passageOf a_cues a_rowOf a_firstOfRow aT a_times a_positions a_kept : Nat) (p1 : Int32) (v_settings : (Nat → Int32)) (v_words : Int32) (v_passages : Int32) (v_wordsInPassage : Int32) (v_rows : Int32) (v_letters : (Nat → Int32)) (v_passageOf : (Nat → Int32)) (v_cues : (Nat → Int32)) (v_rowOf : (Nat → Int32)) (v_firstOfRow : (Nat → Int32)) (v_pairs : Int32) (v_times : (Nat → Int32)) (v_positions : (Nat → Int32)) (v_kept : (Nat → Int32)) (v_keptCount : Int32) (v_position : Int32) (v_speed : Int32) (v_time : Int32) (v_heardTime : Int32) (v_top : Int32) (v_skips : Int32) (v_repeats : Int32) (v_misses : Int32) (v_jerks : Int32) (v_overruns : Int32) (r : Int32) (hF : f_X1_accepts p1 v_settings v_letters v_kept v_keptCount v_position = some r) : Met l yX1_accepts wsX1_accepts rm_X1_accepts (va_Pc [.ref aS, .int p1] (rdW dC dI cI cZ cO [(aS, .inr (1, [.ref a_settings, .ref aC, .ref aT, .ref a_kept, .int v_keptCount, .int v_position, .int v_speed, .int v_time, .int v_heardTime, .int v_top, .int v_skips, .int v_repeats, .int v_misses, .int v_jerks, .int v_overruns])), (a_settings, .inl (cI, 9, .inl v_settings)), (aC, .inr (0, [.int v_words, .int v_passages, .int v_wordsInPassage, .int v_rows, .ref a_letters, .ref a_passageOf, .ref a_cues, .ref a_rowOf, .ref a_firstOfRow])), (a_letters, .inl (cI, 120, .inl v_letters)), (a_passageOf, .inl (cI, 120, .inl v_passageOf)), (a_cues, .inl (cI, 120, .inl v_cues)), (a_rowOf, .inl (cI, 120, .inl v_rowOf)), (a_firstOfRow, .inl (cI, 120, .inl v_firstOfRow)), (aT, .inr (2, [.int v_pairs, .ref a_times, .ref a_positions])), (a_times, .inl (cI, 61, .inl v_times)), (a_positions, .inl (cI, 61, .inl v_positions)), (a_kept, .inl (cI, 4, .inl v_kept))])) (vp_Si (fun q => r = q)) 0 0 (fun _ => False) := by
  refine Met.ofW (cc := cX1_accepts) (maxL := 2) (ret := (some .boolean)) (by decide) rfl ?_
  intro p e s m args below meth c s₁ B hml hv
  obtain ⟨rfl, hP, hK, hN⟩ := hv
  have hx := B.exec
  have hb := B.bytes
  have hr := B.returns
  have hts := atoms_spec (ws := wsX1_accepts) B.pre
  have hown : s.vm.findClass RX1 = some m.cls := findClass_of_methodNamed B.named
  have hlocks := B.notSynchronized
  obtain ⟨Q, hQ⟩ : ∃ Q, Q = MQ below (vp_Si (fun q => r = q)) ([.ref aS, .int p1] : List Value).toArray s 0 0 (fun _ => False) := ⟨_, rfl⟩
  rw [← hQ]
  have hS : va_S (fun _ => False) s.heap s.heap [] := va_S.rf
  have fl47 := hts (.fieldLink RX1 47 "Teleprompter$State" "position" "I") (by decide +kernel)
  have fl9 := hts (.fieldLink RX1 9 "Teleprompter$State" "settings" "[I") (by decide +kernel)
  have inX1 : ∀ w ∈ u_ws RX1 TX1 15, w ∈ wsX1_accepts := by decide +kernel
  have hl := lv_entry ([.ref aS, .int p1]) (n := 2) (Nat.le_of_ble_eq_true rfl)
  rw [lg_entry_eq]
  generalize (lg_sl ([.ref aS, .int p1]) ++ List.replicate (2 - (lg_sl ([.ref aS, .int p1])).length) Slot.unset).toArray = ls at hl ⊢
  have hl : lv_has ls 2 [(0, .ref aS), (1, .int p1)] := hl
  unfold f_X1_accepts at hF
  refine lv_iload_n hx hb dX1_accepts_0 rfl (lv_at hl 1 rfl) ?_
  refine lv_aload_n hx hb dX1_accepts_1 rfl (lv_at hl 0 rfl) ?_
  refine va_get (D := (dC, dI)) (ci := 1) (v := .int v_position) (C := RX1) (T := TX1) (N := 15) hx hb hts inX1 hown hK hP 0 rfl rfl 5 (by decide) fl47 (fun _ h9 => h9) rfl dX1_accepts_2 ?_
  refine lv_icmp_eq (tgt := 24) hx hb dX1_accepts_5 (by decide) (fun c_5 => ?_) (fun c_5 => ?_)
  · have hF := (if_pos c_5).symm.trans hF
    refine lv_iconst (v := (1 : Int32)) hx hb dX1_accepts_24 (by decide) ?_
    refine lv_goto (tgt := 29) hx hb dX1_accepts_25 (by decide) ?_
    have hF : some (1 : Int32) = some r := hF
    cases hF
    subst hQ
    exact W.zret (ty := .boolean) hx hb hr rfl (fun t ht hW => ⟨_, rfl, rfl, ht⟩) (fun q hq => absurd hq List.not_mem_nil) dX1_accepts_29
  · have hF := (if_neg c_5).symm.trans hF
    refine lv_aload_n hx hb dX1_accepts_8 rfl (lv_at hl 0 rfl) ?_
    refine lv_iload_n hx hb dX1_accepts_9 rfl (lv_at hl 1 rfl) ?_
    obtain ⟨q_10, hq_10, hF⟩ := bindE hF
    have hPc := hP
    refine vp_callSi (va_Run.run (va_runV (As := [.int p1]) (rest := []) ⟨hx, hb, hml, hown, hts⟩ (c_X1_points l dC dI cI cZ cO aS a_settings aC a_letters a_passageOf a_cues a_rowOf a_firstOfRow aT a_times a_positions a_kept p1 v_settings v_words v_passages v_wordsInPassage v_rows v_letters v_passageOf v_cues v_rowOf v_firstOfRow v_pairs v_times v_positions v_kept v_keptCount v_position v_speed v_time v_heardTime v_top v_skips v_repeats v_misses v_jerks v_overruns q_10 hq_10) (cwV 1 hts gX1_accepts_X1_points rfl rfl rfl (by decide +kernel) ⟨Nat.le_of_ble_eq_true rfl, Nat.le_of_ble_eq_true rfl⟩) ⟨fb_rd, va_recv hK hPc (ci := 1) (q0 := 0) rfl rfl, pre_rd hPc hK hN⟩ rfl rfl hl.1 rfl (lv_room (Nat.le_of_ble_eq_true rfl)) dX1_accepts_10 ⟨Nat.zero_le _, Nat.zero_le _⟩)) (fun z_10 hz_10 => ?_)
    subst hz_10
    refine lv_aload_n hx hb dX1_accepts_13 rfl (lv_at hl 0 rfl) ?_
    refine va_get (D := (dC, dI)) (ci := 1) (v := .ref a_settings) (C := RX1) (T := TX1) (N := 15) hx hb hts inX1 hown hK hP 0 rfl rfl 0 (by decide) fl9 (fun _ h9 => h9) rfl dX1_accepts_14 ?_
    refine lv_iconst (v := (5 : Int32)) hx hb dX1_accepts_17 (by decide) ?_
    obtain ⟨q_18, hq_18, hF⟩ := bindE hF
    have hPc := hP.sub (ws' := [(a_settings, .inl (cI, 9, .inl v_settings))]) [1] rfl
    refine vp_callSi (va_Run.run (va_runSN (As := [.ref a_settings, .int (5 : Int32)]) (rest := [.int q_10]) ⟨hx, hb, hml, hown, hts⟩ (c_X3_at l dC dI cI cZ cO a_settings 9 (5 : Int32) v_settings q_18 hq_18) ⟨(va_cnB 2 hts gX1_accepts_X3_at_n77 rfl rfl rfl (NW_X1_77 hN) (hts (.initialized RX3) (by decide +kernel)) (by decide +kernel) ⟨Nat.le_of_ble_eq_true rfl, Nat.le_of_ble_eq_true rfl⟩), hts (.static yX3_at) (by decide +kernel), trivial⟩ ⟨fb_rd, pre_rd hPc hK hN⟩ rfl rfl hl.1 rfl (lv_room (Nat.le_of_ble_eq_true rfl)) dX1_accepts_18 ⟨Nat.zero_le _, Nat.zero_le _⟩)) (fun z_18 hz_18 => ?_)
    subst hz_18
    refine lv_icmp_lt (tgt := 28) hx hb dX1_accepts_21 (by decide) (fun c_21 => ?_) (fun c_21 => ?_)
    · have hF := (if_pos c_21).symm.trans hF
      refine lv_iconst (v := (0 : Int32)) hx hb dX1_accepts_28 (by decide) ?_
      have hF : some (0 : Int32) = some r := hF
      cases hF
      subst hQ
      exact W.zret (ty := .boolean) hx hb hr rfl (fun t ht hW => ⟨_, rfl, rfl, ht⟩) (fun q hq => absurd hq List.not_mem_nil) dX1_accepts_29
    · have hF := (if_neg c_21).symm.trans hF
      refine lv_iconst (v := (1 : Int32)) hx hb dX1_accepts_24 (by decide) ?_
      refine lv_goto (tgt := 29) hx hb dX1_accepts_25 (by decide) ?_
      have hF : some (1 : Int32) = some r := hF
      cases hF
      subst hQ
      exact W.zret (ty := .boolean) hx hb hr rfl (fun t ht hW => ⟨_, rfl, rfl, ht⟩) (fun q hq => absurd hq List.not_mem_nil) dX1_accepts_29
def f_X1_holdingWord (v_words : Int32) (v_cues : (Nat → Int32)) : Option Int32 :=
  (f_X0_nextCue v_words v_cues).bind fun q4 =>
  if q4 = (-9 : Int32) then
    some (v_words - (1 : Int32))
  else
    some q4
def rm_X1_holdingWord : Room := { frames := 2, cells := 0, slots := 0, locals := 42 }
set_option maxHeartbeats 4000000 in
set_option maxRecDepth 100000 in
theorem c_X1_holdingWord (l : Launch) (dC : Nat → ClassId) (dI : Nat → Nat → Nat) (cI cZ cO : ClassId) (aS a_settings aC a_letters a_passageOf a_cues a_rowOf a_firstOfRow aT a_times a_positions a_kept : Nat) (v_settings : (Nat → Int32)) (v_words : Int32) (v_passages : Int32) (v_wordsInPassage : Int32) (v_rows : Int32) (v_letters : (Nat → Int32)) (v_passageOf : (Nat → Int32)) (v_cues : (Nat → Int32)) (v_rowOf : (Nat → Int32)) (v_firstOfRow : (Nat → Int32)) (v_pairs : Int32) (v_times : (Nat → Int32)) (v_positions : (Nat → Int32)) (v_kept : (Nat → Int32)) (v_keptCount : Int32) (v_position : Int32) (v_speed : Int32) (v_time : Int32) (v_heardTime : Int32) (v_top : Int32) (v_skips : Int32) (v_repeats : Int32) (v_misses : Int32) (v_jerks : Int32) (v_overruns : Int32) (r : Int32) (hF : f_X1_holdingWord v_words v_cues = some r) : Met l yX1_holdingWord wsX1_holdingWord rm_X1_holdingWord (va_Pc [.ref aS] (rdW dC dI cI cZ cO [(aS, .inr (1, [.ref a_settings, .ref aC, .ref aT, .ref a_kept, .int v_keptCount, .int v_position, .int v_speed, .int v_time, .int v_heardTime, .int v_top, .int v_skips, .int v_repeats, .int v_misses, .int v_jerks, .int v_overruns])), (a_settings, .inl (cI, 9, .inl v_settings)), (aC, .inr (0, [.int v_words, .int v_passages, .int v_wordsInPassage, .int v_rows, .ref a_letters, .ref a_passageOf, .ref a_cues, .ref a_rowOf, .ref a_firstOfRow])), (a_letters, .inl (cI, 120, .inl v_letters)), (a_passageOf, .inl (cI, 120, .inl v_passageOf)), (a_cues, .inl (cI, 120, .inl v_cues)), (a_rowOf, .inl (cI, 120, .inl v_rowOf)), (a_firstOfRow, .inl (cI, 120, .inl v_firstOfRow)), (aT, .inr (2, [.int v_pairs, .ref a_times, .ref a_positions])), (a_times, .inl (cI, 61, .inl v_times)), (a_positions, .inl (cI, 61, .inl v_positions)), (a_kept, .inl (cI, 4, .inl v_kept))])) (vp_Si (fun q => r = q)) 0 0 (fun _ => False) := by
  refine Met.ofW (cc := cX1_holdingWord) (maxL := 2) (ret := (some .int)) (by decide) rfl ?_
  intro p e s m args below meth c s₁ B hml hv
  obtain ⟨rfl, hP, hK, hN⟩ := hv
  have hx := B.exec
  have hb := B.bytes
  have hr := B.returns
  have hts := atoms_spec (ws := wsX1_holdingWord) B.pre
  have hown : s.vm.findClass RX1 = some m.cls := findClass_of_methodNamed B.named
  have hlocks := B.notSynchronized
  obtain ⟨Q, hQ⟩ : ∃ Q, Q = MQ below (vp_Si (fun q => r = q)) ([.ref aS] : List Value).toArray s 0 0 (fun _ => False) := ⟨_, rfl⟩
  rw [← hQ]
  have hS : va_S (fun _ => False) s.heap s.heap [] := va_S.rf
  have fl18 := hts (.fieldLink RX1 18 "Teleprompter$State" "script" "LTeleprompter$Script;") (by decide +kernel)
  have fl123 := hts (.fieldLink RX1 123 "Teleprompter$Script" "words" "I") (by decide +kernel)
  have inX1 : ∀ w ∈ u_ws RX1 TX1 15, w ∈ wsX1_holdingWord := by decide +kernel
  have inX0 : ∀ w ∈ u_ws RX0 TX0 9, w ∈ wsX1_holdingWord := by decide +kernel
  have hl := lv_entry ([.ref aS]) (n := 2) (Nat.le_of_ble_eq_true rfl)
  rw [lg_entry_eq]
  generalize (lg_sl ([.ref aS]) ++ List.replicate (2 - (lg_sl ([.ref aS])).length) Slot.unset).toArray = ls at hl ⊢
  have hl : lv_has ls 2 [(0, .ref aS)] := hl
  unfold f_X1_holdingWord at hF
  refine lv_aload_n hx hb dX1_holdingWord_0 rfl (lv_at hl 0 rfl) ?_
  refine va_get (D := (dC, dI)) (ci := 1) (v := .ref aC) (C := RX1) (T := TX1) (N := 15) hx hb hts inX1 hown hK hP 0 rfl rfl 1 (by decide) fl18 (fun _ h9 => h9) rfl dX1_holdingWord_1 ?_
  obtain ⟨q_4, hq_4, hF⟩ := bindE hF
  have hPc := hP.sub (ws' := [(aC, .inr (0, [.int v_words, .int v_passages, .int v_wordsInPassage, .int v_rows, .ref a_letters, .ref a_passageOf, .ref a_cues, .ref a_rowOf, .ref a_firstOfRow])), (a_letters, .inl (cI, 120, .inl v_letters)), (a_passageOf, .inl (cI, 120, .inl v_passageOf)), (a_cues, .inl (cI, 120, .inl v_cues)), (a_rowOf, .inl (cI, 120, .inl v_rowOf)), (a_firstOfRow, .inl (cI, 120, .inl v_firstOfRow))]) [2, 3, 4, 5, 6, 7] rfl
  refine vp_callSi (va_Run.run (va_runV (As := []) (rest := []) ⟨hx, hb, hml, hown, hts⟩ (c_X0_nextCue l dC dI cI cZ cO aC a_letters a_passageOf a_cues a_rowOf a_firstOfRow v_words v_passages v_wordsInPassage v_rows v_letters v_passageOf v_cues v_rowOf v_firstOfRow q_4 hq_4) (cwV 0 hts gX1_holdingWord_X0_nextCue rfl rfl rfl (by decide +kernel) ⟨Nat.le_of_ble_eq_true rfl, Nat.le_of_ble_eq_true rfl⟩) ⟨fb_rd, va_recv hK hPc (ci := 0) (q0 := 0) rfl rfl, pre_rd hPc hK hN⟩ rfl rfl hl.1 rfl (lv_room (Nat.le_of_ble_eq_true rfl)) dX1_holdingWord_4 ⟨Nat.zero_le _, Nat.zero_le _⟩)) (fun z_4 hz_4 => ?_)
  subst hz_4
  refine lv_istore_n (lv' := [(1, .int q_4), (0, .ref aS)]) hx hb dX1_holdingWord_7 rfl hl (by decide) rfl (fun ls hl => ?_)
  refine lv_iload_n hx hb dX1_holdingWord_8 rfl (lv_at hl 0 rfl) ?_
  refine lv_bipush (v := (-9 : Int32)) hx hb dX1_holdingWord_9 (by decide) ?_
  refine lv_icmp_ne (tgt := 26) hx hb dX1_holdingWord_11 (by decide) (fun c_11 => ?_) (fun c_11 => ?_)
  · have hF := (if_neg c_11).symm.trans hF
    refine lv_iload_n hx hb dX1_holdingWord_26 rfl (lv_at hl 0 rfl) ?_
    have hF : some q_4 = some r := hF
    cases hF
    subst hQ
    exact W.iret hx hb hr (fun t ht hW => ⟨_, rfl, rfl, ht⟩) (fun q hq => absurd hq List.not_mem_nil) dX1_holdingWord_27
  · have hF := (if_pos c_11).symm.trans hF
    refine lv_aload_n hx hb dX1_holdingWord_14 rfl (lv_at hl 1 rfl) ?_
    refine va_get (D := (dC, dI)) (ci := 1) (v := .ref aC) (C := RX1) (T := TX1) (N := 15) hx hb hts inX1 hown hK hP 0 rfl rfl 1 (by decide) fl18 (fun _ h9 => h9) rfl dX1_holdingWord_15 ?_
    refine va_get (D := (dC, dI)) (ci := 0) (v := .int v_words) (C := RX0) (T := TX0) (N := 9) hx hb hts inX0 hown hK hP 2 rfl rfl 0 (by decide) fl123 (fun _ h9 => h9) rfl dX1_holdingWord_18 ?_
    refine lv_iconst (v := (1 : Int32)) hx hb dX1_holdingWord_21 (by decide) ?_
    refine lv_isub hx hb dX1_holdingWord_22 ?_
    refine lv_goto (tgt := 27) hx hb dX1_holdingWord_23 (by decide) ?_
    have hF : some (v_words - (1 : Int32)) = some r := hF
    cases hF
    subst hQ
    exact W.iret hx hb hr (fun t ht hW => ⟨_, rfl, rfl, ht⟩) (fun q hq => absurd hq List.not_mem_nil) dX1_holdingWord_27
def f_X1_estimate (p1 : Int32) (p2 : Int32) (v_settings : (Nat → Int32)) (v_position : Int32) (v_speed : Int32) (v_time : Int32) (v_heardTime : Int32) : Option Int32 :=
  (f_X3_at 9 (8 : Int32) v_settings).bind fun q20 =>
  some (Int64.toInt32 (if (if (Int32.toInt64 p2) < ((((100 : Int64) * (Int32.toInt64 v_position)) + ((Int32.toInt64 v_speed) * ((((Int32.toInt64 v_time) - (Int32.toInt64 v_heardTime)) + (Int32.toInt64 p1)) + (Int32.toInt64 q20)))) / (100 : Int64)) then (Int32.toInt64 p2) else ((((100 : Int64) * (Int32.toInt64 v_position)) + ((Int32.toInt64 v_speed) * ((((Int32.toInt64 v_time) - (Int32.toInt64 v_heardTime)) + (Int32.toInt64 p1)) + (Int32.toInt64 q20)))) / (100 : Int64))) < (0 : Int64) then (0 : Int64) else (if (Int32.toInt64 p2) < ((((100 : Int64) * (Int32.toInt64 v_position)) + ((Int32.toInt64 v_speed) * ((((Int32.toInt64 v_time) - (Int32.toInt64 v_heardTime)) + (Int32.toInt64 p1)) + (Int32.toInt64 q20)))) / (100 : Int64)) then (Int32.toInt64 p2) else ((((100 : Int64) * (Int32.toInt64 v_position)) + ((Int32.toInt64 v_speed) * ((((Int32.toInt64 v_time) - (Int32.toInt64 v_heardTime)) + (Int32.toInt64 p1)) + (Int32.toInt64 q20)))) / (100 : Int64)))))
def rm_X1_estimate : Room := { frames := 1, cells := 0, slots := 0, locals := 24 }
set_option maxHeartbeats 4000000 in
set_option maxRecDepth 100000 in
theorem c_X1_estimate (l : Launch) (dC : Nat → ClassId) (dI : Nat → Nat → Nat) (cI cZ cO : ClassId) (aS a_settings aC a_letters a_passageOf a_cues a_rowOf a_firstOfRow aT a_times a_positions a_kept : Nat) (p1 : Int32) (p2 : Int32) (v_settings : (Nat → Int32)) (v_words : Int32) (v_passages : Int32) (v_wordsInPassage : Int32) (v_rows : Int32) (v_letters : (Nat → Int32)) (v_passageOf : (Nat → Int32)) (v_cues : (Nat → Int32)) (v_rowOf : (Nat → Int32)) (v_firstOfRow : (Nat → Int32)) (v_pairs : Int32) (v_times : (Nat → Int32)) (v_positions : (Nat → Int32)) (v_kept : (Nat → Int32)) (v_keptCount : Int32) (v_position : Int32) (v_speed : Int32) (v_time : Int32) (v_heardTime : Int32) (v_top : Int32) (v_skips : Int32) (v_repeats : Int32) (v_misses : Int32) (v_jerks : Int32) (v_overruns : Int32) (r : Int32) (hF : f_X1_estimate p1 p2 v_settings v_position v_speed v_time v_heardTime = some r) : Met l yX1_estimate wsX1_estimate rm_X1_estimate (va_Pc [.ref aS, .int p1, .int p2] (rdW dC dI cI cZ cO [(aS, .inr (1, [.ref a_settings, .ref aC, .ref aT, .ref a_kept, .int v_keptCount, .int v_position, .int v_speed, .int v_time, .int v_heardTime, .int v_top, .int v_skips, .int v_repeats, .int v_misses, .int v_jerks, .int v_overruns])), (a_settings, .inl (cI, 9, .inl v_settings)), (aC, .inr (0, [.int v_words, .int v_passages, .int v_wordsInPassage, .int v_rows, .ref a_letters, .ref a_passageOf, .ref a_cues, .ref a_rowOf, .ref a_firstOfRow])), (a_letters, .inl (cI, 120, .inl v_letters)), (a_passageOf, .inl (cI, 120, .inl v_passageOf)), (a_cues, .inl (cI, 120, .inl v_cues)), (a_rowOf, .inl (cI, 120, .inl v_rowOf)), (a_firstOfRow, .inl (cI, 120, .inl v_firstOfRow)), (aT, .inr (2, [.int v_pairs, .ref a_times, .ref a_positions])), (a_times, .inl (cI, 61, .inl v_times)), (a_positions, .inl (cI, 61, .inl v_positions)), (a_kept, .inl (cI, 4, .inl v_kept))])) (vp_Si (fun q => r = q)) 0 0 (fun _ => False) := by
  refine Met.ofW (cc := cX1_estimate) (maxL := 7) (ret := (some .int)) (by decide) rfl ?_
  intro p e s m args below meth c s₁ B hml hv
  obtain ⟨rfl, hP, hK, hN⟩ := hv
  have hx := B.exec
  have hb := B.bytes
  have hr := B.returns
  have hts := atoms_spec (ws := wsX1_estimate) B.pre
  have hown : s.vm.findClass RX1 = some m.cls := findClass_of_methodNamed B.named
  have hlocks := B.notSynchronized
  obtain ⟨Q, hQ⟩ : ∃ Q, Q = MQ below (vp_Si (fun q => r = q)) ([.ref aS, .int p1, .int p2] : List Value).toArray s 0 0 (fun _ => False) := ⟨_, rfl⟩
  rw [← hQ]
  have hS : va_S (fun _ => False) s.heap s.heap [] := va_S.rf
  have fl53 := hts (.fieldLink RX1 53 "Teleprompter$State" "time" "I") (by decide +kernel)
  have fl56 := hts (.fieldLink RX1 56 "Teleprompter$State" "heardTime" "I") (by decide +kernel)
  have fl9 := hts (.fieldLink RX1 9 "Teleprompter$State" "settings" "[I") (by decide +kernel)
  have cl170 := hts (.constantLong RX1 170 (100)) (by decide +kernel)
  have fl47 := hts (.fieldLink RX1 47 "Teleprompter$State" "position" "I") (by decide +kernel)
  have fl50 := hts (.fieldLink RX1 50 "Teleprompter$State" "speed" "I") (by decide +kernel)
  have ml172 := hts (.methodLink RX1 172 Lib.MathLoose.min_long.x) (by decide +kernel)
  have ls_mmin_long := hts (.static Lib.MathLoose.min_long.x) (by decide +kernel)
  have lmI := hts (.initialized "java/lang/Math") (by decide +kernel)
  have lc_mmin_long := hts (.code Lib.MathLoose.min_long.x Lib.MathLoose.min_long.code 4 (some .long)) (by decide +kernel)
  have ml175 := hts (.methodLink RX1 175 Lib.MathLoose.max_long.x) (by decide +kernel)
  have ls_mmax_long := hts (.static Lib.MathLoose.max_long.x) (by decide +kernel)
  have lc_mmax_long := hts (.code Lib.MathLoose.max_long.x Lib.MathLoose.max_long.code 4 (some .long)) (by decide +kernel)
  have inX1 : ∀ w ∈ u_ws RX1 TX1 15, w ∈ wsX1_estimate := by decide +kernel
  have hl := lv_entry ([.ref aS, .int p1, .int p2]) (n := 7) (Nat.le_of_ble_eq_true rfl)
  rw [lg_entry_eq]
  generalize (lg_sl ([.ref aS, .int p1, .int p2]) ++ List.replicate (7 - (lg_sl ([.ref aS, .int p1, .int p2])).length) Slot.unset).toArray = ls at hl ⊢
  have hl : lv_has ls 7 [(0, .ref aS), (1, .int p1), (2, .int p2)] := hl
  unfold f_X1_estimate at hF
  refine lv_aload_n hx hb dX1_estimate_0 rfl (lv_at hl 0 rfl) ?_
  refine va_get (D := (dC, dI)) (ci := 1) (v := .int v_time) (C := RX1) (T := TX1) (N := 15) hx hb hts inX1 hown hK hP 0 rfl rfl 7 (by decide) fl53 (fun _ h9 => h9) rfl dX1_estimate_1 ?_
  refine lv_i2l hx hb dX1_estimate_4 rfl ?_
  refine lv_aload_n hx hb dX1_estimate_5 rfl (lv_at hl 0 rfl) ?_
  refine va_get (D := (dC, dI)) (ci := 1) (v := .int v_heardTime) (C := RX1) (T := TX1) (N := 15) hx hb hts inX1 hown hK hP 0 rfl rfl 8 (by decide) fl56 (fun _ h9 => h9) rfl dX1_estimate_6 ?_
  refine lv_i2l hx hb dX1_estimate_9 rfl ?_
  refine lv_lsub hx hb dX1_estimate_10 ?_
  refine lv_iload_n hx hb dX1_estimate_11 rfl (lv_at hl 1 rfl) ?_
  refine lv_i2l hx hb dX1_estimate_12 rfl ?_
  refine lv_ladd hx hb dX1_estimate_13 ?_
  refine lv_aload_n hx hb dX1_estimate_14 rfl (lv_at hl 0 rfl) ?_
  refine va_get (D := (dC, dI)) (ci := 1) (v := .ref a_settings) (C := RX1) (T := TX1) (N := 15) hx hb hts inX1 hown hK hP 0 rfl rfl 0 (by decide) fl9 (fun _ h9 => h9) rfl dX1_estimate_15 ?_
  refine lv_bipush (v := (8 : Int32)) hx hb dX1_estimate_18 (by decide) ?_
  obtain ⟨q_20, hq_20, hF⟩ := bindE hF
  have hPc := hP.sub (ws' := [(a_settings, .inl (cI, 9, .inl v_settings))]) [1] rfl
  refine vp_callSi (va_Run.run (va_runSN (As := [.ref a_settings, .int (8 : Int32)]) (rest := [.long (((Int32.toInt64 v_time) - (Int32.toInt64 v_heardTime)) + (Int32.toInt64 p1))]) ⟨hx, hb, hml, hown, hts⟩ (c_X3_at l dC dI cI cZ cO a_settings 9 (8 : Int32) v_settings q_20 hq_20) ⟨(va_cnB 2 hts gX1_estimate_X3_at_n77 rfl rfl rfl (NW_X1_77 hN) (hts (.initialized RX3) (by decide +kernel)) (by decide +kernel) ⟨Nat.le_of_ble_eq_true rfl, Nat.le_of_ble_eq_true rfl⟩), hts (.static yX3_at) (by decide +kernel), trivial⟩ ⟨fb_rd, pre_rd hPc hK hN⟩ rfl rfl hl.1 rfl (lv_room (Nat.le_of_ble_eq_true rfl)) dX1_estimate_20 ⟨Nat.zero_le _, Nat.zero_le _⟩)) (fun z_20 hz_20 => ?_)
  subst hz_20
  refine lv_i2l hx hb dX1_estimate_23 rfl ?_
  refine lv_ladd hx hb dX1_estimate_24 ?_
  refine lv_lstore_n (lv' := [(3, .long ((((Int32.toInt64 v_time) - (Int32.toInt64 v_heardTime)) + (Int32.toInt64 p1)) + (Int32.toInt64 q_20))), (0, .ref aS), (1, .int p1), (2, .int p2)]) hx hb dX1_estimate_25 rfl hl (by decide) rfl (fun ls hl => ?_)
  refine lv_ldc2 hx hb hown cl170 dX1_estimate_26 ?_
  refine lv_aload_n hx hb dX1_estimate_29 rfl (lv_at hl 1 rfl) ?_
  refine va_get (D := (dC, dI)) (ci := 1) (v := .int v_position) (C := RX1) (T := TX1) (N := 15) hx hb hts inX1 hown hK hP 0 rfl rfl 5 (by decide) fl47 (fun _ h9 => h9) rfl dX1_estimate_30 ?_
  refine lv_i2l hx hb dX1_estimate_33 rfl ?_
  refine lv_lmul hx hb dX1_estimate_34 ?_
  refine lv_aload_n hx hb dX1_estimate_35 rfl (lv_at hl 1 rfl) ?_
  refine va_get (D := (dC, dI)) (ci := 1) (v := .int v_speed) (C := RX1) (T := TX1) (N := 15) hx hb hts inX1 hown hK hP 0 rfl rfl 6 (by decide) fl50 (fun _ h9 => h9) rfl dX1_estimate_36 ?_
  refine lv_i2l hx hb dX1_estimate_39 rfl ?_
  refine lv_lload_n hx hb dX1_estimate_40 rfl (lv_at hl 0 rfl) ?_
  refine lv_lmul hx hb dX1_estimate_41 ?_
  refine lv_ladd hx hb dX1_estimate_42 ?_
  refine lv_ldc2 hx hb hown cl170 dX1_estimate_43 ?_
  refine lv_ldiv hx hb dX1_estimate_46 (by decide) ?_
  refine lv_lstore (lv' := [(5, .long ((((100 : Int64) * (Int32.toInt64 v_position)) + ((Int32.toInt64 v_speed) * ((((Int32.toInt64 v_time) - (Int32.toInt64 v_heardTime)) + (Int32.toInt64 p1)) + (Int32.toInt64 q_20)))) / (100 : Int64))), (3, .long ((((Int32.toInt64 v_time) - (Int32.toInt64 v_heardTime)) + (Int32.toInt64 p1)) + (Int32.toInt64 q_20))), (0, .ref aS), (1, .int p1), (2, .int p2)]) hx hb dX1_estimate_47 hl (by decide) rfl (fun ls hl => ?_)
  refine lv_lconst (v := (0 : Int64)) hx hb dX1_estimate_49 (by decide) ?_
  refine lv_lload hx hb dX1_estimate_50 (lv_at hl 0 rfl) ?_
  refine lv_iload_n hx hb dX1_estimate_52 rfl (lv_at hl 4 rfl) ?_
  refine lv_i2l hx hb dX1_estimate_53 rfl ?_
  refine va_mmin_long hx hb (by rw [hml]; exact hl.1.symm) hown ml172 ls_mmin_long lmI lc_mmin_long (Nat.le_of_ble_eq_true rfl) (Nat.le_of_ble_eq_true rfl) (Nat.zero_le _) (Nat.zero_le _) dX1_estimate_54 ?_
  refine va_mmax_long hx hb (by rw [hml]; exact hl.1.symm) hown ml175 ls_mmax_long lmI lc_mmax_long (Nat.le_of_ble_eq_true rfl) (Nat.le_of_ble_eq_true rfl) (Nat.zero_le _) (Nat.zero_le _) dX1_estimate_57 ?_
  refine lv_l2i hx hb dX1_estimate_60 rfl ?_
  have hF : some (Int64.toInt32 (if (if (Int32.toInt64 p2) < ((((100 : Int64) * (Int32.toInt64 v_position)) + ((Int32.toInt64 v_speed) * ((((Int32.toInt64 v_time) - (Int32.toInt64 v_heardTime)) + (Int32.toInt64 p1)) + (Int32.toInt64 q_20)))) / (100 : Int64)) then (Int32.toInt64 p2) else ((((100 : Int64) * (Int32.toInt64 v_position)) + ((Int32.toInt64 v_speed) * ((((Int32.toInt64 v_time) - (Int32.toInt64 v_heardTime)) + (Int32.toInt64 p1)) + (Int32.toInt64 q_20)))) / (100 : Int64))) < (0 : Int64) then (0 : Int64) else (if (Int32.toInt64 p2) < ((((100 : Int64) * (Int32.toInt64 v_position)) + ((Int32.toInt64 v_speed) * ((((Int32.toInt64 v_time) - (Int32.toInt64 v_heardTime)) + (Int32.toInt64 p1)) + (Int32.toInt64 q_20)))) / (100 : Int64)) then (Int32.toInt64 p2) else ((((100 : Int64) * (Int32.toInt64 v_position)) + ((Int32.toInt64 v_speed) * ((((Int32.toInt64 v_time) - (Int32.toInt64 v_heardTime)) + (Int32.toInt64 p1)) + (Int32.toInt64 q_20)))) / (100 : Int64))))) = some r := hF
  cases hF
  subst hQ
  exact W.iret hx hb hr (fun t ht hW => ⟨_, rfl, rfl, ht⟩) (fun q hq => absurd hq List.not_mem_nil) dX1_estimate_61
def f_X1_estimatedWord (v_settings : (Nat → Int32)) (v_words : Int32) (v_cues : (Nat → Int32)) (v_position : Int32) (v_speed : Int32) (v_time : Int32) (v_heardTime : Int32) : Option Int32 :=
  (f_X1_holdingWord v_words v_cues).bind fun q3 =>
  (f_X1_estimate (0 : Int32) q3 v_settings v_position v_speed v_time v_heardTime).bind fun q6 =>
  some q6
def rm_X1_estimatedWord : Room := { frames := 3, cells := 0, slots := 0, locals := 63 }
set_option maxHeartbeats 4000000 in
set_option maxRecDepth 100000 in
theorem c_X1_estimatedWord (l : Launch) (dC : Nat → ClassId) (dI : Nat → Nat → Nat) (cI cZ cO : ClassId) (aS a_settings aC a_letters a_passageOf a_cues a_rowOf a_firstOfRow aT a_times a_positions a_kept : Nat) (v_settings : (Nat → Int32)) (v_words : Int32) (v_passages : Int32) (v_wordsInPassage : Int32) (v_rows : Int32) (v_letters : (Nat → Int32)) (v_passageOf : (Nat → Int32)) (v_cues : (Nat → Int32)) (v_rowOf : (Nat → Int32)) (v_firstOfRow : (Nat → Int32)) (v_pairs : Int32) (v_times : (Nat → Int32)) (v_positions : (Nat → Int32)) (v_kept : (Nat → Int32)) (v_keptCount : Int32) (v_position : Int32) (v_speed : Int32) (v_time : Int32) (v_heardTime : Int32) (v_top : Int32) (v_skips : Int32) (v_repeats : Int32) (v_misses : Int32) (v_jerks : Int32) (v_overruns : Int32) (r : Int32) (hF : f_X1_estimatedWord v_settings v_words v_cues v_position v_speed v_time v_heardTime = some r) : Met l yX1_estimatedWord wsX1_estimatedWord rm_X1_estimatedWord (va_Pc [.ref aS] (rdW dC dI cI cZ cO [(aS, .inr (1, [.ref a_settings, .ref aC, .ref aT, .ref a_kept, .int v_keptCount, .int v_position, .int v_speed, .int v_time, .int v_heardTime, .int v_top, .int v_skips, .int v_repeats, .int v_misses, .int v_jerks, .int v_overruns])), (a_settings, .inl (cI, 9, .inl v_settings)), (aC, .inr (0, [.int v_words, .int v_passages, .int v_wordsInPassage, .int v_rows, .ref a_letters, .ref a_passageOf, .ref a_cues, .ref a_rowOf, .ref a_firstOfRow])), (a_letters, .inl (cI, 120, .inl v_letters)), (a_passageOf, .inl (cI, 120, .inl v_passageOf)), (a_cues, .inl (cI, 120, .inl v_cues)), (a_rowOf, .inl (cI, 120, .inl v_rowOf)), (a_firstOfRow, .inl (cI, 120, .inl v_firstOfRow)), (aT, .inr (2, [.int v_pairs, .ref a_times, .ref a_positions])), (a_times, .inl (cI, 61, .inl v_times)), (a_positions, .inl (cI, 61, .inl v_positions)), (a_kept, .inl (cI, 4, .inl v_kept))])) (vp_Si (fun q => r = q)) 0 0 (fun _ => False) := by
  refine Met.ofW (cc := cX1_estimatedWord) (maxL := 1) (ret := (some .int)) (by decide) rfl ?_
  intro p e s m args below meth c s₁ B hml hv
  obtain ⟨rfl, hP, hK, hN⟩ := hv
  have hx := B.exec
  have hb := B.bytes
  have hr := B.returns
  have hts := atoms_spec (ws := wsX1_estimatedWord) B.pre
  have hown : s.vm.findClass RX1 = some m.cls := findClass_of_methodNamed B.named
  have hlocks := B.notSynchronized
  obtain ⟨Q, hQ⟩ : ∃ Q, Q = MQ below (vp_Si (fun q => r = q)) ([.ref aS] : List Value).toArray s 0 0 (fun _ => False) := ⟨_, rfl⟩
  rw [← hQ]
  have hS : va_S (fun _ => False) s.heap s.heap [] := va_S.rf
  have hl := lv_entry ([.ref aS]) (n := 1) (Nat.le_of_ble_eq_true rfl)
  rw [lg_entry_eq]
  generalize (lg_sl ([.ref aS]) ++ List.replicate (1 - (lg_sl ([.ref aS])).length) Slot.unset).toArray = ls at hl ⊢
  have hl : lv_has ls 1 [(0, .ref aS)] := hl
  unfold f_X1_estimatedWord at hF
  refine lv_aload_n hx hb dX1_estimatedWord_0 rfl (lv_at hl 0 rfl) ?_
  refine lv_iconst (v := (0 : Int32)) hx hb dX1_estimatedWord_1 (by decide) ?_
  refine lv_aload_n hx hb dX1_estimatedWord_2 rfl (lv_at hl 0 rfl) ?_
  obtain ⟨q_3, hq_3, hF⟩ := bindE hF
  have hPc := hP
  refine vp_callSi (va_Run.run (va_runV (As := []) (rest := [.int (0 : Int32), .ref aS]) ⟨hx, hb, hml, hown, hts⟩ (c_X1_holdingWord l dC dI cI cZ cO aS a_settings aC a_letters a_passageOf a_cues a_rowOf a_firstOfRow aT a_times a_positions a_kept v_settings v_words v_passages v_wordsInPassage v_rows v_letters v_passageOf v_cues v_rowOf v_firstOfRow v_pairs v_times v_positions v_kept v_keptCount v_position v_speed v_time v_heardTime v_top v_skips v_repeats v_misses v_jerks v_overruns q_3 hq_3) (cwV 0 hts gX1_estimatedWord_X1_holdingWord rfl rfl rfl (by decide +kernel) ⟨Nat.le_of_ble_eq_true rfl, Nat.le_of_ble_eq_true rfl⟩) ⟨fb_rd, va_recv hK hPc (ci := 1) (q0 := 0) rfl rfl, pre_rd hPc hK hN⟩ rfl rfl hl.1 rfl (lv_room (Nat.le_of_ble_eq_true rfl)) dX1_estimatedWord_3 ⟨Nat.zero_le _, Nat.zero_le _⟩)) (fun z_3 hz_3 => ?_)
  subst hz_3
  obtain ⟨q_6, hq_6, hF⟩ := bindE hF
  have hPc := hP
  refine vp_callSi (va_Run.run (va_runV (As := [.int (0 : Int32), .int q_3]) (rest := []) ⟨hx, hb, hml, hown, hts⟩ (c_X1_estimate l dC dI cI cZ cO aS a_settings aC a_letters a_passageOf a_cues a_rowOf a_firstOfRow aT a_times a_positions a_kept (0 : Int32) q_3 v_settings v_words v_passages v_wordsInPassage v_rows v_letters v_passageOf v_cues v_rowOf v_firstOfRow v_pairs v_times v_positions v_kept v_keptCount v_position v_speed v_time v_heardTime v_top v_skips v_repeats v_misses v_jerks v_overruns q_6 hq_6) (cwV 2 hts gX1_estimatedWord_X1_estimate rfl rfl rfl (by decide +kernel) ⟨Nat.le_of_ble_eq_true rfl, Nat.le_of_ble_eq_true rfl⟩) ⟨fb_rd, va_recv hK hPc (ci := 1) (q0 := 0) rfl rfl, pre_rd hPc hK hN⟩ rfl rfl hl.1 rfl (lv_room (Nat.le_of_ble_eq_true rfl)) dX1_estimatedWord_6 ⟨Nat.zero_le _, Nat.zero_le _⟩)) (fun z_6 hz_6 => ?_)
  subst hz_6
  have hF : some q_6 = some r := hF
  cases hF
  subst hQ
  exact W.iret hx hb hr (fun t ht hW => ⟨_, rfl, rfl, ht⟩) (fun q hq => absurd hq List.not_mem_nil) dX1_estimatedWord_9
def f_X1_highestTop (v_settings : (Nat → Int32)) (v_rows : Int32) : Option Int32 :=
  (f_X3_at 9 (1 : Int32) v_settings).bind fun q15 =>
  some (if (0 : Int32) < ((100 : Int32) * (v_rows - q15)) then ((100 : Int32) * (v_rows - q15)) else (0 : Int32))
def rm_X1_highestTop : Room := { frames := 1, cells := 0, slots := 0, locals := 24 }
set_option maxHeartbeats 4000000 in
set_option maxRecDepth 100000 in
theorem c_X1_highestTop (l : Launch) (dC : Nat → ClassId) (dI : Nat → Nat → Nat) (cI cZ cO : ClassId) (aS a_settings aC a_letters a_passageOf a_cues a_rowOf a_firstOfRow aT a_times a_positions a_kept : Nat) (v_settings : (Nat → Int32)) (v_words : Int32) (v_passages : Int32) (v_wordsInPassage : Int32) (v_rows : Int32) (v_letters : (Nat → Int32)) (v_passageOf : (Nat → Int32)) (v_cues : (Nat → Int32)) (v_rowOf : (Nat → Int32)) (v_firstOfRow : (Nat → Int32)) (v_pairs : Int32) (v_times : (Nat → Int32)) (v_positions : (Nat → Int32)) (v_kept : (Nat → Int32)) (v_keptCount : Int32) (v_position : Int32) (v_speed : Int32) (v_time : Int32) (v_heardTime : Int32) (v_top : Int32) (v_skips : Int32) (v_repeats : Int32) (v_misses : Int32) (v_jerks : Int32) (v_overruns : Int32) (r : Int32) (hF : f_X1_highestTop v_settings v_rows = some r) : Met l yX1_highestTop wsX1_highestTop rm_X1_highestTop (va_Pc [.ref aS] (rdW dC dI cI cZ cO [(aS, .inr (1, [.ref a_settings, .ref aC, .ref aT, .ref a_kept, .int v_keptCount, .int v_position, .int v_speed, .int v_time, .int v_heardTime, .int v_top, .int v_skips, .int v_repeats, .int v_misses, .int v_jerks, .int v_overruns])), (a_settings, .inl (cI, 9, .inl v_settings)), (aC, .inr (0, [.int v_words, .int v_passages, .int v_wordsInPassage, .int v_rows, .ref a_letters, .ref a_passageOf, .ref a_cues, .ref a_rowOf, .ref a_firstOfRow])), (a_letters, .inl (cI, 120, .inl v_letters)), (a_passageOf, .inl (cI, 120, .inl v_passageOf)), (a_cues, .inl (cI, 120, .inl v_cues)), (a_rowOf, .inl (cI, 120, .inl v_rowOf)), (a_firstOfRow, .inl (cI, 120, .inl v_firstOfRow)), (aT, .inr (2, [.int v_pairs, .ref a_times, .ref a_positions])), (a_times, .inl (cI, 61, .inl v_times)), (a_positions, .inl (cI, 61, .inl v_positions)), (a_kept, .inl (cI, 4, .inl v_kept))])) (vp_Si (fun q => r = q)) 0 0 (fun _ => False) := by
  refine Met.ofW (cc := cX1_highestTop) (maxL := 1) (ret := (some .int)) (by decide) rfl ?_
  intro p e s m args below meth c s₁ B hml hv
  obtain ⟨rfl, hP, hK, hN⟩ := hv
  have hx := B.exec
  have hb := B.bytes
  have hr := B.returns
  have hts := atoms_spec (ws := wsX1_highestTop) B.pre
  have hown : s.vm.findClass RX1 = some m.cls := findClass_of_methodNamed B.named
  have hlocks := B.notSynchronized
  obtain ⟨Q, hQ⟩ : ∃ Q, Q = MQ below (vp_Si (fun q => r = q)) ([.ref aS] : List Value).toArray s 0 0 (fun _ => False) := ⟨_, rfl⟩
  rw [← hQ]
  have hS : va_S (fun _ => False) s.heap s.heap [] := va_S.rf
  have fl18 := hts (.fieldLink RX1 18 "Teleprompter$State" "script" "LTeleprompter$Script;") (by decide +kernel)
  have fl177 := hts (.fieldLink RX1 177 "Teleprompter$Script" "rows" "I") (by decide +kernel)
  have fl9 := hts (.fieldLink RX1 9 "Teleprompter$State" "settings" "[I") (by decide +kernel)
  have ml117 := hts (.methodLink RX1 117 Lib.Math.max.name) (by decide +kernel)
  have ls_mmax := hts (.static Lib.Math.max.name) (by decide +kernel)
  have lmI := hts (.initialized "java/lang/Math") (by decide +kernel)
  have lc_mmax := hts (.code Lib.Math.max.name Lib.Math.max.code 2 (some .int)) (by decide +kernel)
  have inX1 : ∀ w ∈ u_ws RX1 TX1 15, w ∈ wsX1_highestTop := by decide +kernel
  have inX0 : ∀ w ∈ u_ws RX0 TX0 9, w ∈ wsX1_highestTop := by decide +kernel
  have hl := lv_entry ([.ref aS]) (n := 1) (Nat.le_of_ble_eq_true rfl)
  rw [lg_entry_eq]
  generalize (lg_sl ([.ref aS]) ++ List.replicate (1 - (lg_sl ([.ref aS])).length) Slot.unset).toArray = ls at hl ⊢
  have hl : lv_has ls 1 [(0, .ref aS)] := hl
  unfold f_X1_highestTop at hF
  refine lv_iconst (v := (0 : Int32)) hx hb dX1_highestTop_0 (by decide) ?_
  refine lv_bipush (v := (100 : Int32)) hx hb dX1_highestTop_1 (by decide) ?_
  refine lv_aload_n hx hb dX1_highestTop_3 rfl (lv_at hl 0 rfl) ?_
  refine va_get (D := (dC, dI)) (ci := 1) (v := .ref aC) (C := RX1) (T := TX1) (N := 15) hx hb hts inX1 hown hK hP 0 rfl rfl 1 (by decide) fl18 (fun _ h9 => h9) rfl dX1_highestTop_4 ?_
  refine va_get (D := (dC, dI)) (ci := 0) (v := .int v_rows) (C := RX0) (T := TX0) (N := 9) hx hb hts inX0 hown hK hP 2 rfl rfl 3 (by decide) fl177 (fun _ h9 => h9) rfl dX1_highestTop_7 ?_
  refine lv_aload_n hx hb dX1_highestTop_10 rfl (lv_at hl 0 rfl) ?_
  refine va_get (D := (dC, dI)) (ci := 1) (v := .ref a_settings) (C := RX1) (T := TX1) (N := 15) hx hb hts inX1 hown hK hP 0 rfl rfl 0 (by decide) fl9 (fun _ h9 => h9) rfl dX1_highestTop_11 ?_
  refine lv_iconst (v := (1 : Int32)) hx hb dX1_highestTop_14 (by decide) ?_
  obtain ⟨q_15, hq_15, hF⟩ := bindE hF
  have hPc := hP.sub (ws' := [(a_settings, .inl (cI, 9, .inl v_settings))]) [1] rfl
  refine vp_callSi (va_Run.run (va_runSN (As := [.ref a_settings, .int (1 : Int32)]) (rest := [.int v_rows, .int (100 : Int32), .int (0 : Int32)]) ⟨hx, hb, hml, hown, hts⟩ (c_X3_at l dC dI cI cZ cO a_settings 9 (1 : Int32) v_settings q_15 hq_15) ⟨(va_cnB 2 hts gX1_highestTop_X3_at_n77 rfl rfl rfl (NW_X1_77 hN) (hts (.initialized RX3) (by decide +kernel)) (by decide +kernel) ⟨Nat.le_of_ble_eq_true rfl, Nat.le_of_ble_eq_true rfl⟩), hts (.static yX3_at) (by decide +kernel), trivial⟩ ⟨fb_rd, pre_rd hPc hK hN⟩ rfl rfl hl.1 rfl (lv_room (Nat.le_of_ble_eq_true rfl)) dX1_highestTop_15 ⟨Nat.zero_le _, Nat.zero_le _⟩)) (fun z_15 hz_15 => ?_)
  subst hz_15
  refine lv_isub hx hb dX1_highestTop_18 ?_
  refine lv_imul hx hb dX1_highestTop_19 ?_
  refine va_mmax hx hb (by rw [hml]; exact hl.1.symm) hown ml117 ls_mmax lmI lc_mmax (Nat.le_of_ble_eq_true rfl) (Nat.le_of_ble_eq_true rfl) (Nat.zero_le _) (Nat.zero_le _) dX1_highestTop_20 ?_
  have hF : some (if (0 : Int32) < ((100 : Int32) * (v_rows - q_15)) then ((100 : Int32) * (v_rows - q_15)) else (0 : Int32)) = some r := hF
  cases hF
  subst hQ
  exact W.iret hx hb hr (fun t ht hW => ⟨_, rfl, rfl, ht⟩) (fun q hq => absurd hq List.not_mem_nil) dX1_highestTop_23
def f_X1_desiredTop (p1 : Int32) (v_settings : (Nat → Int32)) (v_rows : Int32) (v_rowOf : (Nat → Int32)) : Option Int32 :=
  (f_X3_at 9 (2 : Int32) v_settings).bind fun q5 =>
  (f_X3_at 9 (1 : Int32) v_settings).bind fun q13 =>
  (f_X3_at 120 p1 v_rowOf).bind fun q32 =>
  (f_X1_highestTop v_settings v_rows).bind fun q40 =>
  (f_X3_limited ((100 : Int32) * (q32 - (if (q13 - (1 : Int32)) < q5 then (q13 - (1 : Int32)) else q5))) (0 : Int32) q40).bind fun q43 =>
  some q43
def rm_X1_desiredTop : Room := { frames := 2, cells := 0, slots := 0, locals := 46 }
set_option maxHeartbeats 4000000 in
set_option maxRecDepth 100000 in
theorem c_X1_desiredTop (l : Launch) (dC : Nat → ClassId) (dI : Nat → Nat → Nat) (cI cZ cO : ClassId) (aS a_settings aC a_letters a_passageOf a_cues a_rowOf a_firstOfRow aT a_times a_positions a_kept : Nat) (p1 : Int32) (v_settings : (Nat → Int32)) (v_words : Int32) (v_passages : Int32) (v_wordsInPassage : Int32) (v_rows : Int32) (v_letters : (Nat → Int32)) (v_passageOf : (Nat → Int32)) (v_cues : (Nat → Int32)) (v_rowOf : (Nat → Int32)) (v_firstOfRow : (Nat → Int32)) (v_pairs : Int32) (v_times : (Nat → Int32)) (v_positions : (Nat → Int32)) (v_kept : (Nat → Int32)) (v_keptCount : Int32) (v_position : Int32) (v_speed : Int32) (v_time : Int32) (v_heardTime : Int32) (v_top : Int32) (v_skips : Int32) (v_repeats : Int32) (v_misses : Int32) (v_jerks : Int32) (v_overruns : Int32) (r : Int32) (hF : f_X1_desiredTop p1 v_settings v_rows v_rowOf = some r) : Met l yX1_desiredTop wsX1_desiredTop rm_X1_desiredTop (va_Pc [.ref aS, .int p1] (rdW dC dI cI cZ cO [(aS, .inr (1, [.ref a_settings, .ref aC, .ref aT, .ref a_kept, .int v_keptCount, .int v_position, .int v_speed, .int v_time, .int v_heardTime, .int v_top, .int v_skips, .int v_repeats, .int v_misses, .int v_jerks, .int v_overruns])), (a_settings, .inl (cI, 9, .inl v_settings)), (aC, .inr (0, [.int v_words, .int v_passages, .int v_wordsInPassage, .int v_rows, .ref a_letters, .ref a_passageOf, .ref a_cues, .ref a_rowOf, .ref a_firstOfRow])), (a_letters, .inl (cI, 120, .inl v_letters)), (a_passageOf, .inl (cI, 120, .inl v_passageOf)), (a_cues, .inl (cI, 120, .inl v_cues)), (a_rowOf, .inl (cI, 120, .inl v_rowOf)), (a_firstOfRow, .inl (cI, 120, .inl v_firstOfRow)), (aT, .inr (2, [.int v_pairs, .ref a_times, .ref a_positions])), (a_times, .inl (cI, 61, .inl v_times)), (a_positions, .inl (cI, 61, .inl v_positions)), (a_kept, .inl (cI, 4, .inl v_kept))])) (vp_Si (fun q => r = q)) 0 0 (fun _ => False) := by
  refine Met.ofW (cc := cX1_desiredTop) (maxL := 3) (ret := (some .int)) (by decide) rfl ?_
  intro p e s m args below meth c s₁ B hml hv
  obtain ⟨rfl, hP, hK, hN⟩ := hv
  have hx := B.exec
  have hb := B.bytes
  have hr := B.returns
  have hts := atoms_spec (ws := wsX1_desiredTop) B.pre
  have hown : s.vm.findClass RX1 = some m.cls := findClass_of_methodNamed B.named
  have hlocks := B.notSynchronized
  obtain ⟨Q, hQ⟩ : ∃ Q, Q = MQ below (vp_Si (fun q => r = q)) ([.ref aS, .int p1] : List Value).toArray s 0 0 (fun _ => False) := ⟨_, rfl⟩
  rw [← hQ]
  have hS : va_S (fun _ => False) s.heap s.heap [] := va_S.rf
  have fl9 := hts (.fieldLink RX1 9 "Teleprompter$State" "settings" "[I") (by decide +kernel)
  have ml126 := hts (.methodLink RX1 126 Lib.Math.min.name) (by decide +kernel)
  have ls_mmin := hts (.static Lib.Math.min.name) (by decide +kernel)
  have lmI := hts (.initialized "java/lang/Math") (by decide +kernel)
  have lc_mmin := hts (.code Lib.Math.min.name Lib.Math.min.code 2 (some .int)) (by decide +kernel)
  have fl18 := hts (.fieldLink RX1 18 "Teleprompter$State" "script" "LTeleprompter$Script;") (by decide +kernel)
  have fl180 := hts (.fieldLink RX1 180 "Teleprompter$Script" "rowOf" "[I") (by decide +kernel)
  have inX1 : ∀ w ∈ u_ws RX1 TX1 15, w ∈ wsX1_desiredTop := by decide +kernel
  have inX0 : ∀ w ∈ u_ws RX0 TX0 9, w ∈ wsX1_desiredTop := by decide +kernel
  have hl := lv_entry ([.ref aS, .int p1]) (n := 3) (Nat.le_of_ble_eq_true rfl)
  rw [lg_entry_eq]
  generalize (lg_sl ([.ref aS, .int p1]) ++ List.replicate (3 - (lg_sl ([.ref aS, .int p1])).length) Slot.unset).toArray = ls at hl ⊢
  have hl : lv_has ls 3 [(0, .ref aS), (1, .int p1)] := hl
  unfold f_X1_desiredTop at hF
  refine lv_aload_n hx hb dX1_desiredTop_0 rfl (lv_at hl 0 rfl) ?_
  refine va_get (D := (dC, dI)) (ci := 1) (v := .ref a_settings) (C := RX1) (T := TX1) (N := 15) hx hb hts inX1 hown hK hP 0 rfl rfl 0 (by decide) fl9 (fun _ h9 => h9) rfl dX1_desiredTop_1 ?_
  refine lv_iconst (v := (2 : Int32)) hx hb dX1_desiredTop_4 (by decide) ?_
  obtain ⟨q_5, hq_5, hF⟩ := bindE hF
  have hPc := hP.sub (ws' := [(a_settings, .inl (cI, 9, .inl v_settings))]) [1] rfl
  refine vp_callSi (va_Run.run (va_runSN (As := [.ref a_settings, .int (2 : Int32)]) (rest := []) ⟨hx, hb, hml, hown, hts⟩ (c_X3_at l dC dI cI cZ cO a_settings 9 (2 : Int32) v_settings q_5 hq_5) ⟨(va_cnB 2 hts gX1_desiredTop_X3_at_n77 rfl rfl rfl (NW_X1_77 hN) (hts (.initialized RX3) (by decide +kernel)) (by decide +kernel) ⟨Nat.le_of_ble_eq_true rfl, Nat.le_of_ble_eq_true rfl⟩), hts (.static yX3_at) (by decide +kernel), trivial⟩ ⟨fb_rd, pre_rd hPc hK hN⟩ rfl rfl hl.1 rfl (lv_room (Nat.le_of_ble_eq_true rfl)) dX1_desiredTop_5 ⟨Nat.zero_le _, Nat.zero_le _⟩)) (fun z_5 hz_5 => ?_)
  subst hz_5
  refine lv_aload_n hx hb dX1_desiredTop_8 rfl (lv_at hl 0 rfl) ?_
  refine va_get (D := (dC, dI)) (ci := 1) (v := .ref a_settings) (C := RX1) (T := TX1) (N := 15) hx hb hts inX1 hown hK hP 0 rfl rfl 0 (by decide) fl9 (fun _ h9 => h9) rfl dX1_desiredTop_9 ?_
  refine lv_iconst (v := (1 : Int32)) hx hb dX1_desiredTop_12 (by decide) ?_
  obtain ⟨q_13, hq_13, hF⟩ := bindE hF
  have hPc := hP.sub (ws' := [(a_settings, .inl (cI, 9, .inl v_settings))]) [1] rfl
  refine vp_callSi (va_Run.run (va_runSN (As := [.ref a_settings, .int (1 : Int32)]) (rest := [.int q_5]) ⟨hx, hb, hml, hown, hts⟩ (c_X3_at l dC dI cI cZ cO a_settings 9 (1 : Int32) v_settings q_13 hq_13) ⟨(va_cnB 2 hts gX1_desiredTop_X3_at_n77 rfl rfl rfl (NW_X1_77 hN) (hts (.initialized RX3) (by decide +kernel)) (by decide +kernel) ⟨Nat.le_of_ble_eq_true rfl, Nat.le_of_ble_eq_true rfl⟩), hts (.static yX3_at) (by decide +kernel), trivial⟩ ⟨fb_rd, pre_rd hPc hK hN⟩ rfl rfl hl.1 rfl (lv_room (Nat.le_of_ble_eq_true rfl)) dX1_desiredTop_13 ⟨Nat.zero_le _, Nat.zero_le _⟩)) (fun z_13 hz_13 => ?_)
  subst hz_13
  refine lv_iconst (v := (1 : Int32)) hx hb dX1_desiredTop_16 (by decide) ?_
  refine lv_isub hx hb dX1_desiredTop_17 ?_
  refine va_mmin hx hb (by rw [hml]; exact hl.1.symm) hown ml126 ls_mmin lmI lc_mmin (Nat.le_of_ble_eq_true rfl) (Nat.le_of_ble_eq_true rfl) (Nat.zero_le _) (Nat.zero_le _) dX1_desiredTop_18 ?_
  refine lv_istore_n (lv' := [(2, .int (if (q_13 - (1 : Int32)) < q_5 then (q_13 - (1 : Int32)) else q_5)), (0, .ref aS), (1, .int p1)]) hx hb dX1_desiredTop_21 rfl hl (by decide) rfl (fun ls hl => ?_)
  refine lv_bipush (v := (100 : Int32)) hx hb dX1_desiredTop_22 (by decide) ?_
  refine lv_aload_n hx hb dX1_desiredTop_24 rfl (lv_at hl 1 rfl) ?_
  refine va_get (D := (dC, dI)) (ci := 1) (v := .ref aC) (C := RX1) (T := TX1) (N := 15) hx hb hts inX1 hown hK hP 0 rfl rfl 1 (by decide) fl18 (fun _ h9 => h9) rfl dX1_desiredTop_25 ?_
  refine va_get (D := (dC, dI)) (ci := 0) (v := .ref a_rowOf) (C := RX0) (T := TX0) (N := 9) hx hb hts inX0 hown hK hP 2 rfl rfl 7 (by decide) fl180 (fun _ h9 => h9) rfl dX1_desiredTop_28 ?_
  refine lv_iload_n hx hb dX1_desiredTop_31 rfl (lv_at hl 2 rfl) ?_
  obtain ⟨q_32, hq_32, hF⟩ := bindE hF
  have hPc := hP.sub (ws' := [(a_rowOf, .inl (cI, 120, .inl v_rowOf))]) [6] rfl
  refine vp_callSi (va_Run.run (va_runSN (As := [.ref a_rowOf, .int p1]) (rest := [.int (100 : Int32)]) ⟨hx, hb, hml, hown, hts⟩ (c_X3_at l dC dI cI cZ cO a_rowOf 120 p1 v_rowOf q_32 hq_32) ⟨(va_cnB 2 hts gX1_desiredTop_X3_at_n77 rfl rfl rfl (NW_X1_77 hN) (hts (.initialized RX3) (by decide +kernel)) (by decide +kernel) ⟨Nat.le_of_ble_eq_true rfl, Nat.le_of_ble_eq_true rfl⟩), hts (.static yX3_at) (by decide +kernel), trivial⟩ ⟨fb_rd, pre_rd hPc hK hN⟩ rfl rfl hl.1 rfl (lv_room (Nat.le_of_ble_eq_true rfl)) dX1_desiredTop_32 ⟨Nat.zero_le _, Nat.zero_le _⟩)) (fun z_32 hz_32 => ?_)
  subst hz_32
  refine lv_iload_n hx hb dX1_desiredTop_35 rfl (lv_at hl 0 rfl) ?_
  refine lv_isub hx hb dX1_desiredTop_36 ?_
  refine lv_imul hx hb dX1_desiredTop_37 ?_
  refine lv_iconst (v := (0 : Int32)) hx hb dX1_desiredTop_38 (by decide) ?_
  refine lv_aload_n hx hb dX1_desiredTop_39 rfl (lv_at hl 1 rfl) ?_
  obtain ⟨q_40, hq_40, hF⟩ := bindE hF
  have hPc := hP
  refine vp_callSi (va_Run.run (va_runV (As := []) (rest := [.int (0 : Int32), .int ((100 : Int32) * (q_32 - (if (q_13 - (1 : Int32)) < q_5 then (q_13 - (1 : Int32)) else q_5)))]) ⟨hx, hb, hml, hown, hts⟩ (c_X1_highestTop l dC dI cI cZ cO aS a_settings aC a_letters a_passageOf a_cues a_rowOf a_firstOfRow aT a_times a_positions a_kept v_settings v_words v_passages v_wordsInPassage v_rows v_letters v_passageOf v_cues v_rowOf v_firstOfRow v_pairs v_times v_positions v_kept v_keptCount v_position v_speed v_time v_heardTime v_top v_skips v_repeats v_misses v_jerks v_overruns q_40 hq_40) (cwV 0 hts gX1_desiredTop_X1_highestTop rfl rfl rfl (by decide +kernel) ⟨Nat.le_of_ble_eq_true rfl, Nat.le_of_ble_eq_true rfl⟩) ⟨fb_rd, va_recv hK hPc (ci := 1) (q0 := 0) rfl rfl, pre_rd hPc hK hN⟩ rfl rfl hl.1 rfl (lv_room (Nat.le_of_ble_eq_true rfl)) dX1_desiredTop_40 ⟨Nat.zero_le _, Nat.zero_le _⟩)) (fun z_40 hz_40 => ?_)
  subst hz_40
  obtain ⟨q_43, hq_43, hF⟩ := bindE hF
  have hPc := hP.sub (ws' := []) [] rfl
  refine vp_callSi (va_Run.run (va_runSN (As := [.int ((100 : Int32) * (q_32 - (if (q_13 - (1 : Int32)) < q_5 then (q_13 - (1 : Int32)) else q_5))), .int (0 : Int32), .int q_40]) (rest := []) ⟨hx, hb, hml, hown, hts⟩ (c_X3_limited l dC dI cI cZ cO ((100 : Int32) * (q_32 - (if (q_13 - (1 : Int32)) < q_5 then (q_13 - (1 : Int32)) else q_5))) (0 : Int32) q_40 q_43 hq_43) ⟨(va_cnB 3 hts gX1_desiredTop_X3_limited_n96 rfl rfl rfl (NW_X1_96 hN) (hts (.initialized RX3) (by decide +kernel)) (by decide +kernel) ⟨Nat.le_of_ble_eq_true rfl, Nat.le_of_ble_eq_true rfl⟩), hts (.static yX3_limited) (by decide +kernel), trivial⟩ ⟨fb_rd, pre_rd hPc hK hN⟩ rfl rfl hl.1 rfl (lv_room (Nat.le_of_ble_eq_true rfl)) dX1_desiredTop_43 ⟨Nat.zero_le _, Nat.zero_le _⟩)) (fun z_43 hz_43 => ?_)
  subst hz_43
  have hF : some q_43 = some r := hF
  cases hF
  subst hQ
  exact W.iret hx hb hr (fun t ht hW => ⟨_, rfl, rfl, ht⟩) (fun q hq => absurd hq List.not_mem_nil) dX1_desiredTop_46
def f_X1_lowestShown (v_settings : (Nat → Int32)) : Option Int32 :=
  (f_X3_at 9 (1 : Int32) v_settings).bind fun q7 =>
  some ((100 : Int32) * (q7 - (1 : Int32)))
def rm_X1_lowestShown : Room := { frames := 1, cells := 0, slots := 0, locals := 21 }
set_option maxHeartbeats 4000000 in
set_option maxRecDepth 100000 in
theorem c_X1_lowestShown (l : Launch) (dC : Nat → ClassId) (dI : Nat → Nat → Nat) (cI cZ cO : ClassId) (aS a_settings aC a_letters a_passageOf a_cues a_rowOf a_firstOfRow aT a_times a_positions a_kept : Nat) (v_settings : (Nat → Int32)) (v_words : Int32) (v_passages : Int32) (v_wordsInPassage : Int32) (v_rows : Int32) (v_letters : (Nat → Int32)) (v_passageOf : (Nat → Int32)) (v_cues : (Nat → Int32)) (v_rowOf : (Nat → Int32)) (v_firstOfRow : (Nat → Int32)) (v_pairs : Int32) (v_times : (Nat → Int32)) (v_positions : (Nat → Int32)) (v_kept : (Nat → Int32)) (v_keptCount : Int32) (v_position : Int32) (v_speed : Int32) (v_time : Int32) (v_heardTime : Int32) (v_top : Int32) (v_skips : Int32) (v_repeats : Int32) (v_misses : Int32) (v_jerks : Int32) (v_overruns : Int32) (r : Int32) (hF : f_X1_lowestShown v_settings = some r) : Met l yX1_lowestShown wsX1_lowestShown rm_X1_lowestShown (va_Pc [.ref aS] (rdW dC dI cI cZ cO [(aS, .inr (1, [.ref a_settings, .ref aC, .ref aT, .ref a_kept, .int v_keptCount, .int v_position, .int v_speed, .int v_time, .int v_heardTime, .int v_top, .int v_skips, .int v_repeats, .int v_misses, .int v_jerks, .int v_overruns])), (a_settings, .inl (cI, 9, .inl v_settings)), (aC, .inr (0, [.int v_words, .int v_passages, .int v_wordsInPassage, .int v_rows, .ref a_letters, .ref a_passageOf, .ref a_cues, .ref a_rowOf, .ref a_firstOfRow])), (a_letters, .inl (cI, 120, .inl v_letters)), (a_passageOf, .inl (cI, 120, .inl v_passageOf)), (a_cues, .inl (cI, 120, .inl v_cues)), (a_rowOf, .inl (cI, 120, .inl v_rowOf)), (a_firstOfRow, .inl (cI, 120, .inl v_firstOfRow)), (aT, .inr (2, [.int v_pairs, .ref a_times, .ref a_positions])), (a_times, .inl (cI, 61, .inl v_times)), (a_positions, .inl (cI, 61, .inl v_positions)), (a_kept, .inl (cI, 4, .inl v_kept))])) (vp_Si (fun q => r = q)) 0 0 (fun _ => False) := by
  refine Met.ofW (cc := cX1_lowestShown) (maxL := 1) (ret := (some .int)) (by decide) rfl ?_
  intro p e s m args below meth c s₁ B hml hv
  obtain ⟨rfl, hP, hK, hN⟩ := hv
  have hx := B.exec
  have hb := B.bytes
  have hr := B.returns
  have hts := atoms_spec (ws := wsX1_lowestShown) B.pre
  have hown : s.vm.findClass RX1 = some m.cls := findClass_of_methodNamed B.named
  have hlocks := B.notSynchronized
  obtain ⟨Q, hQ⟩ : ∃ Q, Q = MQ below (vp_Si (fun q => r = q)) ([.ref aS] : List Value).toArray s 0 0 (fun _ => False) := ⟨_, rfl⟩
  rw [← hQ]
  have hS : va_S (fun _ => False) s.heap s.heap [] := va_S.rf
  have fl9 := hts (.fieldLink RX1 9 "Teleprompter$State" "settings" "[I") (by decide +kernel)
  have inX1 : ∀ w ∈ u_ws RX1 TX1 15, w ∈ wsX1_lowestShown := by decide +kernel
  have hl := lv_entry ([.ref aS]) (n := 1) (Nat.le_of_ble_eq_true rfl)
  rw [lg_entry_eq]
  generalize (lg_sl ([.ref aS]) ++ List.replicate (1 - (lg_sl ([.ref aS])).length) Slot.unset).toArray = ls at hl ⊢
  have hl : lv_has ls 1 [(0, .ref aS)] := hl
  unfold f_X1_lowestShown at hF
  refine lv_bipush (v := (100 : Int32)) hx hb dX1_lowestShown_0 (by decide) ?_
  refine lv_aload_n hx hb dX1_lowestShown_2 rfl (lv_at hl 0 rfl) ?_
  refine va_get (D := (dC, dI)) (ci := 1) (v := .ref a_settings) (C := RX1) (T := TX1) (N := 15) hx hb hts inX1 hown hK hP 0 rfl rfl 0 (by decide) fl9 (fun _ h9 => h9) rfl dX1_lowestShown_3 ?_
  refine lv_iconst (v := (1 : Int32)) hx hb dX1_lowestShown_6 (by decide) ?_
  obtain ⟨q_7, hq_7, hF⟩ := bindE hF
  have hPc := hP.sub (ws' := [(a_settings, .inl (cI, 9, .inl v_settings))]) [1] rfl
  refine vp_callSi (va_Run.run (va_runSN (As := [.ref a_settings, .int (1 : Int32)]) (rest := [.int (100 : Int32)]) ⟨hx, hb, hml, hown, hts⟩ (c_X3_at l dC dI cI cZ cO a_settings 9 (1 : Int32) v_settings q_7 hq_7) ⟨(va_cnB 2 hts gX1_lowestShown_X3_at_n77 rfl rfl rfl (NW_X1_77 hN) (hts (.initialized RX3) (by decide +kernel)) (by decide +kernel) ⟨Nat.le_of_ble_eq_true rfl, Nat.le_of_ble_eq_true rfl⟩), hts (.static yX3_at) (by decide +kernel), trivial⟩ ⟨fb_rd, pre_rd hPc hK hN⟩ rfl rfl hl.1 rfl (lv_room (Nat.le_of_ble_eq_true rfl)) dX1_lowestShown_7 ⟨Nat.zero_le _, Nat.zero_le _⟩)) (fun z_7 hz_7 => ?_)
  subst hz_7
  refine lv_iconst (v := (1 : Int32)) hx hb dX1_lowestShown_10 (by decide) ?_
  refine lv_isub hx hb dX1_lowestShown_11 ?_
  refine lv_imul hx hb dX1_lowestShown_12 ?_
  have hF : some ((100 : Int32) * (q_7 - (1 : Int32))) = some r := hF
  cases hF
  subst hQ
  exact W.iret hx hb hr (fun t ht hW => ⟨_, rfl, rfl, ht⟩) (fun q hq => absurd hq List.not_mem_nil) dX1_lowestShown_13
def f_X1_shows (p1 : Int32) (v_settings : (Nat → Int32)) (v_top : Int32) : Option Int32 :=
  if ((100 : Int32) * p1) < v_top then
    some (0 : Int32)
  else
    (f_X1_lowestShown v_settings).bind fun q20 =>
    if (v_top + q20) < ((100 : Int32) * p1) then
      some (0 : Int32)
    else
      some (1 : Int32)
def rm_X1_shows : Room := { frames := 2, cells := 0, slots := 0, locals := 41 }
set_option maxHeartbeats 4000000 in
set_option maxRecDepth 100000 in
theorem c_X1_shows (l : Launch) (dC : Nat → ClassId) (dI : Nat → Nat → Nat) (cI cZ cO : ClassId) (aS a_settings aC a_letters a_passageOf a_cues a_rowOf a_firstOfRow aT a_times a_positions a_kept : Nat) (p1 : Int32) (v_settings : (Nat → Int32)) (v_words : Int32) (v_passages : Int32) (v_wordsInPassage : Int32) (v_rows : Int32) (v_letters : (Nat → Int32)) (v_passageOf : (Nat → Int32)) (v_cues : (Nat → Int32)) (v_rowOf : (Nat → Int32)) (v_firstOfRow : (Nat → Int32)) (v_pairs : Int32) (v_times : (Nat → Int32)) (v_positions : (Nat → Int32)) (v_kept : (Nat → Int32)) (v_keptCount : Int32) (v_position : Int32) (v_speed : Int32) (v_time : Int32) (v_heardTime : Int32) (v_top : Int32) (v_skips : Int32) (v_repeats : Int32) (v_misses : Int32) (v_jerks : Int32) (v_overruns : Int32) (r : Int32) (hF : f_X1_shows p1 v_settings v_top = some r) : Met l yX1_shows wsX1_shows rm_X1_shows (va_Pc [.ref aS, .int p1] (rdW dC dI cI cZ cO [(aS, .inr (1, [.ref a_settings, .ref aC, .ref aT, .ref a_kept, .int v_keptCount, .int v_position, .int v_speed, .int v_time, .int v_heardTime, .int v_top, .int v_skips, .int v_repeats, .int v_misses, .int v_jerks, .int v_overruns])), (a_settings, .inl (cI, 9, .inl v_settings)), (aC, .inr (0, [.int v_words, .int v_passages, .int v_wordsInPassage, .int v_rows, .ref a_letters, .ref a_passageOf, .ref a_cues, .ref a_rowOf, .ref a_firstOfRow])), (a_letters, .inl (cI, 120, .inl v_letters)), (a_passageOf, .inl (cI, 120, .inl v_passageOf)), (a_cues, .inl (cI, 120, .inl v_cues)), (a_rowOf, .inl (cI, 120, .inl v_rowOf)), (a_firstOfRow, .inl (cI, 120, .inl v_firstOfRow)), (aT, .inr (2, [.int v_pairs, .ref a_times, .ref a_positions])), (a_times, .inl (cI, 61, .inl v_times)), (a_positions, .inl (cI, 61, .inl v_positions)), (a_kept, .inl (cI, 4, .inl v_kept))])) (vp_Si (fun q => r = q)) 0 0 (fun _ => False) := by
  refine Met.ofW (cc := cX1_shows) (maxL := 2) (ret := (some .boolean)) (by decide) rfl ?_
  intro p e s m args below meth c s₁ B hml hv
  obtain ⟨rfl, hP, hK, hN⟩ := hv
  have hx := B.exec
  have hb := B.bytes
  have hr := B.returns
  have hts := atoms_spec (ws := wsX1_shows) B.pre
  have hown : s.vm.findClass RX1 = some m.cls := findClass_of_methodNamed B.named
  have hlocks := B.notSynchronized
  obtain ⟨Q, hQ⟩ : ∃ Q, Q = MQ below (vp_Si (fun q => r = q)) ([.ref aS, .int p1] : List Value).toArray s 0 0 (fun _ => False) := ⟨_, rfl⟩
  rw [← hQ]
  have hS : va_S (fun _ => False) s.heap s.heap [] := va_S.rf
  have fl59 := hts (.fieldLink RX1 59 "Teleprompter$State" "top" "I") (by decide +kernel)
  have inX1 : ∀ w ∈ u_ws RX1 TX1 15, w ∈ wsX1_shows := by decide +kernel
  have hl := lv_entry ([.ref aS, .int p1]) (n := 2) (Nat.le_of_ble_eq_true rfl)
  rw [lg_entry_eq]
  generalize (lg_sl ([.ref aS, .int p1]) ++ List.replicate (2 - (lg_sl ([.ref aS, .int p1])).length) Slot.unset).toArray = ls at hl ⊢
  have hl : lv_has ls 2 [(0, .ref aS), (1, .int p1)] := hl
  unfold f_X1_shows at hF
  refine lv_bipush (v := (100 : Int32)) hx hb dX1_shows_0 (by decide) ?_
  refine lv_iload_n hx hb dX1_shows_2 rfl (lv_at hl 1 rfl) ?_
  refine lv_imul hx hb dX1_shows_3 ?_
  refine lv_aload_n hx hb dX1_shows_4 rfl (lv_at hl 0 rfl) ?_
  refine va_get (D := (dC, dI)) (ci := 1) (v := .int v_top) (C := RX1) (T := TX1) (N := 15) hx hb hts inX1 hown hK hP 0 rfl rfl 9 (by decide) fl59 (fun _ h9 => h9) rfl dX1_shows_5 ?_
  refine lv_icmp_lt (tgt := 31) hx hb dX1_shows_8 (by decide) (fun c_8 => ?_) (fun c_8 => ?_)
  · have hF := (if_pos c_8).symm.trans hF
    refine lv_iconst (v := (0 : Int32)) hx hb dX1_shows_31 (by decide) ?_
    have hF : some (0 : Int32) = some r := hF
    cases hF
    subst hQ
    exact W.zret (ty := .boolean) hx hb hr rfl (fun t ht hW => ⟨_, rfl, rfl, ht⟩) (fun q hq => absurd hq List.not_mem_nil) dX1_shows_32
  · have hF := (if_neg c_8).symm.trans hF
    refine lv_bipush (v := (100 : Int32)) hx hb dX1_shows_11 (by decide) ?_
    refine lv_iload_n hx hb dX1_shows_13 rfl (lv_at hl 1 rfl) ?_
    refine lv_imul hx hb dX1_shows_14 ?_
    refine lv_aload_n hx hb dX1_shows_15 rfl (lv_at hl 0 rfl) ?_
    refine va_get (D := (dC, dI)) (ci := 1) (v := .int v_top) (C := RX1) (T := TX1) (N := 15) hx hb hts inX1 hown hK hP 0 rfl rfl 9 (by decide) fl59 (fun _ h9 => h9) rfl dX1_shows_16 ?_
    refine lv_aload_n hx hb dX1_shows_19 rfl (lv_at hl 0 rfl) ?_
    obtain ⟨q_20, hq_20, hF⟩ := bindE hF
    have hPc := hP
    refine vp_callSi (va_Run.run (va_runV (As := []) (rest := [.int v_top, .int ((100 : Int32) * p1)]) ⟨hx, hb, hml, hown, hts⟩ (c_X1_lowestShown l dC dI cI cZ cO aS a_settings aC a_letters a_passageOf a_cues a_rowOf a_firstOfRow aT a_times a_positions a_kept v_settings v_words v_passages v_wordsInPassage v_rows v_letters v_passageOf v_cues v_rowOf v_firstOfRow v_pairs v_times v_positions v_kept v_keptCount v_position v_speed v_time v_heardTime v_top v_skips v_repeats v_misses v_jerks v_overruns q_20 hq_20) (cwV 0 hts gX1_shows_X1_lowestShown rfl rfl rfl (by decide +kernel) ⟨Nat.le_of_ble_eq_true rfl, Nat.le_of_ble_eq_true rfl⟩) ⟨fb_rd, va_recv hK hPc (ci := 1) (q0 := 0) rfl rfl, pre_rd hPc hK hN⟩ rfl rfl hl.1 rfl (lv_room (Nat.le_of_ble_eq_true rfl)) dX1_shows_20 ⟨Nat.zero_le _, Nat.zero_le _⟩)) (fun z_20 hz_20 => ?_)
    subst hz_20
    refine lv_iadd hx hb dX1_shows_23 ?_
    refine lv_icmp_gt (tgt := 31) hx hb dX1_shows_24 (by decide) (fun c_24 => ?_) (fun c_24 => ?_)
    · have hF := (if_pos c_24).symm.trans hF
      refine lv_iconst (v := (0 : Int32)) hx hb dX1_shows_31 (by decide) ?_
      have hF : some (0 : Int32) = some r := hF
      cases hF
      subst hQ
      exact W.zret (ty := .boolean) hx hb hr rfl (fun t ht hW => ⟨_, rfl, rfl, ht⟩) (fun q hq => absurd hq List.not_mem_nil) dX1_shows_32
    · have hF := (if_neg c_24).symm.trans hF
      refine lv_iconst (v := (1 : Int32)) hx hb dX1_shows_27 (by decide) ?_
      refine lv_goto (tgt := 32) hx hb dX1_shows_28 (by decide) ?_
      have hF : some (1 : Int32) = some r := hF
      cases hF
      subst hQ
      exact W.zret (ty := .boolean) hx hb hr rfl (fun t ht hW => ⟨_, rfl, rfl, ht⟩) (fun q hq => absurd hq List.not_mem_nil) dX1_shows_32
