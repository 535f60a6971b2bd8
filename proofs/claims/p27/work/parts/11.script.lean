def f_X0_nextCue_2 (v_words : Int32) (v_cues : (Nat → Int32)) : Nat → Int32 → Option Int32
  | 0, _ => none
  | n + 1, x1 =>
    if v_words ≤ x1 then
      some (-9 : Int32)
    else
      (f_X3_at 120 x1 v_cues).bind fun q15 =>
      if q15 = (1 : Int32) then
        some x1
      else
        f_X0_nextCue_2 v_words v_cues n (x1 + 1)
def f_X0_nextCue (v_words : Int32) (v_cues : (Nat → Int32)) : Option Int32 :=
  f_X0_nextCue_2 v_words v_cues gas (0 : Int32)
def rm_X0_nextCue : Room := { frames := 1, cells := 0, slots := 0, locals := 21 }
set_option maxHeartbeats 4000000 in
set_option maxRecDepth 100000 in
theorem c_X0_nextCue (l : Launch) (dC : Nat → ClassId) (dI : Nat → Nat → Nat) (cI cZ cO : ClassId) (aC a_letters a_passageOf a_cues a_rowOf a_firstOfRow : Nat) (v_words : Int32) (v_passages : Int32) (v_wordsInPassage : Int32) (v_rows : Int32) (v_letters : (Nat → Int32)) (v_passageOf : (Nat → Int32)) (v_cues : (Nat → Int32)) (v_rowOf : (Nat → Int32)) (v_firstOfRow : (Nat → Int32)) (r : Int32) (hF : f_X0_nextCue v_words v_cues = some r) : Met l yX0_nextCue wsX0_nextCue rm_X0_nextCue (va_Pc [.ref aC] (rdW dC dI cI cZ cO [(aC, .inr (0, [.int v_words, .int v_passages, .int v_wordsInPassage, .int v_rows, .ref a_letters, .ref a_passageOf, .ref a_cues, .ref a_rowOf, .ref a_firstOfRow])), (a_letters, .inl (cI, 120, .inl v_letters)), (a_passageOf, .inl (cI, 120, .inl v_passageOf)), (a_cues, .inl (cI, 120, .inl v_cues)), (a_rowOf, .inl (cI, 120, .inl v_rowOf)), (a_firstOfRow, .inl (cI, 120, .inl v_firstOfRow))])) (vp_Si (fun q => r = q)) 0 0 (fun _ => False) := by
  refine Met.ofW (cc := cX0_nextCue) (maxL := 2) (ret := (some .int)) (by decide) rfl ?_
  intro p e s m args below meth c s₁ B hml hv
  obtain ⟨rfl, hP, hK, hN⟩ := hv
  have hx := B.exec
  have hb := B.bytes
  have hr := B.returns
  have hts := atoms_spec (ws := wsX0_nextCue) B.pre
  have hown : s.vm.findClass RX0 = some m.cls := findClass_of_methodNamed B.named
  have hlocks := B.notSynchronized
  obtain ⟨Q, hQ⟩ : ∃ Q, Q = MQ below (vp_Si (fun q => r = q)) ([.ref aC] : List Value).toArray s 0 0 (fun _ => False) := ⟨_, rfl⟩
  rw [← hQ]
  have hS : va_S (fun _ => False) s.heap s.heap [] := va_S.rf
  have fl27 := hts (.fieldLink RX0 27 "Teleprompter$Script" "words" "I") (by decide +kernel)
  have fl18 := hts (.fieldLink RX0 18 "Teleprompter$Script" "cues" "[I") (by decide +kernel)
  have inX0 : ∀ w ∈ u_ws RX0 TX0 9, w ∈ wsX0_nextCue := by decide +kernel
  have hl := lv_entry ([.ref aC]) (n := 2) (Nat.le_of_ble_eq_true rfl)
  rw [lg_entry_eq]
  generalize (lg_sl ([.ref aC]) ++ List.replicate (2 - (lg_sl ([.ref aC])).length) Slot.unset).toArray = ls at hl ⊢
  have hl : lv_has ls 2 [(0, .ref aC)] := hl
  have B2 : ∀ (n_2 : Nat) (x1_2 : Int32), f_X0_nextCue_2 v_words v_cues n_2 x1_2 = some r → ∀ ls : Array Slot, lv_has ls 2 [(0, .ref aC), (1, .int x1_2)] → W p l e (headSpec wsX0_nextCue rm_X0_nextCue).room s m ([.ref aC] : List Value).toArray below meth c s.heap [] 0 0 Q (F0 m 2 ls []) := by
    intro n_2
    induction n_2 with
    | zero => intro x1_2 hF; exact noneE hF
    | succ n_2 ih2 =>
      intro x1_2 hF ls hl
      rw [f_X0_nextCue_2] at hF
      refine lv_iload_n hx hb dX0_nextCue_2 rfl (lv_at hl 1 rfl) ?_
      refine lv_aload_n hx hb dX0_nextCue_3 rfl (lv_at hl 0 rfl) ?_
      refine va_get (D := (dC, dI)) (ci := 0) (v := .int v_words) (C := RX0) (T := TX0) (N := 9) hx hb hts inX0 hown hK hP 0 rfl rfl 0 (by decide) fl27 (fun _ h9 => h9) rfl dX0_nextCue_4 ?_
      refine lv_icmp_ge (tgt := 30) hx hb dX0_nextCue_7 (by decide) (fun c_7 => ?_) (fun c_7 => ?_)
      · have hF := (if_pos c_7).symm.trans hF
        refine lv_bipush (v := (-9 : Int32)) hx hb dX0_nextCue_30 (by decide) ?_
        have hF : some (-9 : Int32) = some r := hF
        cases hF
        subst hQ
        exact W.iret hx hb hr (fun t ht hW => ⟨_, rfl, rfl, ht⟩) (fun q hq => absurd hq List.not_mem_nil) dX0_nextCue_32
      · have hF := (if_neg c_7).symm.trans hF
        refine lv_aload_n hx hb dX0_nextCue_10 rfl (lv_at hl 0 rfl) ?_
        refine va_get (D := (dC, dI)) (ci := 0) (v := .ref a_cues) (C := RX0) (T := TX0) (N := 9) hx hb hts inX0 hown hK hP 0 rfl rfl 6 (by decide) fl18 (fun _ h9 => h9) rfl dX0_nextCue_11 ?_
        refine lv_iload_n hx hb dX0_nextCue_14 rfl (lv_at hl 1 rfl) ?_
        obtain ⟨q_15, hq_15, hF⟩ := bindE hF
        have hPc := hP.sub (ws' := [(a_cues, .inl (cI, 120, .inl v_cues))]) [3] rfl
        refine vp_callSi (va_Run.run (va_runSN (As := [.ref a_cues, .int x1_2]) (rest := []) ⟨hx, hb, hml, hown, hts⟩ (c_X3_at l dC dI cI cZ cO a_cues 120 x1_2 v_cues q_15 hq_15) ⟨(va_cnB 2 hts gX0_nextCue_X3_at_n63 rfl rfl rfl (NW_X0_63 hN) (hts (.initialized RX3) (by decide +kernel)) (by decide +kernel) ⟨Nat.le_of_ble_eq_true rfl, Nat.le_of_ble_eq_true rfl⟩), hts (.static yX3_at) (by decide +kernel), trivial⟩ ⟨fb_rd, pre_rd hPc hK hN⟩ rfl rfl hl.1 rfl (lv_room (Nat.le_of_ble_eq_true rfl)) dX0_nextCue_15 ⟨Nat.zero_le _, Nat.zero_le _⟩)) (fun z_15 hz_15 => ?_)
        subst hz_15
        refine lv_iconst (v := (1 : Int32)) hx hb dX0_nextCue_18 (by decide) ?_
        refine lv_icmp_ne (tgt := 24) hx hb dX0_nextCue_19 (by decide) (fun c_19 => ?_) (fun c_19 => ?_)
        · have hF := (if_neg c_19).symm.trans hF
          refine lv_iinc (v := (x1_2 + 1)) (lv' := [(1, .int (x1_2 + 1)), (0, .ref aC)]) hx hb dX0_nextCue_24 hl (k := 1) rfl rfl (by decide) rfl (fun ls hl => ?_)
          refine lv_goto (tgt := 2) hx hb dX0_nextCue_27 (by decide) ?_
          exact ih2 (x1_2 + 1) hF _ (lv_sub hl [1, 0] rfl)
        · have hF := (if_pos c_19).symm.trans hF
          refine lv_iload_n hx hb dX0_nextCue_22 rfl (lv_at hl 1 rfl) ?_
          have hF : some x1_2 = some r := hF
          cases hF
          subst hQ
          exact W.iret hx hb hr (fun t ht hW => ⟨_, rfl, rfl, ht⟩) (fun q hq => absurd hq List.not_mem_nil) dX0_nextCue_23
  unfold f_X0_nextCue at hF
  refine lv_iconst (v := (0 : Int32)) hx hb dX0_nextCue_0 (by decide) ?_
  refine lv_istore_n (lv' := [(1, .int (0 : Int32)), (0, .ref aC)]) hx hb dX0_nextCue_1 rfl hl (by decide) rfl (fun ls hl => ?_)
  exact B2 gas (0 : Int32) hF _ (lv_sub hl [1, 0] rfl)
def f_X0_lay_71 (k9 : Int32 → Int32 → Int32 → (Nat → Int32) → (Nat → Int32) → Option (Int32 × (Nat → Int32) × (Nat → Int32))) (x2 : Int32) (x3 : Int32) (v_rows : Int32) (v_rowOf : (Nat → Int32)) (v_firstOfRow : (Nat → Int32)) : Option (Int32 × (Nat → Int32) × (Nat → Int32)) :=
  (f_X3_put 120 x3 (v_rows - (1 : Int32)) v_rowOf).bind fun q82 =>
    k9 (x2 + 1) (x3 + 1) v_rows q82 v_firstOfRow
def f_X0_lay_47 (k9 : Int32 → Int32 → Int32 → (Nat → Int32) → (Nat → Int32) → Option (Int32 × (Nat → Int32) × (Nat → Int32))) (x3 : Int32) (v_rows : Int32) (v_rowOf : (Nat → Int32)) (v_firstOfRow : (Nat → Int32)) : Option (Int32 × (Nat → Int32) × (Nat → Int32)) :=
  (f_X3_put 120 v_rows x3 v_firstOfRow).bind fun q56 =>
    f_X0_lay_71 k9 (0 : Int32) x3 (v_rows + (1 : Int32)) v_rowOf q56
def f_X0_lay_9 (v_words : Int32) (v_passageOf : (Nat → Int32)) (x1 : Int32) : Nat → Int32 → Int32 → Int32 → (Nat → Int32) → (Nat → Int32) → Option (Int32 × (Nat → Int32) × (Nat → Int32))
  | 0, _, _, _, _, _ => none
  | n + 1, x2, x3, v_rows, v_rowOf, v_firstOfRow =>
    if v_words ≤ x3 then
      some (v_rows, v_rowOf, v_firstOfRow)
    else
      if x2 = (0 : Int32) then
        f_X0_lay_47 (f_X0_lay_9 v_words v_passageOf x1 n) x3 v_rows v_rowOf v_firstOfRow
      else
        if x1 ≤ x2 then
          f_X0_lay_47 (f_X0_lay_9 v_words v_passageOf x1 n) x3 v_rows v_rowOf v_firstOfRow
        else
          (f_X3_at 120 x3 v_passageOf).bind fun q31 =>
          (f_X3_at 120 (x3 - (1 : Int32)) v_passageOf).bind fun q41 =>
          if q31 = q41 then
            f_X0_lay_71 (f_X0_lay_9 v_words v_passageOf x1 n) x2 x3 v_rows v_rowOf v_firstOfRow
          else
            f_X0_lay_47 (f_X0_lay_9 v_words v_passageOf x1 n) x3 v_rows v_rowOf v_firstOfRow
def f_X0_lay (p1 : Int32) (v_words : Int32) (v_rows : Int32) (v_passageOf : (Nat → Int32)) (v_rowOf : (Nat → Int32)) (v_firstOfRow : (Nat → Int32)) : Option (Int32 × (Nat → Int32) × (Nat → Int32)) :=
  f_X0_lay_9 v_words v_passageOf p1 gas (0 : Int32) (0 : Int32) (0 : Int32) v_rowOf v_firstOfRow
def rm_X0_lay : Room := { frames := 1, cells := 0, slots := 0, locals := 22 }
set_option maxHeartbeats 4000000 in
set_option maxRecDepth 100000 in
theorem c_X0_lay (l : Launch) (dC : Nat → ClassId) (dI : Nat → Nat → Nat) (cI cZ cO : ClassId) (aC a_letters a_passageOf a_cues a_rowOf a_firstOfRow : Nat) (sz : Nat) (p1 : Int32) (v_words : Int32) (v_passages : Int32) (v_wordsInPassage : Int32) (v_rows : Int32) (v_letters : (Nat → Int32)) (v_passageOf : (Nat → Int32)) (v_cues : (Nat → Int32)) (v_rowOf : (Nat → Int32)) (v_firstOfRow : (Nat → Int32)) (o_rows : Int32) (o_rowOf : (Nat → Int32)) (o_firstOfRow : (Nat → Int32)) (hF : f_X0_lay p1 v_words v_rows v_passageOf v_rowOf v_firstOfRow = some (o_rows, o_rowOf, o_firstOfRow)) : Met l yX0_lay wsX0_lay rm_X0_lay (va_Pc [.ref aC, .int p1] (wrW dC dI cI cZ cO sz [(aC, .inr (0, [.int v_words, .int v_passages, .int v_wordsInPassage, .int v_rows, .ref a_letters, .ref a_passageOf, .ref a_cues, .ref a_rowOf, .ref a_firstOfRow])), (a_letters, .inl (cI, 120, .inl v_letters)), (a_passageOf, .inl (cI, 120, .inl v_passageOf)), (a_cues, .inl (cI, 120, .inl v_cues)), (a_rowOf, .inl (cI, 120, .inl v_rowOf)), (a_firstOfRow, .inl (cI, 120, .inl v_firstOfRow))])) (va_Qv (fun (_ : Unit) => True) (wrE dC dI [(aC, .inr (0, [.int v_words, .int v_passages, .int v_wordsInPassage, .int v_rows, .ref a_letters, .ref a_passageOf, .ref a_cues, .ref a_rowOf, .ref a_firstOfRow])), (a_letters, .inl (cI, 120, .inl v_letters)), (a_passageOf, .inl (cI, 120, .inl v_passageOf)), (a_cues, .inl (cI, 120, .inl v_cues)), (a_rowOf, .inl (cI, 120, .inl v_rowOf)), (a_firstOfRow, .inl (cI, 120, .inl v_firstOfRow))] sz [(aC, .inr (0, [.int v_words, .int v_passages, .int v_wordsInPassage, .int o_rows, .ref a_letters, .ref a_passageOf, .ref a_cues, .ref a_rowOf, .ref a_firstOfRow])), (a_letters, .inl (cI, 120, .inl v_letters)), (a_passageOf, .inl (cI, 120, .inl v_passageOf)), (a_cues, .inl (cI, 120, .inl v_cues)), (a_rowOf, .inl (cI, 120, .inl o_rowOf)), (a_firstOfRow, .inl (cI, 120, .inl o_firstOfRow))]) (va_A [(aC, .inr (0, [.int v_words, .int v_passages, .int v_wordsInPassage, .int v_rows, .ref a_letters, .ref a_passageOf, .ref a_cues, .ref a_rowOf, .ref a_firstOfRow])), (a_letters, .inl (cI, 120, .inl v_letters)), (a_passageOf, .inl (cI, 120, .inl v_passageOf)), (a_cues, .inl (cI, 120, .inl v_cues)), (a_rowOf, .inl (cI, 120, .inl v_rowOf)), (a_firstOfRow, .inl (cI, 120, .inl v_firstOfRow))] sz)) 0 0 (va_A [(aC, .inr (0, [.int v_words, .int v_passages, .int v_wordsInPassage, .int v_rows, .ref a_letters, .ref a_passageOf, .ref a_cues, .ref a_rowOf, .ref a_firstOfRow])), (a_letters, .inl (cI, 120, .inl v_letters)), (a_passageOf, .inl (cI, 120, .inl v_passageOf)), (a_cues, .inl (cI, 120, .inl v_cues)), (a_rowOf, .inl (cI, 120, .inl v_rowOf)), (a_firstOfRow, .inl (cI, 120, .inl v_firstOfRow))] sz) := by
  refine Met.ofW (cc := cX0_lay) (maxL := 4) (ret := none) (by decide) rfl ?_
  intro p e s m args below meth c s₁ B hml hv
  obtain ⟨rfl, hsz, hP, hK, hN, hD0⟩ := hv
  have hx := B.exec
  have hb := B.bytes
  have hr := B.returns
  have hts := atoms_spec (ws := wsX0_lay) B.pre
  have hown : s.vm.findClass RX0 = some m.cls := findClass_of_methodNamed B.named
  have hlocks := B.notSynchronized
  subst hsz
  have hD := hD0.self (sz := s.heap.size)
  obtain ⟨Q, hQ⟩ : ∃ Q, Q = MQ below (va_Qv (fun (_ : Unit) => True) (wrE dC dI [(aC, .inr (0, [.int v_words, .int v_passages, .int v_wordsInPassage, .int v_rows, .ref a_letters, .ref a_passageOf, .ref a_cues, .ref a_rowOf, .ref a_firstOfRow])), (a_letters, .inl (cI, 120, .inl v_letters)), (a_passageOf, .inl (cI, 120, .inl v_passageOf)), (a_cues, .inl (cI, 120, .inl v_cues)), (a_rowOf, .inl (cI, 120, .inl v_rowOf)), (a_firstOfRow, .inl (cI, 120, .inl v_firstOfRow))] s.heap.size [(aC, .inr (0, [.int v_words, .int v_passages, .int v_wordsInPassage, .int o_rows, .ref a_letters, .ref a_passageOf, .ref a_cues, .ref a_rowOf, .ref a_firstOfRow])), (a_letters, .inl (cI, 120, .inl v_letters)), (a_passageOf, .inl (cI, 120, .inl v_passageOf)), (a_cues, .inl (cI, 120, .inl v_cues)), (a_rowOf, .inl (cI, 120, .inl o_rowOf)), (a_firstOfRow, .inl (cI, 120, .inl o_firstOfRow))]) (va_A [(aC, .inr (0, [.int v_words, .int v_passages, .int v_wordsInPassage, .int v_rows, .ref a_letters, .ref a_passageOf, .ref a_cues, .ref a_rowOf, .ref a_firstOfRow])), (a_letters, .inl (cI, 120, .inl v_letters)), (a_passageOf, .inl (cI, 120, .inl v_passageOf)), (a_cues, .inl (cI, 120, .inl v_cues)), (a_rowOf, .inl (cI, 120, .inl v_rowOf)), (a_firstOfRow, .inl (cI, 120, .inl v_firstOfRow))] s.heap.size)) ([.ref aC, .int p1] : List Value).toArray s 0 0 (va_A [(aC, .inr (0, [.int v_words, .int v_passages, .int v_wordsInPassage, .int v_rows, .ref a_letters, .ref a_passageOf, .ref a_cues, .ref a_rowOf, .ref a_firstOfRow])), (a_letters, .inl (cI, 120, .inl v_letters)), (a_passageOf, .inl (cI, 120, .inl v_passageOf)), (a_cues, .inl (cI, 120, .inl v_cues)), (a_rowOf, .inl (cI, 120, .inl v_rowOf)), (a_firstOfRow, .inl (cI, 120, .inl v_firstOfRow))] s.heap.size) := ⟨_, rfl⟩
  rw [← hQ]
  obtain ⟨A, hAe⟩ : ∃ A, A = va_A [(aC, .inr (0, [.int v_words, .int v_passages, .int v_wordsInPassage, .int v_rows, .ref a_letters, .ref a_passageOf, .ref a_cues, .ref a_rowOf, .ref a_firstOfRow])), (a_letters, .inl (cI, 120, .inl v_letters)), (a_passageOf, .inl (cI, 120, .inl v_passageOf)), (a_cues, .inl (cI, 120, .inl v_cues)), (a_rowOf, .inl (cI, 120, .inl v_rowOf)), (a_firstOfRow, .inl (cI, 120, .inl v_firstOfRow))] s.heap.size := ⟨_, rfl⟩
  rw [← hAe] at hD
  have hA : ∀ q : Nat, s.heap.size ≤ q → A q := fun q h => by rw [hAe]; exact Or.inr h
  obtain ⟨H, hH⟩ : ∃ H, H = s.heap := ⟨_, rfl⟩
  have hS : va_S A s.heap H [] := by rw [hH]; exact va_S.rf
  rw [← hH] at hP
  rw [← hH]
  have fl21 := hts (.fieldLink RX0 21 "Teleprompter$Script" "rowOf" "[I") (by decide +kernel)
  have fl37 := hts (.fieldLink RX0 37 "Teleprompter$Script" "rows" "I") (by decide +kernel)
  have fl24 := hts (.fieldLink RX0 24 "Teleprompter$Script" "firstOfRow" "[I") (by decide +kernel)
  have fl27 := hts (.fieldLink RX0 27 "Teleprompter$Script" "words" "I") (by decide +kernel)
  have fl15 := hts (.fieldLink RX0 15 "Teleprompter$Script" "passageOf" "[I") (by decide +kernel)
  have inX0 : ∀ w ∈ u_ws RX0 TX0 9, w ∈ wsX0_lay := by decide +kernel
  have hl := lv_entry ([.ref aC, .int p1]) (n := 4) (Nat.le_of_ble_eq_true rfl)
  rw [lg_entry_eq]
  generalize (lg_sl ([.ref aC, .int p1]) ++ List.replicate (4 - (lg_sl ([.ref aC, .int p1])).length) Slot.unset).toArray = ls at hl ⊢
  have hl : lv_has ls 4 [(0, .ref aC), (1, .int p1)] := hl
  have B9 : ∀ (n_9 : Nat) (x1_9 : Int32) (x2_9 : Int32) (x3_9 : Int32) (v_rows_9 : Int32) (v_rowOf_9 : (Nat → Int32)) (v_firstOfRow_9 : (Nat → Int32)), f_X0_lay_9 v_words v_passageOf x1_9 n_9 x2_9 x3_9 v_rows_9 v_rowOf_9 v_firstOfRow_9 = some (o_rows, o_rowOf, o_firstOfRow) → ∀ (H : Heap) (locs : List Loc), va_P (dC, dI) vwCl [(aC, .inr (0, [.int v_words, .int v_passages, .int v_wordsInPassage, .int v_rows_9, .ref a_letters, .ref a_passageOf, .ref a_cues, .ref a_rowOf, .ref a_firstOfRow])), (a_letters, .inl (cI, 120, .inl v_letters)), (a_passageOf, .inl (cI, 120, .inl v_passageOf)), (a_cues, .inl (cI, 120, .inl v_cues)), (a_rowOf, .inl (cI, 120, .inl v_rowOf_9)), (a_firstOfRow, .inl (cI, 120, .inl v_firstOfRow_9))] H → va_D A [(aC, .inr (0, [.int v_words, .int v_passages, .int v_wordsInPassage, .int v_rows_9, .ref a_letters, .ref a_passageOf, .ref a_cues, .ref a_rowOf, .ref a_firstOfRow])), (a_letters, .inl (cI, 120, .inl v_letters)), (a_passageOf, .inl (cI, 120, .inl v_passageOf)), (a_cues, .inl (cI, 120, .inl v_cues)), (a_rowOf, .inl (cI, 120, .inl v_rowOf_9)), (a_firstOfRow, .inl (cI, 120, .inl v_firstOfRow_9))] → va_S A s.heap H locs → ∀ ls : Array Slot, lv_has ls 4 [(0, .ref aC), (1, .int x1_9), (2, .int x2_9), (3, .int x3_9)] → W p l e (headSpec wsX0_lay rm_X0_lay).room s m ([.ref aC, .int p1] : List Value).toArray below meth c H locs 0 0 Q (F0 m 9 ls []) := by
    intro n_9
    induction n_9 with
    | zero => intro x1_9 x2_9 x3_9 v_rows_9 v_rowOf_9 v_firstOfRow_9 hF; exact noneE hF
    | succ n_9 ih9 =>
      intro x1_9 x2_9 x3_9 v_rows_9 v_rowOf_9 v_firstOfRow_9 hF H locs hP hD hS ls hl
      have B71 : ∀ (x2_71 : Int32) (x3_71 : Int32) (v_rows_71 : Int32) (v_rowOf_71 : (Nat → Int32)) (v_firstOfRow_71 : (Nat → Int32)), f_X0_lay_71 (f_X0_lay_9 v_words v_passageOf x1_9 n_9) x2_71 x3_71 v_rows_71 v_rowOf_71 v_firstOfRow_71 = some (o_rows, o_rowOf, o_firstOfRow) → ∀ (H : Heap) (locs : List Loc), va_P (dC, dI) vwCl [(aC, .inr (0, [.int v_words, .int v_passages, .int v_wordsInPassage, .int v_rows_71, .ref a_letters, .ref a_passageOf, .ref a_cues, .ref a_rowOf, .ref a_firstOfRow])), (a_letters, .inl (cI, 120, .inl v_letters)), (a_passageOf, .inl (cI, 120, .inl v_passageOf)), (a_cues, .inl (cI, 120, .inl v_cues)), (a_rowOf, .inl (cI, 120, .inl v_rowOf_71)), (a_firstOfRow, .inl (cI, 120, .inl v_firstOfRow_71))] H → va_D A [(aC, .inr (0, [.int v_words, .int v_passages, .int v_wordsInPassage, .int v_rows_71, .ref a_letters, .ref a_passageOf, .ref a_cues, .ref a_rowOf, .ref a_firstOfRow])), (a_letters, .inl (cI, 120, .inl v_letters)), (a_passageOf, .inl (cI, 120, .inl v_passageOf)), (a_cues, .inl (cI, 120, .inl v_cues)), (a_rowOf, .inl (cI, 120, .inl v_rowOf_71)), (a_firstOfRow, .inl (cI, 120, .inl v_firstOfRow_71))] → va_S A s.heap H locs → ∀ ls : Array Slot, lv_has ls 4 [(0, .ref aC), (1, .int x1_9), (2, .int x2_71), (3, .int x3_71)] → W p l e (headSpec wsX0_lay rm_X0_lay).room s m ([.ref aC, .int p1] : List Value).toArray below meth c H locs 0 0 Q (F0 m 71 ls []) := by
        intro x2_71 x3_71 v_rows_71 v_rowOf_71 v_firstOfRow_71 hF H locs hP hD hS ls hl
        unfold f_X0_lay_71 at hF
        refine lv_aload_n hx hb dX0_lay_71 rfl (lv_at hl 0 rfl) ?_
        refine va_get (D := (dC, dI)) (ci := 0) (v := .ref a_rowOf) (C := RX0) (T := TX0) (N := 9) hx hb hts inX0 hown hK hP 0 rfl rfl 7 (by decide) fl21 (fun _ h9 => h9) rfl dX0_lay_72 ?_
        refine lv_iload_n hx hb dX0_lay_75 rfl (lv_at hl 3 rfl) ?_
        refine lv_aload_n hx hb dX0_lay_76 rfl (lv_at hl 0 rfl) ?_
        refine va_get (D := (dC, dI)) (ci := 0) (v := .int v_rows_71) (C := RX0) (T := TX0) (N := 9) hx hb hts inX0 hown hK hP 0 rfl rfl 3 (by decide) fl37 (fun _ h9 => h9) rfl dX0_lay_77 ?_
        refine lv_iconst (v := (1 : Int32)) hx hb dX0_lay_80 (by decide) ?_
        refine lv_isub hx hb dX0_lay_81 ?_
        obtain ⟨q_82, hq_82, hF⟩ := bindE hF
        have hPc := hP.sub (ws' := [(a_rowOf, .inl (cI, 120, .inl v_rowOf_71))]) [4] rfl
        have hDc := hD.sub (ws' := [(a_rowOf, .inl (cI, 120, .inl v_rowOf_71))]) [4] (by decide) rfl
        have hFc := va_free (wc := [(a_rowOf, .inl (cI, 120, .inl v_rowOf_71))]) hD hS hA [4] rfl
        refine va_callv (va_runSN (As := [.ref a_rowOf, .int x3_71, .int (v_rows_71 - (1 : Int32))]) (rest := []) ⟨hx, hb, hml, hown, hts⟩ (c_X3_put l dC dI cI cZ cO a_rowOf H.size 120 x3_71 (v_rows_71 - (1 : Int32)) v_rowOf_71 q_82 hq_82) ⟨(va_cnB 3 hts gX0_lay_X3_put_n59 rfl rfl rfl (NW_X0_59 hN) (hts (.initialized RX3) (by decide +kernel)) (by decide +kernel) ⟨Nat.le_of_ble_eq_true rfl, Nat.le_of_ble_eq_true rfl⟩), hts (.static yX3_put) (by decide +kernel), trivial⟩ ⟨fb_wr, pre_wr hPc hK hN hDc⟩ rfl rfl hl.1 rfl (lv_room (Nat.le_of_ble_eq_true rfl)) dX0_lay_82 ⟨Nat.zero_le _, Nat.zero_le _⟩) hS (fun q _ h => hFc q h) hFc (fun _ t H1 locs ht hvm hw hB hz1 hk1 hS => ?_)
        obtain ⟨hP1, hD1⟩ := hB
        rw [ht] at hP1
        obtain ⟨hP, hD⟩ := va_join (wr := [(aC, .inr (0, [.int v_words, .int v_passages, .int v_wordsInPassage, .int v_rows_71, .ref a_letters, .ref a_passageOf, .ref a_cues, .ref a_rowOf, .ref a_firstOfRow])), (a_letters, .inl (cI, 120, .inl v_letters)), (a_passageOf, .inl (cI, 120, .inl v_passageOf)), (a_cues, .inl (cI, 120, .inl v_cues)), (a_firstOfRow, .inl (cI, 120, .inl v_firstOfRow_71))]) (w1 := [(a_rowOf, .inl (cI, 120, .inl q_82))]) hP hD [4] [0, 1, 2, 3, 5] rfl rfl (by decide) (by decide) hk1 hFc hP1 hD1
        generalize H1 = H at hP hS ⊢
        have hP : va_P (dC, dI) vwCl [(aC, .inr (0, [.int v_words, .int v_passages, .int v_wordsInPassage, .int v_rows_71, .ref a_letters, .ref a_passageOf, .ref a_cues, .ref a_rowOf, .ref a_firstOfRow])), (a_letters, .inl (cI, 120, .inl v_letters)), (a_passageOf, .inl (cI, 120, .inl v_passageOf)), (a_cues, .inl (cI, 120, .inl v_cues)), (a_firstOfRow, .inl (cI, 120, .inl v_firstOfRow_71)), (a_rowOf, .inl (cI, 120, .inl q_82))] H := hP
        have hD : va_D A [(aC, .inr (0, [.int v_words, .int v_passages, .int v_wordsInPassage, .int v_rows_71, .ref a_letters, .ref a_passageOf, .ref a_cues, .ref a_rowOf, .ref a_firstOfRow])), (a_letters, .inl (cI, 120, .inl v_letters)), (a_passageOf, .inl (cI, 120, .inl v_passageOf)), (a_cues, .inl (cI, 120, .inl v_cues)), (a_firstOfRow, .inl (cI, 120, .inl v_firstOfRow_71)), (a_rowOf, .inl (cI, 120, .inl q_82))] := hD
        refine lv_iinc (v := (x2_71 + 1)) (lv' := [(2, .int (x2_71 + 1)), (0, .ref aC), (1, .int x1_9), (3, .int x3_71)]) hx hb dX0_lay_85 hl (k := 2) rfl rfl (by decide) rfl (fun ls hl => ?_)
        refine lv_iinc (v := (x3_71 + 1)) (lv' := [(3, .int (x3_71 + 1)), (2, .int (x2_71 + 1)), (0, .ref aC), (1, .int x1_9)]) hx hb dX0_lay_88 hl (k := 3) rfl rfl (by decide) rfl (fun ls hl => ?_)
        refine lv_goto (tgt := 9) hx hb dX0_lay_91 (by decide) ?_
        exact ih9 x1_9 (x2_71 + 1) (x3_71 + 1) v_rows_71 q_82 v_firstOfRow_71 hF _ _ (hP.sub [0, 1, 2, 3, 5, 4] rfl) (hD.sub [0, 1, 2, 3, 5, 4] (by decide) rfl) hS _ (lv_sub hl [2, 3, 1, 0] rfl)
      have B47 : ∀ (x3_47 : Int32) (v_rows_47 : Int32) (v_rowOf_47 : (Nat → Int32)) (v_firstOfRow_47 : (Nat → Int32)), f_X0_lay_47 (f_X0_lay_9 v_words v_passageOf x1_9 n_9) x3_47 v_rows_47 v_rowOf_47 v_firstOfRow_47 = some (o_rows, o_rowOf, o_firstOfRow) → ∀ (H : Heap) (locs : List Loc), va_P (dC, dI) vwCl [(aC, .inr (0, [.int v_words, .int v_passages, .int v_wordsInPassage, .int v_rows_47, .ref a_letters, .ref a_passageOf, .ref a_cues, .ref a_rowOf, .ref a_firstOfRow])), (a_letters, .inl (cI, 120, .inl v_letters)), (a_passageOf, .inl (cI, 120, .inl v_passageOf)), (a_cues, .inl (cI, 120, .inl v_cues)), (a_rowOf, .inl (cI, 120, .inl v_rowOf_47)), (a_firstOfRow, .inl (cI, 120, .inl v_firstOfRow_47))] H → va_D A [(aC, .inr (0, [.int v_words, .int v_passages, .int v_wordsInPassage, .int v_rows_47, .ref a_letters, .ref a_passageOf, .ref a_cues, .ref a_rowOf, .ref a_firstOfRow])), (a_letters, .inl (cI, 120, .inl v_letters)), (a_passageOf, .inl (cI, 120, .inl v_passageOf)), (a_cues, .inl (cI, 120, .inl v_cues)), (a_rowOf, .inl (cI, 120, .inl v_rowOf_47)), (a_firstOfRow, .inl (cI, 120, .inl v_firstOfRow_47))] → va_S A s.heap H locs → ∀ ls : Array Slot, lv_has ls 4 [(0, .ref aC), (1, .int x1_9), (3, .int x3_47)] → W p l e (headSpec wsX0_lay rm_X0_lay).room s m ([.ref aC, .int p1] : List Value).toArray below meth c H locs 0 0 Q (F0 m 47 ls []) := by
        intro x3_47 v_rows_47 v_rowOf_47 v_firstOfRow_47 hF H locs hP hD hS ls hl
        unfold f_X0_lay_47 at hF
        refine lv_aload_n hx hb dX0_lay_47 rfl (lv_at hl 0 rfl) ?_
        refine va_get (D := (dC, dI)) (ci := 0) (v := .ref a_firstOfRow) (C := RX0) (T := TX0) (N := 9) hx hb hts inX0 hown hK hP 0 rfl rfl 8 (by decide) fl24 (fun _ h9 => h9) rfl dX0_lay_48 ?_
        refine lv_aload_n hx hb dX0_lay_51 rfl (lv_at hl 0 rfl) ?_
        refine va_get (D := (dC, dI)) (ci := 0) (v := .int v_rows_47) (C := RX0) (T := TX0) (N := 9) hx hb hts inX0 hown hK hP 0 rfl rfl 3 (by decide) fl37 (fun _ h9 => h9) rfl dX0_lay_52 ?_
        refine lv_iload_n hx hb dX0_lay_55 rfl (lv_at hl 2 rfl) ?_
        obtain ⟨q_56, hq_56, hF⟩ := bindE hF
        have hPc := hP.sub (ws' := [(a_firstOfRow, .inl (cI, 120, .inl v_firstOfRow_47))]) [5] rfl
        have hDc := hD.sub (ws' := [(a_firstOfRow, .inl (cI, 120, .inl v_firstOfRow_47))]) [5] (by decide) rfl
        have hFc := va_free (wc := [(a_firstOfRow, .inl (cI, 120, .inl v_firstOfRow_47))]) hD hS hA [5] rfl
        refine va_callv (va_runSN (As := [.ref a_firstOfRow, .int v_rows_47, .int x3_47]) (rest := []) ⟨hx, hb, hml, hown, hts⟩ (c_X3_put l dC dI cI cZ cO a_firstOfRow H.size 120 v_rows_47 x3_47 v_firstOfRow_47 q_56 hq_56) ⟨(va_cnB 3 hts gX0_lay_X3_put_n59 rfl rfl rfl (NW_X0_59 hN) (hts (.initialized RX3) (by decide +kernel)) (by decide +kernel) ⟨Nat.le_of_ble_eq_true rfl, Nat.le_of_ble_eq_true rfl⟩), hts (.static yX3_put) (by decide +kernel), trivial⟩ ⟨fb_wr, pre_wr hPc hK hN hDc⟩ rfl rfl hl.1 rfl (lv_room (Nat.le_of_ble_eq_true rfl)) dX0_lay_56 ⟨Nat.zero_le _, Nat.zero_le _⟩) hS (fun q _ h => hFc q h) hFc (fun _ t H1 locs ht hvm hw hB hz1 hk1 hS => ?_)
        obtain ⟨hP1, hD1⟩ := hB
        rw [ht] at hP1
        obtain ⟨hP, hD⟩ := va_join (wr := [(aC, .inr (0, [.int v_words, .int v_passages, .int v_wordsInPassage, .int v_rows_47, .ref a_letters, .ref a_passageOf, .ref a_cues, .ref a_rowOf, .ref a_firstOfRow])), (a_letters, .inl (cI, 120, .inl v_letters)), (a_passageOf, .inl (cI, 120, .inl v_passageOf)), (a_cues, .inl (cI, 120, .inl v_cues)), (a_rowOf, .inl (cI, 120, .inl v_rowOf_47))]) (w1 := [(a_firstOfRow, .inl (cI, 120, .inl q_56))]) hP hD [5] [0, 1, 2, 3, 4] rfl rfl (by decide) (by decide) hk1 hFc hP1 hD1
        generalize H1 = H at hP hS ⊢
        have hP : va_P (dC, dI) vwCl [(aC, .inr (0, [.int v_words, .int v_passages, .int v_wordsInPassage, .int v_rows_47, .ref a_letters, .ref a_passageOf, .ref a_cues, .ref a_rowOf, .ref a_firstOfRow])), (a_letters, .inl (cI, 120, .inl v_letters)), (a_passageOf, .inl (cI, 120, .inl v_passageOf)), (a_cues, .inl (cI, 120, .inl v_cues)), (a_rowOf, .inl (cI, 120, .inl v_rowOf_47)), (a_firstOfRow, .inl (cI, 120, .inl q_56))] H := hP
        have hD : va_D A [(aC, .inr (0, [.int v_words, .int v_passages, .int v_wordsInPassage, .int v_rows_47, .ref a_letters, .ref a_passageOf, .ref a_cues, .ref a_rowOf, .ref a_firstOfRow])), (a_letters, .inl (cI, 120, .inl v_letters)), (a_passageOf, .inl (cI, 120, .inl v_passageOf)), (a_cues, .inl (cI, 120, .inl v_cues)), (a_rowOf, .inl (cI, 120, .inl v_rowOf_47)), (a_firstOfRow, .inl (cI, 120, .inl q_56))] := hD
        refine lv_aload_n hx hb dX0_lay_59 rfl (lv_at hl 0 rfl) ?_
        refine lv_dup hx hb dX0_lay_60 rfl ?_
        refine va_get (D := (dC, dI)) (ci := 0) (v := .int v_rows_47) (C := RX0) (T := TX0) (N := 9) hx hb hts inX0 hown hK hP 0 rfl rfl 3 (by decide) fl37 (fun _ h9 => h9) rfl dX0_lay_61 ?_
        refine lv_iconst (v := (1 : Int32)) hx hb dX0_lay_64 (by decide) ?_
        refine lv_iadd hx hb dX0_lay_65 ?_
        refine va_put (D := (dC, dI)) (ci := 0) (v := .int (v_rows_47 + (1 : Int32))) (ty := .int) (C := RX0) (T := TX0) (N := 9) hx hb hts inX0 tyX0 tyX0_ok nmX0 hown hK hP hD hS 0 rfl rfl 3 (by decide) fl37 (fun _ h9 => h9) rfl (by decide +kernel) rfl rfl (Nat.le_of_ble_eq_true rfl) dX0_lay_66 (fun H locs hP hD hS => ?_)
        have hP : va_P (dC, dI) vwCl [(aC, .inr (0, [.int v_words, .int v_passages, .int v_wordsInPassage, .int (v_rows_47 + (1 : Int32)), .ref a_letters, .ref a_passageOf, .ref a_cues, .ref a_rowOf, .ref a_firstOfRow])), (a_letters, .inl (cI, 120, .inl v_letters)), (a_passageOf, .inl (cI, 120, .inl v_passageOf)), (a_cues, .inl (cI, 120, .inl v_cues)), (a_rowOf, .inl (cI, 120, .inl v_rowOf_47)), (a_firstOfRow, .inl (cI, 120, .inl q_56))] H := hP
        have hD : va_D A [(aC, .inr (0, [.int v_words, .int v_passages, .int v_wordsInPassage, .int (v_rows_47 + (1 : Int32)), .ref a_letters, .ref a_passageOf, .ref a_cues, .ref a_rowOf, .ref a_firstOfRow])), (a_letters, .inl (cI, 120, .inl v_letters)), (a_passageOf, .inl (cI, 120, .inl v_passageOf)), (a_cues, .inl (cI, 120, .inl v_cues)), (a_rowOf, .inl (cI, 120, .inl v_rowOf_47)), (a_firstOfRow, .inl (cI, 120, .inl q_56))] := hD
        refine lv_iconst (v := (0 : Int32)) hx hb dX0_lay_69 (by decide) ?_
        refine lv_istore_n (lv' := [(2, .int (0 : Int32)), (0, .ref aC), (1, .int x1_9), (3, .int x3_47)]) hx hb dX0_lay_70 rfl hl (by decide) rfl (fun ls hl => ?_)
        exact B71 (0 : Int32) x3_47 (v_rows_47 + (1 : Int32)) v_rowOf_47 q_56 hF _ _ hP hD hS _ (lv_sub hl [1, 2, 0, 3] rfl)
      rw [f_X0_lay_9] at hF
      refine lv_iload_n hx hb dX0_lay_9 rfl (lv_at hl 3 rfl) ?_
      refine lv_aload_n hx hb dX0_lay_10 rfl (lv_at hl 0 rfl) ?_
      refine va_get (D := (dC, dI)) (ci := 0) (v := .int v_words) (C := RX0) (T := TX0) (N := 9) hx hb hts inX0 hown hK hP 0 rfl rfl 0 (by decide) fl27 (fun _ h9 => h9) rfl dX0_lay_11 ?_
      refine lv_icmp_ge (tgt := 94) hx hb dX0_lay_14 (by decide) (fun c_14 => ?_) (fun c_14 => ?_)
      · have hF := (if_pos c_14).symm.trans hF
        have hF : some (v_rows_9, v_rowOf_9, v_firstOfRow_9) = some (o_rows, o_rowOf, o_firstOfRow) := hF
        have hP9 := hP
        have hD9 := hD
        cases hF
        subst hQ
        subst hAe
        exact W.vret hx hb hr (fun t ht hW => ⟨⟨(), rfl, trivial, ⟨by rw [ht]; exact hP9, hD9⟩⟩, hS.F ht⟩) hS.2.2 dX0_lay_94
      · have hF := (if_neg c_14).symm.trans hF
        refine lv_iload_n hx hb dX0_lay_17 rfl (lv_at hl 2 rfl) ?_
        refine lv_if_eq (tgt := 47) hx hb dX0_lay_18 (by decide) (fun c_18 => ?_) (fun c_18 => ?_)
        · have hF := (if_pos c_18).symm.trans hF
          exact B47 x3_9 v_rows_9 v_rowOf_9 v_firstOfRow_9 hF _ _ hP hD hS _ (lv_sub hl [0, 1, 3] rfl)
        · have hF := (if_neg c_18).symm.trans hF
          refine lv_iload_n hx hb dX0_lay_21 rfl (lv_at hl 2 rfl) ?_
          refine lv_iload_n hx hb dX0_lay_22 rfl (lv_at hl 1 rfl) ?_
          refine lv_icmp_ge (tgt := 47) hx hb dX0_lay_23 (by decide) (fun c_23 => ?_) (fun c_23 => ?_)
          · have hF := (if_pos c_23).symm.trans hF
            exact B47 x3_9 v_rows_9 v_rowOf_9 v_firstOfRow_9 hF _ _ hP hD hS _ (lv_sub hl [0, 1, 3] rfl)
          · have hF := (if_neg c_23).symm.trans hF
            refine lv_aload_n hx hb dX0_lay_26 rfl (lv_at hl 0 rfl) ?_
            refine va_get (D := (dC, dI)) (ci := 0) (v := .ref a_passageOf) (C := RX0) (T := TX0) (N := 9) hx hb hts inX0 hown hK hP 0 rfl rfl 5 (by decide) fl15 (fun _ h9 => h9) rfl dX0_lay_27 ?_
            refine lv_iload_n hx hb dX0_lay_30 rfl (lv_at hl 3 rfl) ?_
            obtain ⟨q_31, hq_31, hF⟩ := bindE hF
            have hPc := hP.sub (ws' := [(a_passageOf, .inl (cI, 120, .inl v_passageOf))]) [2] rfl
            refine vp_callSi (va_Run.run (va_runSN (As := [.ref a_passageOf, .int x3_9]) (rest := []) ⟨hx, hb, hml, hown, hts⟩ (c_X3_at l dC dI cI cZ cO a_passageOf 120 x3_9 v_passageOf q_31 hq_31) ⟨(va_cnB 2 hts gX0_lay_X3_at_n63 rfl rfl rfl (NW_X0_63 hN) (hts (.initialized RX3) (by decide +kernel)) (by decide +kernel) ⟨Nat.le_of_ble_eq_true rfl, Nat.le_of_ble_eq_true rfl⟩), hts (.static yX3_at) (by decide +kernel), trivial⟩ ⟨fb_rd, pre_rd hPc hK hN⟩ rfl rfl hl.1 rfl (lv_room (Nat.le_of_ble_eq_true rfl)) dX0_lay_31 ⟨Nat.zero_le _, Nat.zero_le _⟩)) (fun z_31 hz_31 => ?_)
            subst hz_31
            refine lv_aload_n hx hb dX0_lay_34 rfl (lv_at hl 0 rfl) ?_
            refine va_get (D := (dC, dI)) (ci := 0) (v := .ref a_passageOf) (C := RX0) (T := TX0) (N := 9) hx hb hts inX0 hown hK hP 0 rfl rfl 5 (by decide) fl15 (fun _ h9 => h9) rfl dX0_lay_35 ?_
            refine lv_iload_n hx hb dX0_lay_38 rfl (lv_at hl 3 rfl) ?_
            refine lv_iconst (v := (1 : Int32)) hx hb dX0_lay_39 (by decide) ?_
            refine lv_isub hx hb dX0_lay_40 ?_
            obtain ⟨q_41, hq_41, hF⟩ := bindE hF
            have hPc := hP.sub (ws' := [(a_passageOf, .inl (cI, 120, .inl v_passageOf))]) [2] rfl
            refine vp_callSi (va_Run.run (va_runSN (As := [.ref a_passageOf, .int (x3_9 - (1 : Int32))]) (rest := [.int q_31]) ⟨hx, hb, hml, hown, hts⟩ (c_X3_at l dC dI cI cZ cO a_passageOf 120 (x3_9 - (1 : Int32)) v_passageOf q_41 hq_41) ⟨(va_cnB 2 hts gX0_lay_X3_at_n63 rfl rfl rfl (NW_X0_63 hN) (hts (.initialized RX3) (by decide +kernel)) (by decide +kernel) ⟨Nat.le_of_ble_eq_true rfl, Nat.le_of_ble_eq_true rfl⟩), hts (.static yX3_at) (by decide +kernel), trivial⟩ ⟨fb_rd, pre_rd hPc hK hN⟩ rfl rfl hl.1 rfl (lv_room (Nat.le_of_ble_eq_true rfl)) dX0_lay_41 ⟨Nat.zero_le _, Nat.zero_le _⟩)) (fun z_41 hz_41 => ?_)
            subst hz_41
            refine lv_icmp_eq (tgt := 71) hx hb dX0_lay_44 (by decide) (fun c_44 => ?_) (fun c_44 => ?_)
            · have hF := (if_pos c_44).symm.trans hF
              exact B71 x2_9 x3_9 v_rows_9 v_rowOf_9 v_firstOfRow_9 hF _ _ hP hD hS _ (lv_sub hl [0, 1, 2, 3] rfl)
            · have hF := (if_neg c_44).symm.trans hF
              exact B47 x3_9 v_rows_9 v_rowOf_9 v_firstOfRow_9 hF _ _ hP hD hS _ (lv_sub hl [0, 1, 3] rfl)
  unfold f_X0_lay at hF
  refine lv_iconst (v := (0 : Int32)) hx hb dX0_lay_0 (by decide) ?_
  refine lv_istore_n (lv' := [(2, .int (0 : Int32)), (0, .ref aC), (1, .int p1)]) hx hb dX0_lay_1 rfl hl (by decide) rfl (fun ls hl => ?_)
  refine lv_aload_n hx hb dX0_lay_2 rfl (lv_at hl 1 rfl) ?_
  refine lv_iconst (v := (0 : Int32)) hx hb dX0_lay_3 (by decide) ?_
  refine va_put (D := (dC, dI)) (ci := 0) (v := .int (0 : Int32)) (ty := .int) (C := RX0) (T := TX0) (N := 9) hx hb hts inX0 tyX0 tyX0_ok nmX0 hown hK hP hD hS 0 rfl rfl 3 (by decide) fl37 (fun _ h9 => h9) rfl (by decide +kernel) rfl rfl (Nat.le_of_ble_eq_true rfl) dX0_lay_4 (fun H locs hP hD hS => ?_)
  have hP : va_P (dC, dI) vwCl [(aC, .inr (0, [.int v_words, .int v_passages, .int v_wordsInPassage, .int (0 : Int32), .ref a_letters, .ref a_passageOf, .ref a_cues, .ref a_rowOf, .ref a_firstOfRow])), (a_letters, .inl (cI, 120, .inl v_letters)), (a_passageOf, .inl (cI, 120, .inl v_passageOf)), (a_cues, .inl (cI, 120, .inl v_cues)), (a_rowOf, .inl (cI, 120, .inl v_rowOf)), (a_firstOfRow, .inl (cI, 120, .inl v_firstOfRow))] H := hP
  have hD : va_D A [(aC, .inr (0, [.int v_words, .int v_passages, .int v_wordsInPassage, .int (0 : Int32), .ref a_letters, .ref a_passageOf, .ref a_cues, .ref a_rowOf, .ref a_firstOfRow])), (a_letters, .inl (cI, 120, .inl v_letters)), (a_passageOf, .inl (cI, 120, .inl v_passageOf)), (a_cues, .inl (cI, 120, .inl v_cues)), (a_rowOf, .inl (cI, 120, .inl v_rowOf)), (a_firstOfRow, .inl (cI, 120, .inl v_firstOfRow))] := hD
  refine lv_iconst (v := (0 : Int32)) hx hb dX0_lay_7 (by decide) ?_
  refine lv_istore_n (lv' := [(3, .int (0 : Int32)), (2, .int (0 : Int32)), (0, .ref aC), (1, .int p1)]) hx hb dX0_lay_8 rfl hl (by decide) rfl (fun ls hl => ?_)
  exact B9 gas p1 (0 : Int32) (0 : Int32) (0 : Int32) v_rowOf v_firstOfRow hF _ _ hP hD hS _ (lv_sub hl [2, 3, 1, 0] rfl)
