def f_X0_become (v_words : Int32) (v_passages : Int32) (v_wordsInPassage : Int32) (v_rows : Int32) (v_letters : (Nat → Int32)) (v_passageOf : (Nat → Int32)) (v_cues : (Nat → Int32)) (v_rowOf : (Nat → Int32)) (v_firstOfRow : (Nat → Int32)) (v_o_words : Int32) (v_o_passages : Int32) (v_o_wordsInPassage : Int32) (v_o_rows : Int32) (v_o_letters : (Nat → Int32)) (v_o_passageOf : (Nat → Int32)) (v_o_cues : (Nat → Int32)) (v_o_rowOf : (Nat → Int32)) (v_o_firstOfRow : (Nat → Int32)) : Option (Int32 × Int32 × Int32 × Int32 × (Nat → Int32) × (Nat → Int32) × (Nat → Int32) × (Nat → Int32) × (Nat → Int32)) :=
  (f_X3_copyRow 120 120 v_o_letters v_letters).bind fun q40 =>
  (f_X3_copyRow 120 120 v_o_passageOf v_passageOf).bind fun q51 =>
  (f_X3_copyRow 120 120 v_o_cues v_cues).bind fun q62 =>
  (f_X3_copyRow 120 120 v_o_rowOf v_rowOf).bind fun q73 =>
  (f_X3_copyRow 120 120 v_o_firstOfRow v_firstOfRow).bind fun q84 =>
  some (v_o_words, v_o_passages, v_o_wordsInPassage, v_o_rows, q40, q51, q62, q73, q84)
def rm_X0_become : Room := { frames := 2, cells := 0, slots := 0, locals := 69 }
set_option maxHeartbeats 4000000 in
set_option maxRecDepth 100000 in
theorem c_X0_become (l : Launch) (dC : Nat → ClassId) (dI : Nat → Nat → Nat) (cI cZ cO : ClassId) (aC a_letters a_passageOf a_cues a_rowOf a_firstOfRow o_aC o_a_letters o_a_passageOf o_a_cues o_a_rowOf o_a_firstOfRow : Nat) (sz : Nat) (v_words : Int32) (v_passages : Int32) (v_wordsInPassage : Int32) (v_rows : Int32) (v_letters : (Nat → Int32)) (v_passageOf : (Nat → Int32)) (v_cues : (Nat → Int32)) (v_rowOf : (Nat → Int32)) (v_firstOfRow : (Nat → Int32)) (v_o_words : Int32) (v_o_passages : Int32) (v_o_wordsInPassage : Int32) (v_o_rows : Int32) (v_o_letters : (Nat → Int32)) (v_o_passageOf : (Nat → Int32)) (v_o_cues : (Nat → Int32)) (v_o_rowOf : (Nat → Int32)) (v_o_firstOfRow : (Nat → Int32)) (o_words : Int32) (o_passages : Int32) (o_wordsInPassage : Int32) (o_rows : Int32) (o_letters : (Nat → Int32)) (o_passageOf : (Nat → Int32)) (o_cues : (Nat → Int32)) (o_rowOf : (Nat → Int32)) (o_firstOfRow : (Nat → Int32)) (hF : f_X0_become v_words v_passages v_wordsInPassage v_rows v_letters v_passageOf v_cues v_rowOf v_firstOfRow v_o_words v_o_passages v_o_wordsInPassage v_o_rows v_o_letters v_o_passageOf v_o_cues v_o_rowOf v_o_firstOfRow = some (o_words, o_passages, o_wordsInPassage, o_rows, o_letters, o_passageOf, o_cues, o_rowOf, o_firstOfRow)) : Met l yX0_become wsX0_become rm_X0_become (va_Pc [.ref aC, .ref o_aC] (wrW dC dI cI cZ cO sz [(aC, .inr (0, [.int v_words, .int v_passages, .int v_wordsInPassage, .int v_rows, .ref a_letters, .ref a_passageOf, .ref a_cues, .ref a_rowOf, .ref a_firstOfRow])), (a_letters, .inl (cI, 120, .inl v_letters)), (a_passageOf, .inl (cI, 120, .inl v_passageOf)), (a_cues, .inl (cI, 120, .inl v_cues)), (a_rowOf, .inl (cI, 120, .inl v_rowOf)), (a_firstOfRow, .inl (cI, 120, .inl v_firstOfRow)), (o_aC, .inr (0, [.int v_o_words, .int v_o_passages, .int v_o_wordsInPassage, .int v_o_rows, .ref o_a_letters, .ref o_a_passageOf, .ref o_a_cues, .ref o_a_rowOf, .ref o_a_firstOfRow])), (o_a_letters, .inl (cI, 120, .inl v_o_letters)), (o_a_passageOf, .inl (cI, 120, .inl v_o_passageOf)), (o_a_cues, .inl (cI, 120, .inl v_o_cues)), (o_a_rowOf, .inl (cI, 120, .inl v_o_rowOf)), (o_a_firstOfRow, .inl (cI, 120, .inl v_o_firstOfRow))])) (va_Qv (fun (_ : Unit) => True) (wrE dC dI [(aC, .inr (0, [.int v_words, .int v_passages, .int v_wordsInPassage, .int v_rows, .ref a_letters, .ref a_passageOf, .ref a_cues, .ref a_rowOf, .ref a_firstOfRow])), (a_letters, .inl (cI, 120, .inl v_letters)), (a_passageOf, .inl (cI, 120, .inl v_passageOf)), (a_cues, .inl (cI, 120, .inl v_cues)), (a_rowOf, .inl (cI, 120, .inl v_rowOf)), (a_firstOfRow, .inl (cI, 120, .inl v_firstOfRow)), (o_aC, .inr (0, [.int v_o_words, .int v_o_passages, .int v_o_wordsInPassage, .int v_o_rows, .ref o_a_letters, .ref o_a_passageOf, .ref o_a_cues, .ref o_a_rowOf, .ref o_a_firstOfRow])), (o_a_letters, .inl (cI, 120, .inl v_o_letters)), (o_a_passageOf, .inl (cI, 120, .inl v_o_passageOf)), (o_a_cues, .inl (cI, 120, .inl v_o_cues)), (o_a_rowOf, .inl (cI, 120, .inl v_o_rowOf)), (o_a_firstOfRow, .inl (cI, 120, .inl v_o_firstOfRow))] sz [(aC, .inr (0, [.int o_words, .int o_passages, .int o_wordsInPassage, .int o_rows, .ref a_letters, .ref a_passageOf, .ref a_cues, .ref a_rowOf, .ref a_firstOfRow])), (a_letters, .inl (cI, 120, .inl o_letters)), (a_passageOf, .inl (cI, 120, .inl o_passageOf)), (a_cues, .inl (cI, 120, .inl o_cues)), (a_rowOf, .inl (cI, 120, .inl o_rowOf)), (a_firstOfRow, .inl (cI, 120, .inl o_firstOfRow)), (o_aC, .inr (0, [.int v_o_words, .int v_o_passages, .int v_o_wordsInPassage, .int v_o_rows, .ref o_a_letters, .ref o_a_passageOf, .ref o_a_cues, .ref o_a_rowOf, .ref o_a_firstOfRow])), (o_a_letters, .inl (cI, 120, .inl v_o_letters)), (o_a_passageOf, .inl (cI, 120, .inl v_o_passageOf)), (o_a_cues, .inl (cI, 120, .inl v_o_cues)), (o_a_rowOf, .inl (cI, 120, .inl v_o_rowOf)), (o_a_firstOfRow, .inl (cI, 120, .inl v_o_firstOfRow))]) (va_A [(aC, .inr (0, [.int v_words, .int v_passages, .int v_wordsInPassage, .int v_rows, .ref a_letters, .ref a_passageOf, .ref a_cues, .ref a_rowOf, .ref a_firstOfRow])), (a_letters, .inl (cI, 120, .inl v_letters)), (a_passageOf, .inl (cI, 120, .inl v_passageOf)), (a_cues, .inl (cI, 120, .inl v_cues)), (a_rowOf, .inl (cI, 120, .inl v_rowOf)), (a_firstOfRow, .inl (cI, 120, .inl v_firstOfRow)), (o_aC, .inr (0, [.int v_o_words, .int v_o_passages, .int v_o_wordsInPassage, .int v_o_rows, .ref o_a_letters, .ref o_a_passageOf, .ref o_a_cues, .ref o_a_rowOf, .ref o_a_firstOfRow])), (o_a_letters, .inl (cI, 120, .inl v_o_letters)), (o_a_passageOf, .inl (cI, 120, .inl v_o_passageOf)), (o_a_cues, .inl (cI, 120, .inl v_o_cues)), (o_a_rowOf, .inl (cI, 120, .inl v_o_rowOf)), (o_a_firstOfRow, .inl (cI, 120, .inl v_o_firstOfRow))] sz)) 0 0 (va_A [(aC, .inr (0, [.int v_words, .int v_passages, .int v_wordsInPassage, .int v_rows, .ref a_letters, .ref a_passageOf, .ref a_cues, .ref a_rowOf, .ref a_firstOfRow])), (a_letters, .inl (cI, 120, .inl v_letters)), (a_passageOf, .inl (cI, 120, .inl v_passageOf)), (a_cues, .inl (cI, 120, .inl v_cues)), (a_rowOf, .inl (cI, 120, .inl v_rowOf)), (a_firstOfRow, .inl (cI, 120, .inl v_firstOfRow)), (o_aC, .inr (0, [.int v_o_words, .int v_o_passages, .int v_o_wordsInPassage, .int v_o_rows, .ref o_a_letters, .ref o_a_passageOf, .ref o_a_cues, .ref o_a_rowOf, .ref o_a_firstOfRow])), (o_a_letters, .inl (cI, 120, .inl v_o_letters)), (o_a_passageOf, .inl (cI, 120, .inl v_o_passageOf)), (o_a_cues, .inl (cI, 120, .inl v_o_cues)), (o_a_rowOf, .inl (cI, 120, .inl v_o_rowOf)), (o_a_firstOfRow, .inl (cI, 120, .inl v_o_firstOfRow))] sz) := by
  refine Met.ofW (cc := cX0_become) (maxL := 2) (ret := none) (by decide) rfl ?_
  intro p e s m args below meth c s₁ B hml hv
  obtain ⟨rfl, hsz, hP, hK, hN, hD0⟩ := hv
  have hx := B.exec
  have hb := B.bytes
  have hr := B.returns
  have hts := atoms_spec (ws := wsX0_become) B.pre
  have hown : s.vm.findClass RX0 = some m.cls := findClass_of_methodNamed B.named
  have hlocks := B.notSynchronized
  subst hsz
  have hD := hD0.self (sz := s.heap.size)
  obtain ⟨Q, hQ⟩ : ∃ Q, Q = MQ below (va_Qv (fun (_ : Unit) => True) (wrE dC dI [(aC, .inr (0, [.int v_words, .int v_passages, .int v_wordsInPassage, .int v_rows, .ref a_letters, .ref a_passageOf, .ref a_cues, .ref a_rowOf, .ref a_firstOfRow])), (a_letters, .inl (cI, 120, .inl v_letters)), (a_passageOf, .inl (cI, 120, .inl v_passageOf)), (a_cues, .inl (cI, 120, .inl v_cues)), (a_rowOf, .inl (cI, 120, .inl v_rowOf)), (a_firstOfRow, .inl (cI, 120, .inl v_firstOfRow)), (o_aC, .inr (0, [.int v_o_words, .int v_o_passages, .int v_o_wordsInPassage, .int v_o_rows, .ref o_a_letters, .ref o_a_passageOf, .ref o_a_cues, .ref o_a_rowOf, .ref o_a_firstOfRow])), (o_a_letters, .inl (cI, 120, .inl v_o_letters)), (o_a_passageOf, .inl (cI, 120, .inl v_o_passageOf)), (o_a_cues, .inl (cI, 120, .inl v_o_cues)), (o_a_rowOf, .inl (cI, 120, .inl v_o_rowOf)), (o_a_firstOfRow, .inl (cI, 120, .inl v_o_firstOfRow))] s.heap.size [(aC, .inr (0, [.int o_words, .int o_passages, .int o_wordsInPassage, .int o_rows, .ref a_letters, .ref a_passageOf, .ref a_cues, .ref a_rowOf, .ref a_firstOfRow])), (a_letters, .inl (cI, 120, .inl o_letters)), (a_passageOf, .inl (cI, 120, .inl o_passageOf)), (a_cues, .inl (cI, 120, .inl o_cues)), (a_rowOf, .inl (cI, 120, .inl o_rowOf)), (a_firstOfRow, .inl (cI, 120, .inl o_firstOfRow)), (o_aC, .inr (0, [.int v_o_words, .int v_o_passages, .int v_o_wordsInPassage, .int v_o_rows, .ref o_a_letters, .ref o_a_passageOf, .ref o_a_cues, .ref o_a_rowOf, .ref o_a_firstOfRow])), (o_a_letters, .inl (cI, 120, .inl v_o_letters)), (o_a_passageOf, .inl (cI, 120, .inl v_o_passageOf)), (o_a_cues, .inl (cI, 120, .inl v_o_cues)), (o_a_rowOf, .inl (cI, 120, .inl v_o_rowOf)), (o_a_firstOfRow, .inl (cI, 120, .inl v_o_firstOfRow))]) (va_A [(aC, .inr (0, [.int v_words, .int v_passages, .int v_wordsInPassage, .int v_rows, .ref a_letters, .ref a_passageOf, .ref a_cues, .ref a_rowOf, .ref a_firstOfRow])), (a_letters, .inl (cI, 120, .inl v_letters)), (a_passageOf, .inl (cI, 120, .inl v_passageOf)), (a_cues, .inl (cI, 120, .inl v_cues)), (a_rowOf, .inl (cI, 120, .inl v_rowOf)), (a_firstOfRow, .inl (cI, 120, .inl v_firstOfRow)), (o_aC, .inr (0, [.int v_o_words, .int v_o_passages, .int v_o_wordsInPassage, .int v_o_rows, .ref o_a_letters, .ref o_a_passageOf, .ref o_a_cues, .ref o_a_rowOf, .ref o_a_firstOfRow])), (o_a_letters, .inl (cI, 120, .inl v_o_letters)), (o_a_passageOf, .inl (cI, 120, .inl v_o_passageOf)), (o_a_cues, .inl (cI, 120, .inl v_o_cues)), (o_a_rowOf, .inl (cI, 120, .inl v_o_rowOf)), (o_a_firstOfRow, .inl (cI, 120, .inl v_o_firstOfRow))] s.heap.size)) ([.ref aC, .ref o_aC] : List Value).toArray s 0 0 (va_A [(aC, .inr (0, [.int v_words, .int v_passages, .int v_wordsInPassage, .int v_rows, .ref a_letters, .ref a_passageOf, .ref a_cues, .ref a_rowOf, .ref a_firstOfRow])), (a_letters, .inl (cI, 120, .inl v_letters)), (a_passageOf, .inl (cI, 120, .inl v_passageOf)), (a_cues, .inl (cI, 120, .inl v_cues)), (a_rowOf, .inl (cI, 120, .inl v_rowOf)), (a_firstOfRow, .inl (cI, 120, .inl v_firstOfRow)), (o_aC, .inr (0, [.int v_o_words, .int v_o_passages, .int v_o_wordsInPassage, .int v_o_rows, .ref o_a_letters, .ref o_a_passageOf, .ref o_a_cues, .ref o_a_rowOf, .ref o_a_firstOfRow])), (o_a_letters, .inl (cI, 120, .inl v_o_letters)), (o_a_passageOf, .inl (cI, 120, .inl v_o_passageOf)), (o_a_cues, .inl (cI, 120, .inl v_o_cues)), (o_a_rowOf, .inl (cI, 120, .inl v_o_rowOf)), (o_a_firstOfRow, .inl (cI, 120, .inl v_o_firstOfRow))] s.heap.size) := ⟨_, rfl⟩
  rw [← hQ]
  obtain ⟨A, hAe⟩ : ∃ A, A = va_A [(aC, .inr (0, [.int v_words, .int v_passages, .int v_wordsInPassage, .int v_rows, .ref a_letters, .ref a_passageOf, .ref a_cues, .ref a_rowOf, .ref a_firstOfRow])), (a_letters, .inl (cI, 120, .inl v_letters)), (a_passageOf, .inl (cI, 120, .inl v_passageOf)), (a_cues, .inl (cI, 120, .inl v_cues)), (a_rowOf, .inl (cI, 120, .inl v_rowOf)), (a_firstOfRow, .inl (cI, 120, .inl v_firstOfRow)), (o_aC, .inr (0, [.int v_o_words, .int v_o_passages, .int v_o_wordsInPassage, .int v_o_rows, .ref o_a_letters, .ref o_a_passageOf, .ref o_a_cues, .ref o_a_rowOf, .ref o_a_firstOfRow])), (o_a_letters, .inl (cI, 120, .inl v_o_letters)), (o_a_passageOf, .inl (cI, 120, .inl v_o_passageOf)), (o_a_cues, .inl (cI, 120, .inl v_o_cues)), (o_a_rowOf, .inl (cI, 120, .inl v_o_rowOf)), (o_a_firstOfRow, .inl (cI, 120, .inl v_o_firstOfRow))] s.heap.size := ⟨_, rfl⟩
  rw [← hAe] at hD
  have hA : ∀ q : Nat, s.heap.size ≤ q → A q := fun q h => by rw [hAe]; exact Or.inr h
  obtain ⟨H, hH⟩ : ∃ H, H = s.heap := ⟨_, rfl⟩
  have hS : va_S A s.heap H [] := by rw [hH]; exact va_S.rf
  rw [← hH] at hP
  rw [← hH]
  have fl27 := hts (.fieldLink RX0 27 "Teleprompter$Script" "words" "I") (by decide +kernel)
  have fl31 := hts (.fieldLink RX0 31 "Teleprompter$Script" "passages" "I") (by decide +kernel)
  have fl34 := hts (.fieldLink RX0 34 "Teleprompter$Script" "wordsInPassage" "I") (by decide +kernel)
  have fl37 := hts (.fieldLink RX0 37 "Teleprompter$Script" "rows" "I") (by decide +kernel)
  have fl9 := hts (.fieldLink RX0 9 "Teleprompter$Script" "letters" "[I") (by decide +kernel)
  have fl15 := hts (.fieldLink RX0 15 "Teleprompter$Script" "passageOf" "[I") (by decide +kernel)
  have fl18 := hts (.fieldLink RX0 18 "Teleprompter$Script" "cues" "[I") (by decide +kernel)
  have fl21 := hts (.fieldLink RX0 21 "Teleprompter$Script" "rowOf" "[I") (by decide +kernel)
  have fl24 := hts (.fieldLink RX0 24 "Teleprompter$Script" "firstOfRow" "[I") (by decide +kernel)
  have inX0 : ∀ w ∈ u_ws RX0 TX0 9, w ∈ wsX0_become := by decide +kernel
  have hl := lv_entry ([.ref aC, .ref o_aC]) (n := 2) (Nat.le_of_ble_eq_true rfl)
  rw [lg_entry_eq]
  generalize (lg_sl ([.ref aC, .ref o_aC]) ++ List.replicate (2 - (lg_sl ([.ref aC, .ref o_aC])).length) Slot.unset).toArray = ls at hl ⊢
  have hl : lv_has ls 2 [(0, .ref aC), (1, .ref o_aC)] := hl
  unfold f_X0_become at hF
  refine lv_aload_n hx hb dX0_become_0 rfl (lv_at hl 0 rfl) ?_
  refine lv_aload_n hx hb dX0_become_1 rfl (lv_at hl 1 rfl) ?_
  refine va_get (D := (dC, dI)) (ci := 0) (v := .int v_o_words) (C := RX0) (T := TX0) (N := 9) hx hb hts inX0 hown hK hP 6 rfl rfl 0 (by decide) fl27 (fun _ h9 => h9) rfl dX0_become_2 ?_
  refine va_put (D := (dC, dI)) (ci := 0) (v := .int v_o_words) (ty := .int) (C := RX0) (T := TX0) (N := 9) hx hb hts inX0 tyX0 tyX0_ok nmX0 hown hK hP hD hS 0 rfl rfl 0 (by decide) fl27 (fun _ h9 => h9) rfl (by decide +kernel) rfl rfl (Nat.le_of_ble_eq_true rfl) dX0_become_5 (fun H locs hP hD hS => ?_)
  have hP : va_P (dC, dI) vwCl [(aC, .inr (0, [.int v_o_words, .int v_passages, .int v_wordsInPassage, .int v_rows, .ref a_letters, .ref a_passageOf, .ref a_cues, .ref a_rowOf, .ref a_firstOfRow])), (a_letters, .inl (cI, 120, .inl v_letters)), (a_passageOf, .inl (cI, 120, .inl v_passageOf)), (a_cues, .inl (cI, 120, .inl v_cues)), (a_rowOf, .inl (cI, 120, .inl v_rowOf)), (a_firstOfRow, .inl (cI, 120, .inl v_firstOfRow)), (o_aC, .inr (0, [.int v_o_words, .int v_o_passages, .int v_o_wordsInPassage, .int v_o_rows, .ref o_a_letters, .ref o_a_passageOf, .ref o_a_cues, .ref o_a_rowOf, .ref o_a_firstOfRow])), (o_a_letters, .inl (cI, 120, .inl v_o_letters)), (o_a_passageOf, .inl (cI, 120, .inl v_o_passageOf)), (o_a_cues, .inl (cI, 120, .inl v_o_cues)), (o_a_rowOf, .inl (cI, 120, .inl v_o_rowOf)), (o_a_firstOfRow, .inl (cI, 120, .inl v_o_firstOfRow))] H := hP
  have hD : va_D A [(aC, .inr (0, [.int v_o_words, .int v_passages, .int v_wordsInPassage, .int v_rows, .ref a_letters, .ref a_passageOf, .ref a_cues, .ref a_rowOf, .ref a_firstOfRow])), (a_letters, .inl (cI, 120, .inl v_letters)), (a_passageOf, .inl (cI, 120, .inl v_passageOf)), (a_cues, .inl (cI, 120, .inl v_cues)), (a_rowOf, .inl (cI, 120, .inl v_rowOf)), (a_firstOfRow, .inl (cI, 120, .inl v_firstOfRow)), (o_aC, .inr (0, [.int v_o_words, .int v_o_passages, .int v_o_wordsInPassage, .int v_o_rows, .ref o_a_letters, .ref o_a_passageOf, .ref o_a_cues, .ref o_a_rowOf, .ref o_a_firstOfRow])), (o_a_letters, .inl (cI, 120, .inl v_o_letters)), (o_a_passageOf, .inl (cI, 120, .inl v_o_passageOf)), (o_a_cues, .inl (cI, 120, .inl v_o_cues)), (o_a_rowOf, .inl (cI, 120, .inl v_o_rowOf)), (o_a_firstOfRow, .inl (cI, 120, .inl v_o_firstOfRow))] := hD
  refine lv_aload_n hx hb dX0_become_8 rfl (lv_at hl 0 rfl) ?_
  refine lv_aload_n hx hb dX0_become_9 rfl (lv_at hl 1 rfl) ?_
  refine va_get (D := (dC, dI)) (ci := 0) (v := .int v_o_passages) (C := RX0) (T := TX0) (N := 9) hx hb hts inX0 hown hK hP 6 rfl rfl 1 (by decide) fl31 (fun _ h9 => h9) rfl dX0_become_10 ?_
  refine va_put (D := (dC, dI)) (ci := 0) (v := .int v_o_passages) (ty := .int) (C := RX0) (T := TX0) (N := 9) hx hb hts inX0 tyX0 tyX0_ok nmX0 hown hK hP hD hS 0 rfl rfl 1 (by decide) fl31 (fun _ h9 => h9) rfl (by decide +kernel) rfl rfl (Nat.le_of_ble_eq_true rfl) dX0_become_13 (fun H locs hP hD hS => ?_)
  have hP : va_P (dC, dI) vwCl [(aC, .inr (0, [.int v_o_words, .int v_o_passages, .int v_wordsInPassage, .int v_rows, .ref a_letters, .ref a_passageOf, .ref a_cues, .ref a_rowOf, .ref a_firstOfRow])), (a_letters, .inl (cI, 120, .inl v_letters)), (a_passageOf, .inl (cI, 120, .inl v_passageOf)), (a_cues, .inl (cI, 120, .inl v_cues)), (a_rowOf, .inl (cI, 120, .inl v_rowOf)), (a_firstOfRow, .inl (cI, 120, .inl v_firstOfRow)), (o_aC, .inr (0, [.int v_o_words, .int v_o_passages, .int v_o_wordsInPassage, .int v_o_rows, .ref o_a_letters, .ref o_a_passageOf, .ref o_a_cues, .ref o_a_rowOf, .ref o_a_firstOfRow])), (o_a_letters, .inl (cI, 120, .inl v_o_letters)), (o_a_passageOf, .inl (cI, 120, .inl v_o_passageOf)), (o_a_cues, .inl (cI, 120, .inl v_o_cues)), (o_a_rowOf, .inl (cI, 120, .inl v_o_rowOf)), (o_a_firstOfRow, .inl (cI, 120, .inl v_o_firstOfRow))] H := hP
  have hD : va_D A [(aC, .inr (0, [.int v_o_words, .int v_o_passages, .int v_wordsInPassage, .int v_rows, .ref a_letters, .ref a_passageOf, .ref a_cues, .ref a_rowOf, .ref a_firstOfRow])), (a_letters, .inl (cI, 120, .inl v_letters)), (a_passageOf, .inl (cI, 120, .inl v_passageOf)), (a_cues, .inl (cI, 120, .inl v_cues)), (a_rowOf, .inl (cI, 120, .inl v_rowOf)), (a_firstOfRow, .inl (cI, 120, .inl v_firstOfRow)), (o_aC, .inr (0, [.int v_o_words, .int v_o_passages, .int v_o_wordsInPassage, .int v_o_rows, .ref o_a_letters, .ref o_a_passageOf, .ref o_a_cues, .ref o_a_rowOf, .ref o_a_firstOfRow])), (o_a_letters, .inl (cI, 120, .inl v_o_letters)), (o_a_passageOf, .inl (cI, 120, .inl v_o_passageOf)), (o_a_cues, .inl (cI, 120, .inl v_o_cues)), (o_a_rowOf, .inl (cI, 120, .inl v_o_rowOf)), (o_a_firstOfRow, .inl (cI, 120, .inl v_o_firstOfRow))] := hD
  refine lv_aload_n hx hb dX0_become_16 rfl (lv_at hl 0 rfl) ?_
  refine lv_aload_n hx hb dX0_become_17 rfl (lv_at hl 1 rfl) ?_
  refine va_get (D := (dC, dI)) (ci := 0) (v := .int v_o_wordsInPassage) (C := RX0) (T := TX0) (N := 9) hx hb hts inX0 hown hK hP 6 rfl rfl 2 (by decide) fl34 (fun _ h9 => h9) rfl dX0_become_18 ?_
  refine va_put (D := (dC, dI)) (ci := 0) (v := .int v_o_wordsInPassage) (ty := .int) (C := RX0) (T := TX0) (N := 9) hx hb hts inX0 tyX0 tyX0_ok nmX0 hown hK hP hD hS 0 rfl rfl 2 (by decide) fl34 (fun _ h9 => h9) rfl (by decide +kernel) rfl rfl (Nat.le_of_ble_eq_true rfl) dX0_become_21 (fun H locs hP hD hS => ?_)
  have hP : va_P (dC, dI) vwCl [(aC, .inr (0, [.int v_o_words, .int v_o_passages, .int v_o_wordsInPassage, .int v_rows, .ref a_letters, .ref a_passageOf, .ref a_cues, .ref a_rowOf, .ref a_firstOfRow])), (a_letters, .inl (cI, 120, .inl v_letters)), (a_passageOf, .inl (cI, 120, .inl v_passageOf)), (a_cues, .inl (cI, 120, .inl v_cues)), (a_rowOf, .inl (cI, 120, .inl v_rowOf)), (a_firstOfRow, .inl (cI, 120, .inl v_firstOfRow)), (o_aC, .inr (0, [.int v_o_words, .int v_o_passages, .int v_o_wordsInPassage, .int v_o_rows, .ref o_a_letters, .ref o_a_passageOf, .ref o_a_cues, .ref o_a_rowOf, .ref o_a_firstOfRow])), (o_a_letters, .inl (cI, 120, .inl v_o_letters)), (o_a_passageOf, .inl (cI, 120, .inl v_o_passageOf)), (o_a_cues, .inl (cI, 120, .inl v_o_cues)), (o_a_rowOf, .inl (cI, 120, .inl v_o_rowOf)), (o_a_firstOfRow, .inl (cI, 120, .inl v_o_firstOfRow))] H := hP
  have hD : va_D A [(aC, .inr (0, [.int v_o_words, .int v_o_passages, .int v_o_wordsInPassage, .int v_rows, .ref a_letters, .ref a_passageOf, .ref a_cues, .ref a_rowOf, .ref a_firstOfRow])), (a_letters, .inl (cI, 120, .inl v_letters)), (a_passageOf, .inl (cI, 120, .inl v_passageOf)), (a_cues, .inl (cI, 120, .inl v_cues)), (a_rowOf, .inl (cI, 120, .inl v_rowOf)), (a_firstOfRow, .inl (cI, 120, .inl v_firstOfRow)), (o_aC, .inr (0, [.int v_o_words, .int v_o_passages, .int v_o_wordsInPassage, .int v_o_rows, .ref o_a_letters, .ref o_a_passageOf, .ref o_a_cues, .ref o_a_rowOf, .ref o_a_firstOfRow])), (o_a_letters, .inl (cI, 120, .inl v_o_letters)), (o_a_passageOf, .inl (cI, 120, .inl v_o_passageOf)), (o_a_cues, .inl (cI, 120, .inl v_o_cues)), (o_a_rowOf, .inl (cI, 120, .inl v_o_rowOf)), (o_a_firstOfRow, .inl (cI, 120, .inl v_o_firstOfRow))] := hD
  refine lv_aload_n hx hb dX0_become_24 rfl (lv_at hl 0 rfl) ?_
  refine lv_aload_n hx hb dX0_become_25 rfl (lv_at hl 1 rfl) ?_
  refine va_get (D := (dC, dI)) (ci := 0) (v := .int v_o_rows) (C := RX0) (T := TX0) (N := 9) hx hb hts inX0 hown hK hP 6 rfl rfl 3 (by decide) fl37 (fun _ h9 => h9) rfl dX0_become_26 ?_
  refine va_put (D := (dC, dI)) (ci := 0) (v := .int v_o_rows) (ty := .int) (C := RX0) (T := TX0) (N := 9) hx hb hts inX0 tyX0 tyX0_ok nmX0 hown hK hP hD hS 0 rfl rfl 3 (by decide) fl37 (fun _ h9 => h9) rfl (by decide +kernel) rfl rfl (Nat.le_of_ble_eq_true rfl) dX0_become_29 (fun H locs hP hD hS => ?_)
  have hP : va_P (dC, dI) vwCl [(aC, .inr (0, [.int v_o_words, .int v_o_passages, .int v_o_wordsInPassage, .int v_o_rows, .ref a_letters, .ref a_passageOf, .ref a_cues, .ref a_rowOf, .ref a_firstOfRow])), (a_letters, .inl (cI, 120, .inl v_letters)), (a_passageOf, .inl (cI, 120, .inl v_passageOf)), (a_cues, .inl (cI, 120, .inl v_cues)), (a_rowOf, .inl (cI, 120, .inl v_rowOf)), (a_firstOfRow, .inl (cI, 120, .inl v_firstOfRow)), (o_aC, .inr (0, [.int v_o_words, .int v_o_passages, .int v_o_wordsInPassage, .int v_o_rows, .ref o_a_letters, .ref o_a_passageOf, .ref o_a_cues, .ref o_a_rowOf, .ref o_a_firstOfRow])), (o_a_letters, .inl (cI, 120, .inl v_o_letters)), (o_a_passageOf, .inl (cI, 120, .inl v_o_passageOf)), (o_a_cues, .inl (cI, 120, .inl v_o_cues)), (o_a_rowOf, .inl (cI, 120, .inl v_o_rowOf)), (o_a_firstOfRow, .inl (cI, 120, .inl v_o_firstOfRow))] H := hP
  have hD : va_D A [(aC, .inr (0, [.int v_o_words, .int v_o_passages, .int v_o_wordsInPassage, .int v_o_rows, .ref a_letters, .ref a_passageOf, .ref a_cues, .ref a_rowOf, .ref a_firstOfRow])), (a_letters, .inl (cI, 120, .inl v_letters)), (a_passageOf, .inl (cI, 120, .inl v_passageOf)), (a_cues, .inl (cI, 120, .inl v_cues)), (a_rowOf, .inl (cI, 120, .inl v_rowOf)), (a_firstOfRow, .inl (cI, 120, .inl v_firstOfRow)), (o_aC, .inr (0, [.int v_o_words, .int v_o_passages, .int v_o_wordsInPassage, .int v_o_rows, .ref o_a_letters, .ref o_a_passageOf, .ref o_a_cues, .ref o_a_rowOf, .ref o_a_firstOfRow])), (o_a_letters, .inl (cI, 120, .inl v_o_letters)), (o_a_passageOf, .inl (cI, 120, .inl v_o_passageOf)), (o_a_cues, .inl (cI, 120, .inl v_o_cues)), (o_a_rowOf, .inl (cI, 120, .inl v_o_rowOf)), (o_a_firstOfRow, .inl (cI, 120, .inl v_o_firstOfRow))] := hD
  refine lv_aload_n hx hb dX0_become_32 rfl (lv_at hl 1 rfl) ?_
  refine va_get (D := (dC, dI)) (ci := 0) (v := .ref o_a_letters) (C := RX0) (T := TX0) (N := 9) hx hb hts inX0 hown hK hP 6 rfl rfl 4 (by decide) fl9 (fun _ h9 => h9) rfl dX0_become_33 ?_
  refine lv_aload_n hx hb dX0_become_36 rfl (lv_at hl 0 rfl) ?_
  refine va_get (D := (dC, dI)) (ci := 0) (v := .ref a_letters) (C := RX0) (T := TX0) (N := 9) hx hb hts inX0 hown hK hP 0 rfl rfl 4 (by decide) fl9 (fun _ h9 => h9) rfl dX0_become_37 ?_
  obtain ⟨q_40, hq_40, hF⟩ := bindE hF
  have hPc := hP.sub (ws' := [(o_a_letters, .inl (cI, 120, .inl v_o_letters)), (a_letters, .inl (cI, 120, .inl v_letters))]) [7, 1] rfl
  have hDc := hD.sub (ws' := [(o_a_letters, .inl (cI, 120, .inl v_o_letters)), (a_letters, .inl (cI, 120, .inl v_letters))]) [7, 1] (by decide) rfl
  have hFc := va_free (wc := [(o_a_letters, .inl (cI, 120, .inl v_o_letters)), (a_letters, .inl (cI, 120, .inl v_letters))]) hD hS hA [7, 1] rfl
  refine va_callv (va_runSN (As := [.ref o_a_letters, .ref a_letters]) (rest := []) ⟨hx, hb, hml, hown, hts⟩ (c_X3_copyRow l dC dI cI cZ cO o_a_letters a_letters H.size 120 120 v_o_letters v_letters q_40 hq_40) ⟨(va_cnB 2 hts gX0_become_X3_copyRow_n40 rfl rfl rfl (NW_X0_40 hN) (hts (.initialized RX3) (by decide +kernel)) (by decide +kernel) ⟨Nat.le_of_ble_eq_true rfl, Nat.le_of_ble_eq_true rfl⟩), hts (.static yX3_copyRow) (by decide +kernel), trivial⟩ ⟨fb_wr, pre_wr hPc hK hN hDc⟩ rfl rfl hl.1 rfl (lv_room (Nat.le_of_ble_eq_true rfl)) dX0_become_40 ⟨Nat.zero_le _, Nat.zero_le _⟩) hS (fun q _ h => hFc q h) hFc (fun _ t H1 locs ht hvm hw hB hz1 hk1 hS => ?_)
  obtain ⟨hP1, hD1⟩ := hB
  rw [ht] at hP1
  obtain ⟨hP, hD⟩ := va_join (wr := [(aC, .inr (0, [.int v_o_words, .int v_o_passages, .int v_o_wordsInPassage, .int v_o_rows, .ref a_letters, .ref a_passageOf, .ref a_cues, .ref a_rowOf, .ref a_firstOfRow])), (a_passageOf, .inl (cI, 120, .inl v_passageOf)), (a_cues, .inl (cI, 120, .inl v_cues)), (a_rowOf, .inl (cI, 120, .inl v_rowOf)), (a_firstOfRow, .inl (cI, 120, .inl v_firstOfRow)), (o_aC, .inr (0, [.int v_o_words, .int v_o_passages, .int v_o_wordsInPassage, .int v_o_rows, .ref o_a_letters, .ref o_a_passageOf, .ref o_a_cues, .ref o_a_rowOf, .ref o_a_firstOfRow])), (o_a_passageOf, .inl (cI, 120, .inl v_o_passageOf)), (o_a_cues, .inl (cI, 120, .inl v_o_cues)), (o_a_rowOf, .inl (cI, 120, .inl v_o_rowOf)), (o_a_firstOfRow, .inl (cI, 120, .inl v_o_firstOfRow))]) (w1 := [(o_a_letters, .inl (cI, 120, .inl v_o_letters)), (a_letters, .inl (cI, 120, .inl q_40))]) hP hD [7, 1] [0, 2, 3, 4, 5, 6, 8, 9, 10, 11] rfl rfl (by decide) (by decide) hk1 hFc hP1 hD1
  generalize H1 = H at hP hS ⊢
  have hP : va_P (dC, dI) vwCl [(aC, .inr (0, [.int v_o_words, .int v_o_passages, .int v_o_wordsInPassage, .int v_o_rows, .ref a_letters, .ref a_passageOf, .ref a_cues, .ref a_rowOf, .ref a_firstOfRow])), (a_passageOf, .inl (cI, 120, .inl v_passageOf)), (a_cues, .inl (cI, 120, .inl v_cues)), (a_rowOf, .inl (cI, 120, .inl v_rowOf)), (a_firstOfRow, .inl (cI, 120, .inl v_firstOfRow)), (o_aC, .inr (0, [.int v_o_words, .int v_o_passages, .int v_o_wordsInPassage, .int v_o_rows, .ref o_a_letters, .ref o_a_passageOf, .ref o_a_cues, .ref o_a_rowOf, .ref o_a_firstOfRow])), (o_a_passageOf, .inl (cI, 120, .inl v_o_passageOf)), (o_a_cues, .inl (cI, 120, .inl v_o_cues)), (o_a_rowOf, .inl (cI, 120, .inl v_o_rowOf)), (o_a_firstOfRow, .inl (cI, 120, .inl v_o_firstOfRow)), (o_a_letters, .inl (cI, 120, .inl v_o_letters)), (a_letters, .inl (cI, 120, .inl q_40))] H := hP
  have hD : va_D A [(aC, .inr (0, [.int v_o_words, .int v_o_passages, .int v_o_wordsInPassage, .int v_o_rows, .ref a_letters, .ref a_passageOf, .ref a_cues, .ref a_rowOf, .ref a_firstOfRow])), (a_passageOf, .inl (cI, 120, .inl v_passageOf)), (a_cues, .inl (cI, 120, .inl v_cues)), (a_rowOf, .inl (cI, 120, .inl v_rowOf)), (a_firstOfRow, .inl (cI, 120, .inl v_firstOfRow)), (o_aC, .inr (0, [.int v_o_words, .int v_o_passages, .int v_o_wordsInPassage, .int v_o_rows, .ref o_a_letters, .ref o_a_passageOf, .ref o_a_cues, .ref o_a_rowOf, .ref o_a_firstOfRow])), (o_a_passageOf, .inl (cI, 120, .inl v_o_passageOf)), (o_a_cues, .inl (cI, 120, .inl v_o_cues)), (o_a_rowOf, .inl (cI, 120, .inl v_o_rowOf)), (o_a_firstOfRow, .inl (cI, 120, .inl v_o_firstOfRow)), (o_a_letters, .inl (cI, 120, .inl v_o_letters)), (a_letters, .inl (cI, 120, .inl q_40))] := hD
  refine lv_aload_n hx hb dX0_become_43 rfl (lv_at hl 1 rfl) ?_
  refine va_get (D := (dC, dI)) (ci := 0) (v := .ref o_a_passageOf) (C := RX0) (T := TX0) (N := 9) hx hb hts inX0 hown hK hP 5 rfl rfl 5 (by decide) fl15 (fun _ h9 => h9) rfl dX0_become_44 ?_
  refine lv_aload_n hx hb dX0_become_47 rfl (lv_at hl 0 rfl) ?_
  refine va_get (D := (dC, dI)) (ci := 0) (v := .ref a_passageOf) (C := RX0) (T := TX0) (N := 9) hx hb hts inX0 hown hK hP 0 rfl rfl 5 (by decide) fl15 (fun _ h9 => h9) rfl dX0_become_48 ?_
  obtain ⟨q_51, hq_51, hF⟩ := bindE hF
  have hPc := hP.sub (ws' := [(o_a_passageOf, .inl (cI, 120, .inl v_o_passageOf)), (a_passageOf, .inl (cI, 120, .inl v_passageOf))]) [6, 1] rfl
  have hDc := hD.sub (ws' := [(o_a_passageOf, .inl (cI, 120, .inl v_o_passageOf)), (a_passageOf, .inl (cI, 120, .inl v_passageOf))]) [6, 1] (by decide) rfl
  have hFc := va_free (wc := [(o_a_passageOf, .inl (cI, 120, .inl v_o_passageOf)), (a_passageOf, .inl (cI, 120, .inl v_passageOf))]) hD hS hA [6, 1] rfl
  refine va_callv (va_runSN (As := [.ref o_a_passageOf, .ref a_passageOf]) (rest := []) ⟨hx, hb, hml, hown, hts⟩ (c_X3_copyRow l dC dI cI cZ cO o_a_passageOf a_passageOf H.size 120 120 v_o_passageOf v_passageOf q_51 hq_51) ⟨(va_cnB 2 hts gX0_become_X3_copyRow_n40 rfl rfl rfl (NW_X0_40 hN) (hts (.initialized RX3) (by decide +kernel)) (by decide +kernel) ⟨Nat.le_of_ble_eq_true rfl, Nat.le_of_ble_eq_true rfl⟩), hts (.static yX3_copyRow) (by decide +kernel), trivial⟩ ⟨fb_wr, pre_wr hPc hK hN hDc⟩ rfl rfl hl.1 rfl (lv_room (Nat.le_of_ble_eq_true rfl)) dX0_become_51 ⟨Nat.zero_le _, Nat.zero_le _⟩) hS (fun q _ h => hFc q h) hFc (fun _ t H1 locs ht hvm hw hB hz1 hk1 hS => ?_)
  obtain ⟨hP1, hD1⟩ := hB
  rw [ht] at hP1
  obtain ⟨hP, hD⟩ := va_join (wr := [(aC, .inr (0, [.int v_o_words, .int v_o_passages, .int v_o_wordsInPassage, .int v_o_rows, .ref a_letters, .ref a_passageOf, .ref a_cues, .ref a_rowOf, .ref a_firstOfRow])), (a_cues, .inl (cI, 120, .inl v_cues)), (a_rowOf, .inl (cI, 120, .inl v_rowOf)), (a_firstOfRow, .inl (cI, 120, .inl v_firstOfRow)), (o_aC, .inr (0, [.int v_o_words, .int v_o_passages, .int v_o_wordsInPassage, .int v_o_rows, .ref o_a_letters, .ref o_a_passageOf, .ref o_a_cues, .ref o_a_rowOf, .ref o_a_firstOfRow])), (o_a_cues, .inl (cI, 120, .inl v_o_cues)), (o_a_rowOf, .inl (cI, 120, .inl v_o_rowOf)), (o_a_firstOfRow, .inl (cI, 120, .inl v_o_firstOfRow)), (o_a_letters, .inl (cI, 120, .inl v_o_letters)), (a_letters, .inl (cI, 120, .inl q_40))]) (w1 := [(o_a_passageOf, .inl (cI, 120, .inl v_o_passageOf)), (a_passageOf, .inl (cI, 120, .inl q_51))]) hP hD [6, 1] [0, 2, 3, 4, 5, 7, 8, 9, 10, 11] rfl rfl (by decide) (by decide) hk1 hFc hP1 hD1
  generalize H1 = H at hP hS ⊢
  have hP : va_P (dC, dI) vwCl [(aC, .inr (0, [.int v_o_words, .int v_o_passages, .int v_o_wordsInPassage, .int v_o_rows, .ref a_letters, .ref a_passageOf, .ref a_cues, .ref a_rowOf, .ref a_firstOfRow])), (a_cues, .inl (cI, 120, .inl v_cues)), (a_rowOf, .inl (cI, 120, .inl v_rowOf)), (a_firstOfRow, .inl (cI, 120, .inl v_firstOfRow)), (o_aC, .inr (0, [.int v_o_words, .int v_o_passages, .int v_o_wordsInPassage, .int v_o_rows, .ref o_a_letters, .ref o_a_passageOf, .ref o_a_cues, .ref o_a_rowOf, .ref o_a_firstOfRow])), (o_a_cues, .inl (cI, 120, .inl v_o_cues)), (o_a_rowOf, .inl (cI, 120, .inl v_o_rowOf)), (o_a_firstOfRow, .inl (cI, 120, .inl v_o_firstOfRow)), (o_a_letters, .inl (cI, 120, .inl v_o_letters)), (a_letters, .inl (cI, 120, .inl q_40)), (o_a_passageOf, .inl (cI, 120, .inl v_o_passageOf)), (a_passageOf, .inl (cI, 120, .inl q_51))] H := hP
  have hD : va_D A [(aC, .inr (0, [.int v_o_words, .int v_o_passages, .int v_o_wordsInPassage, .int v_o_rows, .ref a_letters, .ref a_passageOf, .ref a_cues, .ref a_rowOf, .ref a_firstOfRow])), (a_cues, .inl (cI, 120, .inl v_cues)), (a_rowOf, .inl (cI, 120, .inl v_rowOf)), (a_firstOfRow, .inl (cI, 120, .inl v_firstOfRow)), (o_aC, .inr (0, [.int v_o_words, .int v_o_passages, .int v_o_wordsInPassage, .int v_o_rows, .ref o_a_letters, .ref o_a_passageOf, .ref o_a_cues, .ref o_a_rowOf, .ref o_a_firstOfRow])), (o_a_cues, .inl (cI, 120, .inl v_o_cues)), (o_a_rowOf, .inl (cI, 120, .inl v_o_rowOf)), (o_a_firstOfRow, .inl (cI, 120, .inl v_o_firstOfRow)), (o_a_letters, .inl (cI, 120, .inl v_o_letters)), (a_letters, .inl (cI, 120, .inl q_40)), (o_a_passageOf, .inl (cI, 120, .inl v_o_passageOf)), (a_passageOf, .inl (cI, 120, .inl q_51))] := hD
  refine lv_aload_n hx hb dX0_become_54 rfl (lv_at hl 1 rfl) ?_
  refine va_get (D := (dC, dI)) (ci := 0) (v := .ref o_a_cues) (C := RX0) (T := TX0) (N := 9) hx hb hts inX0 hown hK hP 4 rfl rfl 6 (by decide) fl18 (fun _ h9 => h9) rfl dX0_become_55 ?_
  refine lv_aload_n hx hb dX0_become_58 rfl (lv_at hl 0 rfl) ?_
  refine va_get (D := (dC, dI)) (ci := 0) (v := .ref a_cues) (C := RX0) (T := TX0) (N := 9) hx hb hts inX0 hown hK hP 0 rfl rfl 6 (by decide) fl18 (fun _ h9 => h9) rfl dX0_become_59 ?_
  obtain ⟨q_62, hq_62, hF⟩ := bindE hF
  have hPc := hP.sub (ws' := [(o_a_cues, .inl (cI, 120, .inl v_o_cues)), (a_cues, .inl (cI, 120, .inl v_cues))]) [5, 1] rfl
  have hDc := hD.sub (ws' := [(o_a_cues, .inl (cI, 120, .inl v_o_cues)), (a_cues, .inl (cI, 120, .inl v_cues))]) [5, 1] (by decide) rfl
  have hFc := va_free (wc := [(o_a_cues, .inl (cI, 120, .inl v_o_cues)), (a_cues, .inl (cI, 120, .inl v_cues))]) hD hS hA [5, 1] rfl
  refine va_callv (va_runSN (As := [.ref o_a_cues, .ref a_cues]) (rest := []) ⟨hx, hb, hml, hown, hts⟩ (c_X3_copyRow l dC dI cI cZ cO o_a_cues a_cues H.size 120 120 v_o_cues v_cues q_62 hq_62) ⟨(va_cnB 2 hts gX0_become_X3_copyRow_n40 rfl rfl rfl (NW_X0_40 hN) (hts (.initialized RX3) (by decide +kernel)) (by decide +kernel) ⟨Nat.le_of_ble_eq_true rfl, Nat.le_of_ble_eq_true rfl⟩), hts (.static yX3_copyRow) (by decide +kernel), trivial⟩ ⟨fb_wr, pre_wr hPc hK hN hDc⟩ rfl rfl hl.1 rfl (lv_room (Nat.le_of_ble_eq_true rfl)) dX0_become_62 ⟨Nat.zero_le _, Nat.zero_le _⟩) hS (fun q _ h => hFc q h) hFc (fun _ t H1 locs ht hvm hw hB hz1 hk1 hS => ?_)
  obtain ⟨hP1, hD1⟩ := hB
  rw [ht] at hP1
  obtain ⟨hP, hD⟩ := va_join (wr := [(aC, .inr (0, [.int v_o_words, .int v_o_passages, .int v_o_wordsInPassage, .int v_o_rows, .ref a_letters, .ref a_passageOf, .ref a_cues, .ref a_rowOf, .ref a_firstOfRow])), (a_rowOf, .inl (cI, 120, .inl v_rowOf)), (a_firstOfRow, .inl (cI, 120, .inl v_firstOfRow)), (o_aC, .inr (0, [.int v_o_words, .int v_o_passages, .int v_o_wordsInPassage, .int v_o_rows, .ref o_a_letters, .ref o_a_passageOf, .ref o_a_cues, .ref o_a_rowOf, .ref o_a_firstOfRow])), (o_a_rowOf, .inl (cI, 120, .inl v_o_rowOf)), (o_a_firstOfRow, .inl (cI, 120, .inl v_o_firstOfRow)), (o_a_letters, .inl (cI, 120, .inl v_o_letters)), (a_letters, .inl (cI, 120, .inl q_40)), (o_a_passageOf, .inl (cI, 120, .inl v_o_passageOf)), (a_passageOf, .inl (cI, 120, .inl q_51))]) (w1 := [(o_a_cues, .inl (cI, 120, .inl v_o_cues)), (a_cues, .inl (cI, 120, .inl q_62))]) hP hD [5, 1] [0, 2, 3, 4, 6, 7, 8, 9, 10, 11] rfl rfl (by decide) (by decide) hk1 hFc hP1 hD1
  generalize H1 = H at hP hS ⊢
  have hP : va_P (dC, dI) vwCl [(aC, .inr (0, [.int v_o_words, .int v_o_passages, .int v_o_wordsInPassage, .int v_o_rows, .ref a_letters, .ref a_passageOf, .ref a_cues, .ref a_rowOf, .ref a_firstOfRow])), (a_rowOf, .inl (cI, 120, .inl v_rowOf)), (a_firstOfRow, .inl (cI, 120, .inl v_firstOfRow)), (o_aC, .inr (0, [.int v_o_words, .int v_o_passages, .int v_o_wordsInPassage, .int v_o_rows, .ref o_a_letters, .ref o_a_passageOf, .ref o_a_cues, .ref o_a_rowOf, .ref o_a_firstOfRow])), (o_a_rowOf, .inl (cI, 120, .inl v_o_rowOf)), (o_a_firstOfRow, .inl (cI, 120, .inl v_o_firstOfRow)), (o_a_letters, .inl (cI, 120, .inl v_o_letters)), (a_letters, .inl (cI, 120, .inl q_40)), (o_a_passageOf, .inl (cI, 120, .inl v_o_passageOf)), (a_passageOf, .inl (cI, 120, .inl q_51)), (o_a_cues, .inl (cI, 120, .inl v_o_cues)), (a_cues, .inl (cI, 120, .inl q_62))] H := hP
  have hD : va_D A [(aC, .inr (0, [.int v_o_words, .int v_o_passages, .int v_o_wordsInPassage, .int v_o_rows, .ref a_letters, .ref a_passageOf, .ref a_cues, .ref a_rowOf, .ref a_firstOfRow])), (a_rowOf, .inl (cI, 120, .inl v_rowOf)), (a_firstOfRow, .inl (cI, 120, .inl v_firstOfRow)), (o_aC, .inr (0, [.int v_o_words, .int v_o_passages, .int v_o_wordsInPassage, .int v_o_rows, .ref o_a_letters, .ref o_a_passageOf, .ref o_a_cues, .ref o_a_rowOf, .ref o_a_firstOfRow])), (o_a_rowOf, .inl (cI, 120, .inl v_o_rowOf)), (o_a_firstOfRow, .inl (cI, 120, .inl v_o_firstOfRow)), (o_a_letters, .inl (cI, 120, .inl v_o_letters)), (a_letters, .inl (cI, 120, .inl q_40)), (o_a_passageOf, .inl (cI, 120, .inl v_o_passageOf)), (a_passageOf, .inl (cI, 120, .inl q_51)), (o_a_cues, .inl (cI, 120, .inl v_o_cues)), (a_cues, .inl (cI, 120, .inl q_62))] := hD
  refine lv_aload_n hx hb dX0_become_65 rfl (lv_at hl 1 rfl) ?_
  refine va_get (D := (dC, dI)) (ci := 0) (v := .ref o_a_rowOf) (C := RX0) (T := TX0) (N := 9) hx hb hts inX0 hown hK hP 3 rfl rfl 7 (by decide) fl21 (fun _ h9 => h9) rfl dX0_become_66 ?_
  refine lv_aload_n hx hb dX0_become_69 rfl (lv_at hl 0 rfl) ?_
  refine va_get (D := (dC, dI)) (ci := 0) (v := .ref a_rowOf) (C := RX0) (T := TX0) (N := 9) hx hb hts inX0 hown hK hP 0 rfl rfl 7 (by decide) fl21 (fun _ h9 => h9) rfl dX0_become_70 ?_
  obtain ⟨q_73, hq_73, hF⟩ := bindE hF
  have hPc := hP.sub (ws' := [(o_a_rowOf, .inl (cI, 120, .inl v_o_rowOf)), (a_rowOf, .inl (cI, 120, .inl v_rowOf))]) [4, 1] rfl
  have hDc := hD.sub (ws' := [(o_a_rowOf, .inl (cI, 120, .inl v_o_rowOf)), (a_rowOf, .inl (cI, 120, .inl v_rowOf))]) [4, 1] (by decide) rfl
  have hFc := va_free (wc := [(o_a_rowOf, .inl (cI, 120, .inl v_o_rowOf)), (a_rowOf, .inl (cI, 120, .inl v_rowOf))]) hD hS hA [4, 1] rfl
  refine va_callv (va_runSN (As := [.ref o_a_rowOf, .ref a_rowOf]) (rest := []) ⟨hx, hb, hml, hown, hts⟩ (c_X3_copyRow l dC dI cI cZ cO o_a_rowOf a_rowOf H.size 120 120 v_o_rowOf v_rowOf q_73 hq_73) ⟨(va_cnB 2 hts gX0_become_X3_copyRow_n40 rfl rfl rfl (NW_X0_40 hN) (hts (.initialized RX3) (by decide +kernel)) (by decide +kernel) ⟨Nat.le_of_ble_eq_true rfl, Nat.le_of_ble_eq_true rfl⟩), hts (.static yX3_copyRow) (by decide +kernel), trivial⟩ ⟨fb_wr, pre_wr hPc hK hN hDc⟩ rfl rfl hl.1 rfl (lv_room (Nat.le_of_ble_eq_true rfl)) dX0_become_73 ⟨Nat.zero_le _, Nat.zero_le _⟩) hS (fun q _ h => hFc q h) hFc (fun _ t H1 locs ht hvm hw hB hz1 hk1 hS => ?_)
  obtain ⟨hP1, hD1⟩ := hB
  rw [ht] at hP1
  obtain ⟨hP, hD⟩ := va_join (wr := [(aC, .inr (0, [.int v_o_words, .int v_o_passages, .int v_o_wordsInPassage, .int v_o_rows, .ref a_letters, .ref a_passageOf, .ref a_cues, .ref a_rowOf, .ref a_firstOfRow])), (a_firstOfRow, .inl (cI, 120, .inl v_firstOfRow)), (o_aC, .inr (0, [.int v_o_words, .int v_o_passages, .int v_o_wordsInPassage, .int v_o_rows, .ref o_a_letters, .ref o_a_passageOf, .ref o_a_cues, .ref o_a_rowOf, .ref o_a_firstOfRow])), (o_a_firstOfRow, .inl (cI, 120, .inl v_o_firstOfRow)), (o_a_letters, .inl (cI, 120, .inl v_o_letters)), (a_letters, .inl (cI, 120, .inl q_40)), (o_a_passageOf, .inl (cI, 120, .inl v_o_passageOf)), (a_passageOf, .inl (cI, 120, .inl q_51)), (o_a_cues, .inl (cI, 120, .inl v_o_cues)), (a_cues, .inl (cI, 120, .inl q_62))]) (w1 := [(o_a_rowOf, .inl (cI, 120, .inl v_o_rowOf)), (a_rowOf, .inl (cI, 120, .inl q_73))]) hP hD [4, 1] [0, 2, 3, 5, 6, 7, 8, 9, 10, 11] rfl rfl (by decide) (by decide) hk1 hFc hP1 hD1
  generalize H1 = H at hP hS ⊢
  have hP : va_P (dC, dI) vwCl [(aC, .inr (0, [.int v_o_words, .int v_o_passages, .int v_o_wordsInPassage, .int v_o_rows, .ref a_letters, .ref a_passageOf, .ref a_cues, .ref a_rowOf, .ref a_firstOfRow])), (a_firstOfRow, .inl (cI, 120, .inl v_firstOfRow)), (o_aC, .inr (0, [.int v_o_words, .int v_o_passages, .int v_o_wordsInPassage, .int v_o_rows, .ref o_a_letters, .ref o_a_passageOf, .ref o_a_cues, .ref o_a_rowOf, .ref o_a_firstOfRow])), (o_a_firstOfRow, .inl (cI, 120, .inl v_o_firstOfRow)), (o_a_letters, .inl (cI, 120, .inl v_o_letters)), (a_letters, .inl (cI, 120, .inl q_40)), (o_a_passageOf, .inl (cI, 120, .inl v_o_passageOf)), (a_passageOf, .inl (cI, 120, .inl q_51)), (o_a_cues, .inl (cI, 120, .inl v_o_cues)), (a_cues, .inl (cI, 120, .inl q_62)), (o_a_rowOf, .inl (cI, 120, .inl v_o_rowOf)), (a_rowOf, .inl (cI, 120, .inl q_73))] H := hP
  have hD : va_D A [(aC, .inr (0, [.int v_o_words, .int v_o_passages, .int v_o_wordsInPassage, .int v_o_rows, .ref a_letters, .ref a_passageOf, .ref a_cues, .ref a_rowOf, .ref a_firstOfRow])), (a_firstOfRow, .inl (cI, 120, .inl v_firstOfRow)), (o_aC, .inr (0, [.int v_o_words, .int v_o_passages, .int v_o_wordsInPassage, .int v_o_rows, .ref o_a_letters, .ref o_a_passageOf, .ref o_a_cues, .ref o_a_rowOf, .ref o_a_firstOfRow])), (o_a_firstOfRow, .inl (cI, 120, .inl v_o_firstOfRow)), (o_a_letters, .inl (cI, 120, .inl v_o_letters)), (a_letters, .inl (cI, 120, .inl q_40)), (o_a_passageOf, .inl (cI, 120, .inl v_o_passageOf)), (a_passageOf, .inl (cI, 120, .inl q_51)), (o_a_cues, .inl (cI, 120, .inl v_o_cues)), (a_cues, .inl (cI, 120, .inl q_62)), (o_a_rowOf, .inl (cI, 120, .inl v_o_rowOf)), (a_rowOf, .inl (cI, 120, .inl q_73))] := hD
  refine lv_aload_n hx hb dX0_become_76 rfl (lv_at hl 1 rfl) ?_
  refine va_get (D := (dC, dI)) (ci := 0) (v := .ref o_a_firstOfRow) (C := RX0) (T := TX0) (N := 9) hx hb hts inX0 hown hK hP 2 rfl rfl 8 (by decide) fl24 (fun _ h9 => h9) rfl dX0_become_77 ?_
  refine lv_aload_n hx hb dX0_become_80 rfl (lv_at hl 0 rfl) ?_
  refine va_get (D := (dC, dI)) (ci := 0) (v := .ref a_firstOfRow) (C := RX0) (T := TX0) (N := 9) hx hb hts inX0 hown hK hP 0 rfl rfl 8 (by decide) fl24 (fun _ h9 => h9) rfl dX0_become_81 ?_
  obtain ⟨q_84, hq_84, hF⟩ := bindE hF
  have hPc := hP.sub (ws' := [(o_a_firstOfRow, .inl (cI, 120, .inl v_o_firstOfRow)), (a_firstOfRow, .inl (cI, 120, .inl v_firstOfRow))]) [3, 1] rfl
  have hDc := hD.sub (ws' := [(o_a_firstOfRow, .inl (cI, 120, .inl v_o_firstOfRow)), (a_firstOfRow, .inl (cI, 120, .inl v_firstOfRow))]) [3, 1] (by decide) rfl
  have hFc := va_free (wc := [(o_a_firstOfRow, .inl (cI, 120, .inl v_o_firstOfRow)), (a_firstOfRow, .inl (cI, 120, .inl v_firstOfRow))]) hD hS hA [3, 1] rfl
  refine va_callv (va_runSN (As := [.ref o_a_firstOfRow, .ref a_firstOfRow]) (rest := []) ⟨hx, hb, hml, hown, hts⟩ (c_X3_copyRow l dC dI cI cZ cO o_a_firstOfRow a_firstOfRow H.size 120 120 v_o_firstOfRow v_firstOfRow q_84 hq_84) ⟨(va_cnB 2 hts gX0_become_X3_copyRow_n40 rfl rfl rfl (NW_X0_40 hN) (hts (.initialized RX3) (by decide +kernel)) (by decide +kernel) ⟨Nat.le_of_ble_eq_true rfl, Nat.le_of_ble_eq_true rfl⟩), hts (.static yX3_copyRow) (by decide +kernel), trivial⟩ ⟨fb_wr, pre_wr hPc hK hN hDc⟩ rfl rfl hl.1 rfl (lv_room (Nat.le_of_ble_eq_true rfl)) dX0_become_84 ⟨Nat.zero_le _, Nat.zero_le _⟩) hS (fun q _ h => hFc q h) hFc (fun _ t H1 locs ht hvm hw hB hz1 hk1 hS => ?_)
  obtain ⟨hP1, hD1⟩ := hB
  rw [ht] at hP1
  obtain ⟨hP, hD⟩ := va_join (wr := [(aC, .inr (0, [.int v_o_words, .int v_o_passages, .int v_o_wordsInPassage, .int v_o_rows, .ref a_letters, .ref a_passageOf, .ref a_cues, .ref a_rowOf, .ref a_firstOfRow])), (o_aC, .inr (0, [.int v_o_words, .int v_o_passages, .int v_o_wordsInPassage, .int v_o_rows, .ref o_a_letters, .ref o_a_passageOf, .ref o_a_cues, .ref o_a_rowOf, .ref o_a_firstOfRow])), (o_a_letters, .inl (cI, 120, .inl v_o_letters)), (a_letters, .inl (cI, 120, .inl q_40)), (o_a_passageOf, .inl (cI, 120, .inl v_o_passageOf)), (a_passageOf, .inl (cI, 120, .inl q_51)), (o_a_cues, .inl (cI, 120, .inl v_o_cues)), (a_cues, .inl (cI, 120, .inl q_62)), (o_a_rowOf, .inl (cI, 120, .inl v_o_rowOf)), (a_rowOf, .inl (cI, 120, .inl q_73))]) (w1 := [(o_a_firstOfRow, .inl (cI, 120, .inl v_o_firstOfRow)), (a_firstOfRow, .inl (cI, 120, .inl q_84))]) hP hD [3, 1] [0, 2, 4, 5, 6, 7, 8, 9, 10, 11] rfl rfl (by decide) (by decide) hk1 hFc hP1 hD1
  generalize H1 = H at hP hS ⊢
  have hP : va_P (dC, dI) vwCl [(aC, .inr (0, [.int v_o_words, .int v_o_passages, .int v_o_wordsInPassage, .int v_o_rows, .ref a_letters, .ref a_passageOf, .ref a_cues, .ref a_rowOf, .ref a_firstOfRow])), (o_aC, .inr (0, [.int v_o_words, .int v_o_passages, .int v_o_wordsInPassage, .int v_o_rows, .ref o_a_letters, .ref o_a_passageOf, .ref o_a_cues, .ref o_a_rowOf, .ref o_a_firstOfRow])), (o_a_letters, .inl (cI, 120, .inl v_o_letters)), (a_letters, .inl (cI, 120, .inl q_40)), (o_a_passageOf, .inl (cI, 120, .inl v_o_passageOf)), (a_passageOf, .inl (cI, 120, .inl q_51)), (o_a_cues, .inl (cI, 120, .inl v_o_cues)), (a_cues, .inl (cI, 120, .inl q_62)), (o_a_rowOf, .inl (cI, 120, .inl v_o_rowOf)), (a_rowOf, .inl (cI, 120, .inl q_73)), (o_a_firstOfRow, .inl (cI, 120, .inl v_o_firstOfRow)), (a_firstOfRow, .inl (cI, 120, .inl q_84))] H := hP
  have hD : va_D A [(aC, .inr (0, [.int v_o_words, .int v_o_passages, .int v_o_wordsInPassage, .int v_o_rows, .ref a_letters, .ref a_passageOf, .ref a_cues, .ref a_rowOf, .ref a_firstOfRow])), (o_aC, .inr (0, [.int v_o_words, .int v_o_passages, .int v_o_wordsInPassage, .int v_o_rows, .ref o_a_letters, .ref o_a_passageOf, .ref o_a_cues, .ref o_a_rowOf, .ref o_a_firstOfRow])), (o_a_letters, .inl (cI, 120, .inl v_o_letters)), (a_letters, .inl (cI, 120, .inl q_40)), (o_a_passageOf, .inl (cI, 120, .inl v_o_passageOf)), (a_passageOf, .inl (cI, 120, .inl q_51)), (o_a_cues, .inl (cI, 120, .inl v_o_cues)), (a_cues, .inl (cI, 120, .inl q_62)), (o_a_rowOf, .inl (cI, 120, .inl v_o_rowOf)), (a_rowOf, .inl (cI, 120, .inl q_73)), (o_a_firstOfRow, .inl (cI, 120, .inl v_o_firstOfRow)), (a_firstOfRow, .inl (cI, 120, .inl q_84))] := hD
  have hF : some (v_o_words, v_o_passages, v_o_wordsInPassage, v_o_rows, q_40, q_51, q_62, q_73, q_84) = some (o_words, o_passages, o_wordsInPassage, o_rows, o_letters, o_passageOf, o_cues, o_rowOf, o_firstOfRow) := hF
  have hP9 := hP.sub (ws' := [(aC, .inr (0, [.int v_o_words, .int v_o_passages, .int v_o_wordsInPassage, .int v_o_rows, .ref a_letters, .ref a_passageOf, .ref a_cues, .ref a_rowOf, .ref a_firstOfRow])), (a_letters, .inl (cI, 120, .inl q_40)), (a_passageOf, .inl (cI, 120, .inl q_51)), (a_cues, .inl (cI, 120, .inl q_62)), (a_rowOf, .inl (cI, 120, .inl q_73)), (a_firstOfRow, .inl (cI, 120, .inl q_84)), (o_aC, .inr (0, [.int v_o_words, .int v_o_passages, .int v_o_wordsInPassage, .int v_o_rows, .ref o_a_letters, .ref o_a_passageOf, .ref o_a_cues, .ref o_a_rowOf, .ref o_a_firstOfRow])), (o_a_letters, .inl (cI, 120, .inl v_o_letters)), (o_a_passageOf, .inl (cI, 120, .inl v_o_passageOf)), (o_a_cues, .inl (cI, 120, .inl v_o_cues)), (o_a_rowOf, .inl (cI, 120, .inl v_o_rowOf)), (o_a_firstOfRow, .inl (cI, 120, .inl v_o_firstOfRow))]) [0, 3, 5, 7, 9, 11, 1, 2, 4, 6, 8, 10] rfl
  have hD9 := hD.sub (ws' := [(aC, .inr (0, [.int v_o_words, .int v_o_passages, .int v_o_wordsInPassage, .int v_o_rows, .ref a_letters, .ref a_passageOf, .ref a_cues, .ref a_rowOf, .ref a_firstOfRow])), (a_letters, .inl (cI, 120, .inl q_40)), (a_passageOf, .inl (cI, 120, .inl q_51)), (a_cues, .inl (cI, 120, .inl q_62)), (a_rowOf, .inl (cI, 120, .inl q_73)), (a_firstOfRow, .inl (cI, 120, .inl q_84)), (o_aC, .inr (0, [.int v_o_words, .int v_o_passages, .int v_o_wordsInPassage, .int v_o_rows, .ref o_a_letters, .ref o_a_passageOf, .ref o_a_cues, .ref o_a_rowOf, .ref o_a_firstOfRow])), (o_a_letters, .inl (cI, 120, .inl v_o_letters)), (o_a_passageOf, .inl (cI, 120, .inl v_o_passageOf)), (o_a_cues, .inl (cI, 120, .inl v_o_cues)), (o_a_rowOf, .inl (cI, 120, .inl v_o_rowOf)), (o_a_firstOfRow, .inl (cI, 120, .inl v_o_firstOfRow))]) [0, 3, 5, 7, 9, 11, 1, 2, 4, 6, 8, 10] (by decide) rfl
  cases hF
  subst hQ
  subst hAe
  exact W.vret hx hb hr (fun t ht hW => ⟨⟨(), rfl, trivial, ⟨by rw [ht]; exact hP9, hD9⟩⟩, hS.F ht⟩) hS.2.2 dX0_become_87
def f_X0_empty (v_words : Int32) (v_passages : Int32) (v_wordsInPassage : Int32) : Option (Int32 × Int32 × Int32) :=
  some ((0 : Int32), (1 : Int32), (0 : Int32))
def rm_X0_empty : Room := { frames := 0, cells := 0, slots := 0, locals := 0 }
set_option maxHeartbeats 4000000 in
set_option maxRecDepth 100000 in
theorem c_X0_empty (l : Launch) (dC : Nat → ClassId) (dI : Nat → Nat → Nat) (cI cZ cO : ClassId) (aC a_letters a_passageOf a_cues a_rowOf a_firstOfRow : Nat) (sz : Nat) (v_words : Int32) (v_passages : Int32) (v_wordsInPassage : Int32) (v_rows : Int32) (v_letters : (Nat → Int32)) (v_passageOf : (Nat → Int32)) (v_cues : (Nat → Int32)) (v_rowOf : (Nat → Int32)) (v_firstOfRow : (Nat → Int32)) (o_words : Int32) (o_passages : Int32) (o_wordsInPassage : Int32) (hF : f_X0_empty v_words v_passages v_wordsInPassage = some (o_words, o_passages, o_wordsInPassage)) : Met l yX0_empty wsX0_empty rm_X0_empty (va_Pc [.ref aC] (wrW dC dI cI cZ cO sz [(aC, .inr (0, [.int v_words, .int v_passages, .int v_wordsInPassage, .int v_rows, .ref a_letters, .ref a_passageOf, .ref a_cues, .ref a_rowOf, .ref a_firstOfRow])), (a_letters, .inl (cI, 120, .inl v_letters)), (a_passageOf, .inl (cI, 120, .inl v_passageOf)), (a_cues, .inl (cI, 120, .inl v_cues)), (a_rowOf, .inl (cI, 120, .inl v_rowOf)), (a_firstOfRow, .inl (cI, 120, .inl v_firstOfRow))])) (va_Qv (fun (_ : Unit) => True) (wrE dC dI [(aC, .inr (0, [.int v_words, .int v_passages, .int v_wordsInPassage, .int v_rows, .ref a_letters, .ref a_passageOf, .ref a_cues, .ref a_rowOf, .ref a_firstOfRow])), (a_letters, .inl (cI, 120, .inl v_letters)), (a_passageOf, .inl (cI, 120, .inl v_passageOf)), (a_cues, .inl (cI, 120, .inl v_cues)), (a_rowOf, .inl (cI, 120, .inl v_rowOf)), (a_firstOfRow, .inl (cI, 120, .inl v_firstOfRow))] sz [(aC, .inr (0, [.int o_words, .int o_passages, .int o_wordsInPassage, .int v_rows, .ref a_letters, .ref a_passageOf, .ref a_cues, .ref a_rowOf, .ref a_firstOfRow])), (a_letters, .inl (cI, 120, .inl v_letters)), (a_passageOf, .inl (cI, 120, .inl v_passageOf)), (a_cues, .inl (cI, 120, .inl v_cues)), (a_rowOf, .inl (cI, 120, .inl v_rowOf)), (a_firstOfRow, .inl (cI, 120, .inl v_firstOfRow))]) (va_A [(aC, .inr (0, [.int v_words, .int v_passages, .int v_wordsInPassage, .int v_rows, .ref a_letters, .ref a_passageOf, .ref a_cues, .ref a_rowOf, .ref a_firstOfRow])), (a_letters, .inl (cI, 120, .inl v_letters)), (a_passageOf, .inl (cI, 120, .inl v_passageOf)), (a_cues, .inl (cI, 120, .inl v_cues)), (a_rowOf, .inl (cI, 120, .inl v_rowOf)), (a_firstOfRow, .inl (cI, 120, .inl v_firstOfRow))] sz)) 0 0 (va_A [(aC, .inr (0, [.int v_words, .int v_passages, .int v_wordsInPassage, .int v_rows, .ref a_letters, .ref a_passageOf, .ref a_cues, .ref a_rowOf, .ref a_firstOfRow])), (a_letters, .inl (cI, 120, .inl v_letters)), (a_passageOf, .inl (cI, 120, .inl v_passageOf)), (a_cues, .inl (cI, 120, .inl v_cues)), (a_rowOf, .inl (cI, 120, .inl v_rowOf)), (a_firstOfRow, .inl (cI, 120, .inl v_firstOfRow))] sz) := by
  refine Met.ofW (cc := cX0_empty) (maxL := 1) (ret := none) (by decide) rfl ?_
  intro p e s m args below meth c s₁ B hml hv
  obtain ⟨rfl, hsz, hP, hK, hN, hD0⟩ := hv
  have hx := B.exec
  have hb := B.bytes
  have hr := B.returns
  have hts := atoms_spec (ws := wsX0_empty) B.pre
  have hown : s.vm.findClass RX0 = some m.cls := findClass_of_methodNamed B.named
  have hlocks := B.notSynchronized
  subst hsz
  have hD := hD0.self (sz := s.heap.size)
  obtain ⟨Q, hQ⟩ : ∃ Q, Q = MQ below (va_Qv (fun (_ : Unit) => True) (wrE dC dI [(aC, .inr (0, [.int v_words, .int v_passages, .int v_wordsInPassage, .int v_rows, .ref a_letters, .ref a_passageOf, .ref a_cues, .ref a_rowOf, .ref a_firstOfRow])), (a_letters, .inl (cI, 120, .inl v_letters)), (a_passageOf, .inl (cI, 120, .inl v_passageOf)), (a_cues, .inl (cI, 120, .inl v_cues)), (a_rowOf, .inl (cI, 120, .inl v_rowOf)), (a_firstOfRow, .inl (cI, 120, .inl v_firstOfRow))] s.heap.size [(aC, .inr (0, [.int o_words, .int o_passages, .int o_wordsInPassage, .int v_rows, .ref a_letters, .ref a_passageOf, .ref a_cues, .ref a_rowOf, .ref a_firstOfRow])), (a_letters, .inl (cI, 120, .inl v_letters)), (a_passageOf, .inl (cI, 120, .inl v_passageOf)), (a_cues, .inl (cI, 120, .inl v_cues)), (a_rowOf, .inl (cI, 120, .inl v_rowOf)), (a_firstOfRow, .inl (cI, 120, .inl v_firstOfRow))]) (va_A [(aC, .inr (0, [.int v_words, .int v_passages, .int v_wordsInPassage, .int v_rows, .ref a_letters, .ref a_passageOf, .ref a_cues, .ref a_rowOf, .ref a_firstOfRow])), (a_letters, .inl (cI, 120, .inl v_letters)), (a_passageOf, .inl (cI, 120, .inl v_passageOf)), (a_cues, .inl (cI, 120, .inl v_cues)), (a_rowOf, .inl (cI, 120, .inl v_rowOf)), (a_firstOfRow, .inl (cI, 120, .inl v_firstOfRow))] s.heap.size)) ([.ref aC] : List Value).toArray s 0 0 (va_A [(aC, .inr (0, [.int v_words, .int v_passages, .int v_wordsInPassage, .int v_rows, .ref a_letters, .ref a_passageOf, .ref a_cues, .ref a_rowOf, .ref a_firstOfRow])), (a_letters, .inl (cI, 120, .inl v_letters)), (a_passageOf, .inl (cI, 120, .inl v_passageOf)), (a_cues, .inl (cI, 120, .inl v_cues)), (a_rowOf, .inl (cI, 120, .inl v_rowOf)), (a_firstOfRow, .inl (cI, 120, .inl v_firstOfRow))] s.heap.size) := ⟨_, rfl⟩
  rw [← hQ]
  obtain ⟨A, hAe⟩ : ∃ A, A = va_A [(aC, .inr (0, [.int v_words, .int v_passages, .int v_wordsInPassage, .int v_rows, .ref a_letters, .ref a_passageOf, .ref a_cues, .ref a_rowOf, .ref a_firstOfRow])), (a_letters, .inl (cI, 120, .inl v_letters)), (a_passageOf, .inl (cI, 120, .inl v_passageOf)), (a_cues, .inl (cI, 120, .inl v_cues)), (a_rowOf, .inl (cI, 120, .inl v_rowOf)), (a_firstOfRow, .inl (cI, 120, .inl v_firstOfRow))] s.heap.size := ⟨_, rfl⟩
  rw [← hAe] at hD
  have hA : ∀ q : Nat, s.heap.size ≤ q → A q := fun q h => by rw [hAe]; exact Or.inr h
  obtain ⟨H, hH⟩ : ∃ H, H = s.heap := ⟨_, rfl⟩
  have hS : va_S A s.heap H [] := by rw [hH]; exact va_S.rf
  rw [← hH] at hP
  rw [← hH]
  have fl27 := hts (.fieldLink RX0 27 "Teleprompter$Script" "words" "I") (by decide +kernel)
  have fl31 := hts (.fieldLink RX0 31 "Teleprompter$Script" "passages" "I") (by decide +kernel)
  have fl34 := hts (.fieldLink RX0 34 "Teleprompter$Script" "wordsInPassage" "I") (by decide +kernel)
  have inX0 : ∀ w ∈ u_ws RX0 TX0 9, w ∈ wsX0_empty := by decide +kernel
  have hl := lv_entry ([.ref aC]) (n := 1) (Nat.le_of_ble_eq_true rfl)
  rw [lg_entry_eq]
  generalize (lg_sl ([.ref aC]) ++ List.replicate (1 - (lg_sl ([.ref aC])).length) Slot.unset).toArray = ls at hl ⊢
  have hl : lv_has ls 1 [(0, .ref aC)] := hl
  unfold f_X0_empty at hF
  refine lv_aload_n hx hb dX0_empty_0 rfl (lv_at hl 0 rfl) ?_
  refine lv_iconst (v := (0 : Int32)) hx hb dX0_empty_1 (by decide) ?_
  refine va_put (D := (dC, dI)) (ci := 0) (v := .int (0 : Int32)) (ty := .int) (C := RX0) (T := TX0) (N := 9) hx hb hts inX0 tyX0 tyX0_ok nmX0 hown hK hP hD hS 0 rfl rfl 0 (by decide) fl27 (fun _ h9 => h9) rfl (by decide +kernel) rfl rfl (Nat.le_of_ble_eq_true rfl) dX0_empty_2 (fun H locs hP hD hS => ?_)
  have hP : va_P (dC, dI) vwCl [(aC, .inr (0, [.int (0 : Int32), .int v_passages, .int v_wordsInPassage, .int v_rows, .ref a_letters, .ref a_passageOf, .ref a_cues, .ref a_rowOf, .ref a_firstOfRow])), (a_letters, .inl (cI, 120, .inl v_letters)), (a_passageOf, .inl (cI, 120, .inl v_passageOf)), (a_cues, .inl (cI, 120, .inl v_cues)), (a_rowOf, .inl (cI, 120, .inl v_rowOf)), (a_firstOfRow, .inl (cI, 120, .inl v_firstOfRow))] H := hP
  have hD : va_D A [(aC, .inr (0, [.int (0 : Int32), .int v_passages, .int v_wordsInPassage, .int v_rows, .ref a_letters, .ref a_passageOf, .ref a_cues, .ref a_rowOf, .ref a_firstOfRow])), (a_letters, .inl (cI, 120, .inl v_letters)), (a_passageOf, .inl (cI, 120, .inl v_passageOf)), (a_cues, .inl (cI, 120, .inl v_cues)), (a_rowOf, .inl (cI, 120, .inl v_rowOf)), (a_firstOfRow, .inl (cI, 120, .inl v_firstOfRow))] := hD
  refine lv_aload_n hx hb dX0_empty_5 rfl (lv_at hl 0 rfl) ?_
  refine lv_iconst (v := (1 : Int32)) hx hb dX0_empty_6 (by decide) ?_
  refine va_put (D := (dC, dI)) (ci := 0) (v := .int (1 : Int32)) (ty := .int) (C := RX0) (T := TX0) (N := 9) hx hb hts inX0 tyX0 tyX0_ok nmX0 hown hK hP hD hS 0 rfl rfl 1 (by decide) fl31 (fun _ h9 => h9) rfl (by decide +kernel) rfl rfl (Nat.le_of_ble_eq_true rfl) dX0_empty_7 (fun H locs hP hD hS => ?_)
  have hP : va_P (dC, dI) vwCl [(aC, .inr (0, [.int (0 : Int32), .int (1 : Int32), .int v_wordsInPassage, .int v_rows, .ref a_letters, .ref a_passageOf, .ref a_cues, .ref a_rowOf, .ref a_firstOfRow])), (a_letters, .inl (cI, 120, .inl v_letters)), (a_passageOf, .inl (cI, 120, .inl v_passageOf)), (a_cues, .inl (cI, 120, .inl v_cues)), (a_rowOf, .inl (cI, 120, .inl v_rowOf)), (a_firstOfRow, .inl (cI, 120, .inl v_firstOfRow))] H := hP
  have hD : va_D A [(aC, .inr (0, [.int (0 : Int32), .int (1 : Int32), .int v_wordsInPassage, .int v_rows, .ref a_letters, .ref a_passageOf, .ref a_cues, .ref a_rowOf, .ref a_firstOfRow])), (a_letters, .inl (cI, 120, .inl v_letters)), (a_passageOf, .inl (cI, 120, .inl v_passageOf)), (a_cues, .inl (cI, 120, .inl v_cues)), (a_rowOf, .inl (cI, 120, .inl v_rowOf)), (a_firstOfRow, .inl (cI, 120, .inl v_firstOfRow))] := hD
  refine lv_aload_n hx hb dX0_empty_10 rfl (lv_at hl 0 rfl) ?_
  refine lv_iconst (v := (0 : Int32)) hx hb dX0_empty_11 (by decide) ?_
  refine va_put (D := (dC, dI)) (ci := 0) (v := .int (0 : Int32)) (ty := .int) (C := RX0) (T := TX0) (N := 9) hx hb hts inX0 tyX0 tyX0_ok nmX0 hown hK hP hD hS 0 rfl rfl 2 (by decide) fl34 (fun _ h9 => h9) rfl (by decide +kernel) rfl rfl (Nat.le_of_ble_eq_true rfl) dX0_empty_12 (fun H locs hP hD hS => ?_)
  have hP : va_P (dC, dI) vwCl [(aC, .inr (0, [.int (0 : Int32), .int (1 : Int32), .int (0 : Int32), .int v_rows, .ref a_letters, .ref a_passageOf, .ref a_cues, .ref a_rowOf, .ref a_firstOfRow])), (a_letters, .inl (cI, 120, .inl v_letters)), (a_passageOf, .inl (cI, 120, .inl v_passageOf)), (a_cues, .inl (cI, 120, .inl v_cues)), (a_rowOf, .inl (cI, 120, .inl v_rowOf)), (a_firstOfRow, .inl (cI, 120, .inl v_firstOfRow))] H := hP
  have hD : va_D A [(aC, .inr (0, [.int (0 : Int32), .int (1 : Int32), .int (0 : Int32), .int v_rows, .ref a_letters, .ref a_passageOf, .ref a_cues, .ref a_rowOf, .ref a_firstOfRow])), (a_letters, .inl (cI, 120, .inl v_letters)), (a_passageOf, .inl (cI, 120, .inl v_passageOf)), (a_cues, .inl (cI, 120, .inl v_cues)), (a_rowOf, .inl (cI, 120, .inl v_rowOf)), (a_firstOfRow, .inl (cI, 120, .inl v_firstOfRow))] := hD
  have hF : some ((0 : Int32), (1 : Int32), (0 : Int32)) = some (o_words, o_passages, o_wordsInPassage) := hF
  have hP9 := hP
  have hD9 := hD
  cases hF
  subst hQ
  subst hAe
  exact W.vret hx hb hr (fun t ht hW => ⟨⟨(), rfl, trivial, ⟨by rw [ht]; exact hP9, hD9⟩⟩, hS.F ht⟩) hS.2.2 dX0_empty_15
def f_X0_append (p1 : Int32) (v_words : Int32) (v_passages : Int32) (v_wordsInPassage : Int32) (v_letters : (Nat → Int32)) (v_passageOf : (Nat → Int32)) (v_cues : (Nat → Int32)) : Option (Int32 × Int32 × Int32 × (Nat → Int32) × (Nat → Int32) × (Nat → Int32)) :=
  if v_words < (120 : Int32) then
    (f_X3_put 120 v_words p1 v_letters).bind fun q20 =>
    (f_X3_put 120 v_words (v_passages - (1 : Int32)) v_passageOf).bind fun q37 =>
    (f_X3_put 120 v_words (0 : Int32) v_cues).bind fun q49 =>
    some ((0 : Int32), (v_words + (1 : Int32)), (v_wordsInPassage + (1 : Int32)), q20, q37, q49)
  else
    some ((4 : Int32), v_words, v_wordsInPassage, v_letters, v_passageOf, v_cues)
def rm_X0_append : Room := { frames := 1, cells := 0, slots := 0, locals := 22 }
set_option maxHeartbeats 4000000 in
set_option maxRecDepth 100000 in
theorem c_X0_append (l : Launch) (dC : Nat → ClassId) (dI : Nat → Nat → Nat) (cI cZ cO : ClassId) (aC a_letters a_passageOf a_cues a_rowOf a_firstOfRow : Nat) (sz : Nat) (p1 : Int32) (v_words : Int32) (v_passages : Int32) (v_wordsInPassage : Int32) (v_rows : Int32) (v_letters : (Nat → Int32)) (v_passageOf : (Nat → Int32)) (v_cues : (Nat → Int32)) (v_rowOf : (Nat → Int32)) (v_firstOfRow : (Nat → Int32)) (r : Int32) (o_words : Int32) (o_wordsInPassage : Int32) (o_letters : (Nat → Int32)) (o_passageOf : (Nat → Int32)) (o_cues : (Nat → Int32)) (hF : f_X0_append p1 v_words v_passages v_wordsInPassage v_letters v_passageOf v_cues = some (r, o_words, o_wordsInPassage, o_letters, o_passageOf, o_cues)) : Met l yX0_append wsX0_append rm_X0_append (va_Pc [.ref aC, .int p1] (wrW dC dI cI cZ cO sz [(aC, .inr (0, [.int v_words, .int v_passages, .int v_wordsInPassage, .int v_rows, .ref a_letters, .ref a_passageOf, .ref a_cues, .ref a_rowOf, .ref a_firstOfRow])), (a_letters, .inl (cI, 120, .inl v_letters)), (a_passageOf, .inl (cI, 120, .inl v_passageOf)), (a_cues, .inl (cI, 120, .inl v_cues)), (a_rowOf, .inl (cI, 120, .inl v_rowOf)), (a_firstOfRow, .inl (cI, 120, .inl v_firstOfRow))])) (va_Qi (fun (q : Int32) (_ : Unit) => r = q) (wrE dC dI [(aC, .inr (0, [.int v_words, .int v_passages, .int v_wordsInPassage, .int v_rows, .ref a_letters, .ref a_passageOf, .ref a_cues, .ref a_rowOf, .ref a_firstOfRow])), (a_letters, .inl (cI, 120, .inl v_letters)), (a_passageOf, .inl (cI, 120, .inl v_passageOf)), (a_cues, .inl (cI, 120, .inl v_cues)), (a_rowOf, .inl (cI, 120, .inl v_rowOf)), (a_firstOfRow, .inl (cI, 120, .inl v_firstOfRow))] sz [(aC, .inr (0, [.int o_words, .int v_passages, .int o_wordsInPassage, .int v_rows, .ref a_letters, .ref a_passageOf, .ref a_cues, .ref a_rowOf, .ref a_firstOfRow])), (a_letters, .inl (cI, 120, .inl o_letters)), (a_passageOf, .inl (cI, 120, .inl o_passageOf)), (a_cues, .inl (cI, 120, .inl o_cues)), (a_rowOf, .inl (cI, 120, .inl v_rowOf)), (a_firstOfRow, .inl (cI, 120, .inl v_firstOfRow))]) (va_A [(aC, .inr (0, [.int v_words, .int v_passages, .int v_wordsInPassage, .int v_rows, .ref a_letters, .ref a_passageOf, .ref a_cues, .ref a_rowOf, .ref a_firstOfRow])), (a_letters, .inl (cI, 120, .inl v_letters)), (a_passageOf, .inl (cI, 120, .inl v_passageOf)), (a_cues, .inl (cI, 120, .inl v_cues)), (a_rowOf, .inl (cI, 120, .inl v_rowOf)), (a_firstOfRow, .inl (cI, 120, .inl v_firstOfRow))] sz)) 0 0 (va_A [(aC, .inr (0, [.int v_words, .int v_passages, .int v_wordsInPassage, .int v_rows, .ref a_letters, .ref a_passageOf, .ref a_cues, .ref a_rowOf, .ref a_firstOfRow])), (a_letters, .inl (cI, 120, .inl v_letters)), (a_passageOf, .inl (cI, 120, .inl v_passageOf)), (a_cues, .inl (cI, 120, .inl v_cues)), (a_rowOf, .inl (cI, 120, .inl v_rowOf)), (a_firstOfRow, .inl (cI, 120, .inl v_firstOfRow))] sz) := by
  refine Met.ofW (cc := cX0_append) (maxL := 2) (ret := (some .int)) (by decide) rfl ?_
  intro p e s m args below meth c s₁ B hml hv
  obtain ⟨rfl, hsz, hP, hK, hN, hD0⟩ := hv
  have hx := B.exec
  have hb := B.bytes
  have hr := B.returns
  have hts := atoms_spec (ws := wsX0_append) B.pre
  have hown : s.vm.findClass RX0 = some m.cls := findClass_of_methodNamed B.named
  have hlocks := B.notSynchronized
  subst hsz
  have hD := hD0.self (sz := s.heap.size)
  obtain ⟨Q, hQ⟩ : ∃ Q, Q = MQ below (va_Qi (fun (q : Int32) (_ : Unit) => r = q) (wrE dC dI [(aC, .inr (0, [.int v_words, .int v_passages, .int v_wordsInPassage, .int v_rows, .ref a_letters, .ref a_passageOf, .ref a_cues, .ref a_rowOf, .ref a_firstOfRow])), (a_letters, .inl (cI, 120, .inl v_letters)), (a_passageOf, .inl (cI, 120, .inl v_passageOf)), (a_cues, .inl (cI, 120, .inl v_cues)), (a_rowOf, .inl (cI, 120, .inl v_rowOf)), (a_firstOfRow, .inl (cI, 120, .inl v_firstOfRow))] s.heap.size [(aC, .inr (0, [.int o_words, .int v_passages, .int o_wordsInPassage, .int v_rows, .ref a_letters, .ref a_passageOf, .ref a_cues, .ref a_rowOf, .ref a_firstOfRow])), (a_letters, .inl (cI, 120, .inl o_letters)), (a_passageOf, .inl (cI, 120, .inl o_passageOf)), (a_cues, .inl (cI, 120, .inl o_cues)), (a_rowOf, .inl (cI, 120, .inl v_rowOf)), (a_firstOfRow, .inl (cI, 120, .inl v_firstOfRow))]) (va_A [(aC, .inr (0, [.int v_words, .int v_passages, .int v_wordsInPassage, .int v_rows, .ref a_letters, .ref a_passageOf, .ref a_cues, .ref a_rowOf, .ref a_firstOfRow])), (a_letters, .inl (cI, 120, .inl v_letters)), (a_passageOf, .inl (cI, 120, .inl v_passageOf)), (a_cues, .inl (cI, 120, .inl v_cues)), (a_rowOf, .inl (cI, 120, .inl v_rowOf)), (a_firstOfRow, .inl (cI, 120, .inl v_firstOfRow))] s.heap.size)) ([.ref aC, .int p1] : List Value).toArray s 0 0 (va_A [(aC, .inr (0, [.int v_words, .int v_passages, .int v_wordsInPassage, .int v_rows, .ref a_letters, .ref a_passageOf, .ref a_cues, .ref a_rowOf, .ref a_firstOfRow])), (a_letters, .inl (cI, 120, .inl v_letters)), (a_passageOf, .inl (cI, 120, .inl v_passageOf)), (a_cues, .inl (cI, 120, .inl v_cues)), (a_rowOf, .inl (cI, 120, .inl v_rowOf)), (a_firstOfRow, .inl (cI, 120, .inl v_firstOfRow))] s.heap.size) := ⟨_, rfl⟩
  rw [← hQ]
  obtain ⟨A, hAe⟩ : ∃ A, A = va_A [(aC, .inr (0, [.int v_words, .int v_passages, .int v_wordsInPassage, .int v_rows, .ref a_letters, .ref a_passageOf, .ref a_cues, .ref a_rowOf, .ref a_firstOfRow])), (a_letters, .inl (cI, 120, .inl v_letters)), (a_passageOf, .inl (cI, 120, .inl v_passageOf)), (a_cues, .inl (cI, 120, .inl v_cues)), (a_rowOf, .inl (cI, 120, .inl v_rowOf)), (a_firstOfRow, .inl (cI, 120, .inl v_firstOfRow))] s.heap.size := ⟨_, rfl⟩
  rw [← hAe] at hD
  have hA : ∀ q : Nat, s.heap.size ≤ q → A q := fun q h => by rw [hAe]; exact Or.inr h
  obtain ⟨H, hH⟩ : ∃ H, H = s.heap := ⟨_, rfl⟩
  have hS : va_S A s.heap H [] := by rw [hH]; exact va_S.rf
  rw [← hH] at hP
  rw [← hH]
  have fl27 := hts (.fieldLink RX0 27 "Teleprompter$Script" "words" "I") (by decide +kernel)
  have fl9 := hts (.fieldLink RX0 9 "Teleprompter$Script" "letters" "[I") (by decide +kernel)
  have fl15 := hts (.fieldLink RX0 15 "Teleprompter$Script" "passageOf" "[I") (by decide +kernel)
  have fl31 := hts (.fieldLink RX0 31 "Teleprompter$Script" "passages" "I") (by decide +kernel)
  have fl18 := hts (.fieldLink RX0 18 "Teleprompter$Script" "cues" "[I") (by decide +kernel)
  have fl34 := hts (.fieldLink RX0 34 "Teleprompter$Script" "wordsInPassage" "I") (by decide +kernel)
  have inX0 : ∀ w ∈ u_ws RX0 TX0 9, w ∈ wsX0_append := by decide +kernel
  have hl := lv_entry ([.ref aC, .int p1]) (n := 2) (Nat.le_of_ble_eq_true rfl)
  rw [lg_entry_eq]
  generalize (lg_sl ([.ref aC, .int p1]) ++ List.replicate (2 - (lg_sl ([.ref aC, .int p1])).length) Slot.unset).toArray = ls at hl ⊢
  have hl : lv_has ls 2 [(0, .ref aC), (1, .int p1)] := hl
  unfold f_X0_append at hF
  refine lv_aload_n hx hb dX0_append_0 rfl (lv_at hl 0 rfl) ?_
  refine va_get (D := (dC, dI)) (ci := 0) (v := .int v_words) (C := RX0) (T := TX0) (N := 9) hx hb hts inX0 hown hK hP 0 rfl rfl 0 (by decide) fl27 (fun _ h9 => h9) rfl dX0_append_1 ?_
  refine lv_bipush (v := (120 : Int32)) hx hb dX0_append_4 (by decide) ?_
  refine lv_icmp_lt (tgt := 11) hx hb dX0_append_6 (by decide) (fun c_6 => ?_) (fun c_6 => ?_)
  · have hF := (if_pos c_6).symm.trans hF
    refine lv_aload_n hx hb dX0_append_11 rfl (lv_at hl 0 rfl) ?_
    refine va_get (D := (dC, dI)) (ci := 0) (v := .ref a_letters) (C := RX0) (T := TX0) (N := 9) hx hb hts inX0 hown hK hP 0 rfl rfl 4 (by decide) fl9 (fun _ h9 => h9) rfl dX0_append_12 ?_
    refine lv_aload_n hx hb dX0_append_15 rfl (lv_at hl 0 rfl) ?_
    refine va_get (D := (dC, dI)) (ci := 0) (v := .int v_words) (C := RX0) (T := TX0) (N := 9) hx hb hts inX0 hown hK hP 0 rfl rfl 0 (by decide) fl27 (fun _ h9 => h9) rfl dX0_append_16 ?_
    refine lv_iload_n hx hb dX0_append_19 rfl (lv_at hl 1 rfl) ?_
    obtain ⟨q_20, hq_20, hF⟩ := bindE hF
    have hPc := hP.sub (ws' := [(a_letters, .inl (cI, 120, .inl v_letters))]) [1] rfl
    have hDc := hD.sub (ws' := [(a_letters, .inl (cI, 120, .inl v_letters))]) [1] (by decide) rfl
    have hFc := va_free (wc := [(a_letters, .inl (cI, 120, .inl v_letters))]) hD hS hA [1] rfl
    refine va_callv (va_runSN (As := [.ref a_letters, .int v_words, .int p1]) (rest := []) ⟨hx, hb, hml, hown, hts⟩ (c_X3_put l dC dI cI cZ cO a_letters H.size 120 v_words p1 v_letters q_20 hq_20) ⟨(va_cnB 3 hts gX0_append_X3_put_n59 rfl rfl rfl (NW_X0_59 hN) (hts (.initialized RX3) (by decide +kernel)) (by decide +kernel) ⟨Nat.le_of_ble_eq_true rfl, Nat.le_of_ble_eq_true rfl⟩), hts (.static yX3_put) (by decide +kernel), trivial⟩ ⟨fb_wr, pre_wr hPc hK hN hDc⟩ rfl rfl hl.1 rfl (lv_room (Nat.le_of_ble_eq_true rfl)) dX0_append_20 ⟨Nat.zero_le _, Nat.zero_le _⟩) hS (fun q _ h => hFc q h) hFc (fun _ t H1 locs ht hvm hw hB hz1 hk1 hS => ?_)
    obtain ⟨hP1, hD1⟩ := hB
    rw [ht] at hP1
    obtain ⟨hP, hD⟩ := va_join (wr := [(aC, .inr (0, [.int v_words, .int v_passages, .int v_wordsInPassage, .int v_rows, .ref a_letters, .ref a_passageOf, .ref a_cues, .ref a_rowOf, .ref a_firstOfRow])), (a_passageOf, .inl (cI, 120, .inl v_passageOf)), (a_cues, .inl (cI, 120, .inl v_cues)), (a_rowOf, .inl (cI, 120, .inl v_rowOf)), (a_firstOfRow, .inl (cI, 120, .inl v_firstOfRow))]) (w1 := [(a_letters, .inl (cI, 120, .inl q_20))]) hP hD [1] [0, 2, 3, 4, 5] rfl rfl (by decide) (by decide) hk1 hFc hP1 hD1
    generalize H1 = H at hP hS ⊢
    have hP : va_P (dC, dI) vwCl [(aC, .inr (0, [.int v_words, .int v_passages, .int v_wordsInPassage, .int v_rows, .ref a_letters, .ref a_passageOf, .ref a_cues, .ref a_rowOf, .ref a_firstOfRow])), (a_passageOf, .inl (cI, 120, .inl v_passageOf)), (a_cues, .inl (cI, 120, .inl v_cues)), (a_rowOf, .inl (cI, 120, .inl v_rowOf)), (a_firstOfRow, .inl (cI, 120, .inl v_firstOfRow)), (a_letters, .inl (cI, 120, .inl q_20))] H := hP
    have hD : va_D A [(aC, .inr (0, [.int v_words, .int v_passages, .int v_wordsInPassage, .int v_rows, .ref a_letters, .ref a_passageOf, .ref a_cues, .ref a_rowOf, .ref a_firstOfRow])), (a_passageOf, .inl (cI, 120, .inl v_passageOf)), (a_cues, .inl (cI, 120, .inl v_cues)), (a_rowOf, .inl (cI, 120, .inl v_rowOf)), (a_firstOfRow, .inl (cI, 120, .inl v_firstOfRow)), (a_letters, .inl (cI, 120, .inl q_20))] := hD
    refine lv_aload_n hx hb dX0_append_23 rfl (lv_at hl 0 rfl) ?_
    refine va_get (D := (dC, dI)) (ci := 0) (v := .ref a_passageOf) (C := RX0) (T := TX0) (N := 9) hx hb hts inX0 hown hK hP 0 rfl rfl 5 (by decide) fl15 (fun _ h9 => h9) rfl dX0_append_24 ?_
    refine lv_aload_n hx hb dX0_append_27 rfl (lv_at hl 0 rfl) ?_
    refine va_get (D := (dC, dI)) (ci := 0) (v := .int v_words) (C := RX0) (T := TX0) (N := 9) hx hb hts inX0 hown hK hP 0 rfl rfl 0 (by decide) fl27 (fun _ h9 => h9) rfl dX0_append_28 ?_
    refine lv_aload_n hx hb dX0_append_31 rfl (lv_at hl 0 rfl) ?_
    refine va_get (D := (dC, dI)) (ci := 0) (v := .int v_passages) (C := RX0) (T := TX0) (N := 9) hx hb hts inX0 hown hK hP 0 rfl rfl 1 (by decide) fl31 (fun _ h9 => h9) rfl dX0_append_32 ?_
    refine lv_iconst (v := (1 : Int32)) hx hb dX0_append_35 (by decide) ?_
    refine lv_isub hx hb dX0_append_36 ?_
    obtain ⟨q_37, hq_37, hF⟩ := bindE hF
    have hPc := hP.sub (ws' := [(a_passageOf, .inl (cI, 120, .inl v_passageOf))]) [1] rfl
    have hDc := hD.sub (ws' := [(a_passageOf, .inl (cI, 120, .inl v_passageOf))]) [1] (by decide) rfl
    have hFc := va_free (wc := [(a_passageOf, .inl (cI, 120, .inl v_passageOf))]) hD hS hA [1] rfl
    refine va_callv (va_runSN (As := [.ref a_passageOf, .int v_words, .int (v_passages - (1 : Int32))]) (rest := []) ⟨hx, hb, hml, hown, hts⟩ (c_X3_put l dC dI cI cZ cO a_passageOf H.size 120 v_words (v_passages - (1 : Int32)) v_passageOf q_37 hq_37) ⟨(va_cnB 3 hts gX0_append_X3_put_n59 rfl rfl rfl (NW_X0_59 hN) (hts (.initialized RX3) (by decide +kernel)) (by decide +kernel) ⟨Nat.le_of_ble_eq_true rfl, Nat.le_of_ble_eq_true rfl⟩), hts (.static yX3_put) (by decide +kernel), trivial⟩ ⟨fb_wr, pre_wr hPc hK hN hDc⟩ rfl rfl hl.1 rfl (lv_room (Nat.le_of_ble_eq_true rfl)) dX0_append_37 ⟨Nat.zero_le _, Nat.zero_le _⟩) hS (fun q _ h => hFc q h) hFc (fun _ t H1 locs ht hvm hw hB hz1 hk1 hS => ?_)
    obtain ⟨hP1, hD1⟩ := hB
    rw [ht] at hP1
    obtain ⟨hP, hD⟩ := va_join (wr := [(aC, .inr (0, [.int v_words, .int v_passages, .int v_wordsInPassage, .int v_rows, .ref a_letters, .ref a_passageOf, .ref a_cues, .ref a_rowOf, .ref a_firstOfRow])), (a_cues, .inl (cI, 120, .inl v_cues)), (a_rowOf, .inl (cI, 120, .inl v_rowOf)), (a_firstOfRow, .inl (cI, 120, .inl v_firstOfRow)), (a_letters, .inl (cI, 120, .inl q_20))]) (w1 := [(a_passageOf, .inl (cI, 120, .inl q_37))]) hP hD [1] [0, 2, 3, 4, 5] rfl rfl (by decide) (by decide) hk1 hFc hP1 hD1
    generalize H1 = H at hP hS ⊢
    have hP : va_P (dC, dI) vwCl [(aC, .inr (0, [.int v_words, .int v_passages, .int v_wordsInPassage, .int v_rows, .ref a_letters, .ref a_passageOf, .ref a_cues, .ref a_rowOf, .ref a_firstOfRow])), (a_cues, .inl (cI, 120, .inl v_cues)), (a_rowOf, .inl (cI, 120, .inl v_rowOf)), (a_firstOfRow, .inl (cI, 120, .inl v_firstOfRow)), (a_letters, .inl (cI, 120, .inl q_20)), (a_passageOf, .inl (cI, 120, .inl q_37))] H := hP
    have hD : va_D A [(aC, .inr (0, [.int v_words, .int v_passages, .int v_wordsInPassage, .int v_rows, .ref a_letters, .ref a_passageOf, .ref a_cues, .ref a_rowOf, .ref a_firstOfRow])), (a_cues, .inl (cI, 120, .inl v_cues)), (a_rowOf, .inl (cI, 120, .inl v_rowOf)), (a_firstOfRow, .inl (cI, 120, .inl v_firstOfRow)), (a_letters, .inl (cI, 120, .inl q_20)), (a_passageOf, .inl (cI, 120, .inl q_37))] := hD
    refine lv_aload_n hx hb dX0_append_40 rfl (lv_at hl 0 rfl) ?_
    refine va_get (D := (dC, dI)) (ci := 0) (v := .ref a_cues) (C := RX0) (T := TX0) (N := 9) hx hb hts inX0 hown hK hP 0 rfl rfl 6 (by decide) fl18 (fun _ h9 => h9) rfl dX0_append_41 ?_
    refine lv_aload_n hx hb dX0_append_44 rfl (lv_at hl 0 rfl) ?_
    refine va_get (D := (dC, dI)) (ci := 0) (v := .int v_words) (C := RX0) (T := TX0) (N := 9) hx hb hts inX0 hown hK hP 0 rfl rfl 0 (by decide) fl27 (fun _ h9 => h9) rfl dX0_append_45 ?_
    refine lv_iconst (v := (0 : Int32)) hx hb dX0_append_48 (by decide) ?_
    obtain ⟨q_49, hq_49, hF⟩ := bindE hF
    have hPc := hP.sub (ws' := [(a_cues, .inl (cI, 120, .inl v_cues))]) [1] rfl
    have hDc := hD.sub (ws' := [(a_cues, .inl (cI, 120, .inl v_cues))]) [1] (by decide) rfl
    have hFc := va_free (wc := [(a_cues, .inl (cI, 120, .inl v_cues))]) hD hS hA [1] rfl
    refine va_callv (va_runSN (As := [.ref a_cues, .int v_words, .int (0 : Int32)]) (rest := []) ⟨hx, hb, hml, hown, hts⟩ (c_X3_put l dC dI cI cZ cO a_cues H.size 120 v_words (0 : Int32) v_cues q_49 hq_49) ⟨(va_cnB 3 hts gX0_append_X3_put_n59 rfl rfl rfl (NW_X0_59 hN) (hts (.initialized RX3) (by decide +kernel)) (by decide +kernel) ⟨Nat.le_of_ble_eq_true rfl, Nat.le_of_ble_eq_true rfl⟩), hts (.static yX3_put) (by decide +kernel), trivial⟩ ⟨fb_wr, pre_wr hPc hK hN hDc⟩ rfl rfl hl.1 rfl (lv_room (Nat.le_of_ble_eq_true rfl)) dX0_append_49 ⟨Nat.zero_le _, Nat.zero_le _⟩) hS (fun q _ h => hFc q h) hFc (fun _ t H1 locs ht hvm hw hB hz1 hk1 hS => ?_)
    obtain ⟨hP1, hD1⟩ := hB
    rw [ht] at hP1
    obtain ⟨hP, hD⟩ := va_join (wr := [(aC, .inr (0, [.int v_words, .int v_passages, .int v_wordsInPassage, .int v_rows, .ref a_letters, .ref a_passageOf, .ref a_cues, .ref a_rowOf, .ref a_firstOfRow])), (a_rowOf, .inl (cI, 120, .inl v_rowOf)), (a_firstOfRow, .inl (cI, 120, .inl v_firstOfRow)), (a_letters, .inl (cI, 120, .inl q_20)), (a_passageOf, .inl (cI, 120, .inl q_37))]) (w1 := [(a_cues, .inl (cI, 120, .inl q_49))]) hP hD [1] [0, 2, 3, 4, 5] rfl rfl (by decide) (by decide) hk1 hFc hP1 hD1
    generalize H1 = H at hP hS ⊢
    have hP : va_P (dC, dI) vwCl [(aC, .inr (0, [.int v_words, .int v_passages, .int v_wordsInPassage, .int v_rows, .ref a_letters, .ref a_passageOf, .ref a_cues, .ref a_rowOf, .ref a_firstOfRow])), (a_rowOf, .inl (cI, 120, .inl v_rowOf)), (a_firstOfRow, .inl (cI, 120, .inl v_firstOfRow)), (a_letters, .inl (cI, 120, .inl q_20)), (a_passageOf, .inl (cI, 120, .inl q_37)), (a_cues, .inl (cI, 120, .inl q_49))] H := hP
    have hD : va_D A [(aC, .inr (0, [.int v_words, .int v_passages, .int v_wordsInPassage, .int v_rows, .ref a_letters, .ref a_passageOf, .ref a_cues, .ref a_rowOf, .ref a_firstOfRow])), (a_rowOf, .inl (cI, 120, .inl v_rowOf)), (a_firstOfRow, .inl (cI, 120, .inl v_firstOfRow)), (a_letters, .inl (cI, 120, .inl q_20)), (a_passageOf, .inl (cI, 120, .inl q_37)), (a_cues, .inl (cI, 120, .inl q_49))] := hD
    refine lv_aload_n hx hb dX0_append_52 rfl (lv_at hl 0 rfl) ?_
    refine lv_dup hx hb dX0_append_53 rfl ?_
    refine va_get (D := (dC, dI)) (ci := 0) (v := .int v_words) (C := RX0) (T := TX0) (N := 9) hx hb hts inX0 hown hK hP 0 rfl rfl 0 (by decide) fl27 (fun _ h9 => h9) rfl dX0_append_54 ?_
    refine lv_iconst (v := (1 : Int32)) hx hb dX0_append_57 (by decide) ?_
    refine lv_iadd hx hb dX0_append_58 ?_
    refine va_put (D := (dC, dI)) (ci := 0) (v := .int (v_words + (1 : Int32))) (ty := .int) (C := RX0) (T := TX0) (N := 9) hx hb hts inX0 tyX0 tyX0_ok nmX0 hown hK hP hD hS 0 rfl rfl 0 (by decide) fl27 (fun _ h9 => h9) rfl (by decide +kernel) rfl rfl (Nat.le_of_ble_eq_true rfl) dX0_append_59 (fun H locs hP hD hS => ?_)
    have hP : va_P (dC, dI) vwCl [(aC, .inr (0, [.int (v_words + (1 : Int32)), .int v_passages, .int v_wordsInPassage, .int v_rows, .ref a_letters, .ref a_passageOf, .ref a_cues, .ref a_rowOf, .ref a_firstOfRow])), (a_rowOf, .inl (cI, 120, .inl v_rowOf)), (a_firstOfRow, .inl (cI, 120, .inl v_firstOfRow)), (a_letters, .inl (cI, 120, .inl q_20)), (a_passageOf, .inl (cI, 120, .inl q_37)), (a_cues, .inl (cI, 120, .inl q_49))] H := hP
    have hD : va_D A [(aC, .inr (0, [.int (v_words + (1 : Int32)), .int v_passages, .int v_wordsInPassage, .int v_rows, .ref a_letters, .ref a_passageOf, .ref a_cues, .ref a_rowOf, .ref a_firstOfRow])), (a_rowOf, .inl (cI, 120, .inl v_rowOf)), (a_firstOfRow, .inl (cI, 120, .inl v_firstOfRow)), (a_letters, .inl (cI, 120, .inl q_20)), (a_passageOf, .inl (cI, 120, .inl q_37)), (a_cues, .inl (cI, 120, .inl q_49))] := hD
    refine lv_aload_n hx hb dX0_append_62 rfl (lv_at hl 0 rfl) ?_
    refine lv_dup hx hb dX0_append_63 rfl ?_
    refine va_get (D := (dC, dI)) (ci := 0) (v := .int v_wordsInPassage) (C := RX0) (T := TX0) (N := 9) hx hb hts inX0 hown hK hP 0 rfl rfl 2 (by decide) fl34 (fun _ h9 => h9) rfl dX0_append_64 ?_
    refine lv_iconst (v := (1 : Int32)) hx hb dX0_append_67 (by decide) ?_
    refine lv_iadd hx hb dX0_append_68 ?_
    refine va_put (D := (dC, dI)) (ci := 0) (v := .int (v_wordsInPassage + (1 : Int32))) (ty := .int) (C := RX0) (T := TX0) (N := 9) hx hb hts inX0 tyX0 tyX0_ok nmX0 hown hK hP hD hS 0 rfl rfl 2 (by decide) fl34 (fun _ h9 => h9) rfl (by decide +kernel) rfl rfl (Nat.le_of_ble_eq_true rfl) dX0_append_69 (fun H locs hP hD hS => ?_)
    have hP : va_P (dC, dI) vwCl [(aC, .inr (0, [.int (v_words + (1 : Int32)), .int v_passages, .int (v_wordsInPassage + (1 : Int32)), .int v_rows, .ref a_letters, .ref a_passageOf, .ref a_cues, .ref a_rowOf, .ref a_firstOfRow])), (a_rowOf, .inl (cI, 120, .inl v_rowOf)), (a_firstOfRow, .inl (cI, 120, .inl v_firstOfRow)), (a_letters, .inl (cI, 120, .inl q_20)), (a_passageOf, .inl (cI, 120, .inl q_37)), (a_cues, .inl (cI, 120, .inl q_49))] H := hP
    have hD : va_D A [(aC, .inr (0, [.int (v_words + (1 : Int32)), .int v_passages, .int (v_wordsInPassage + (1 : Int32)), .int v_rows, .ref a_letters, .ref a_passageOf, .ref a_cues, .ref a_rowOf, .ref a_firstOfRow])), (a_rowOf, .inl (cI, 120, .inl v_rowOf)), (a_firstOfRow, .inl (cI, 120, .inl v_firstOfRow)), (a_letters, .inl (cI, 120, .inl q_20)), (a_passageOf, .inl (cI, 120, .inl q_37)), (a_cues, .inl (cI, 120, .inl q_49))] := hD
    refine lv_iconst (v := (0 : Int32)) hx hb dX0_append_72 (by decide) ?_
    have hF : some ((0 : Int32), (v_words + (1 : Int32)), (v_wordsInPassage + (1 : Int32)), q_20, q_37, q_49) = some (r, o_words, o_wordsInPassage, o_letters, o_passageOf, o_cues) := hF
    have hP9 := hP.sub (ws' := [(aC, .inr (0, [.int (v_words + (1 : Int32)), .int v_passages, .int (v_wordsInPassage + (1 : Int32)), .int v_rows, .ref a_letters, .ref a_passageOf, .ref a_cues, .ref a_rowOf, .ref a_firstOfRow])), (a_letters, .inl (cI, 120, .inl q_20)), (a_passageOf, .inl (cI, 120, .inl q_37)), (a_cues, .inl (cI, 120, .inl q_49)), (a_rowOf, .inl (cI, 120, .inl v_rowOf)), (a_firstOfRow, .inl (cI, 120, .inl v_firstOfRow))]) [0, 3, 4, 5, 1, 2] rfl
    have hD9 := hD.sub (ws' := [(aC, .inr (0, [.int (v_words + (1 : Int32)), .int v_passages, .int (v_wordsInPassage + (1 : Int32)), .int v_rows, .ref a_letters, .ref a_passageOf, .ref a_cues, .ref a_rowOf, .ref a_firstOfRow])), (a_letters, .inl (cI, 120, .inl q_20)), (a_passageOf, .inl (cI, 120, .inl q_37)), (a_cues, .inl (cI, 120, .inl q_49)), (a_rowOf, .inl (cI, 120, .inl v_rowOf)), (a_firstOfRow, .inl (cI, 120, .inl v_firstOfRow))]) [0, 3, 4, 5, 1, 2] (by decide) rfl
    cases hF
    subst hQ
    subst hAe
    exact W.iret hx hb hr (fun t ht hW => ⟨⟨_, (), rfl, rfl, ⟨by rw [ht]; exact hP9, hD9⟩⟩, hS.F ht⟩) hS.2.2 dX0_append_73
  · have hF := (if_neg c_6).symm.trans hF
    refine lv_iconst (v := (4 : Int32)) hx hb dX0_append_9 (by decide) ?_
    have hF : some ((4 : Int32), v_words, v_wordsInPassage, v_letters, v_passageOf, v_cues) = some (r, o_words, o_wordsInPassage, o_letters, o_passageOf, o_cues) := hF
    have hP9 := hP
    have hD9 := hD
    cases hF
    subst hQ
    subst hAe
    exact W.iret hx hb hr (fun t ht hW => ⟨⟨_, (), rfl, rfl, ⟨by rw [ht]; exact hP9, hD9⟩⟩, hS.F ht⟩) hS.2.2 dX0_append_10
def f_X0_setCue (v_words : Int32) (v_cues : (Nat → Int32)) : Option (Int32 × (Nat → Int32)) :=
  (f_X3_put 120 (v_words - (1 : Int32)) (1 : Int32) v_cues).bind fun q11 =>
  some ((0 : Int32), q11)
def rm_X0_setCue : Room := { frames := 1, cells := 0, slots := 0, locals := 22 }
set_option maxHeartbeats 4000000 in
set_option maxRecDepth 100000 in
theorem c_X0_setCue (l : Launch) (dC : Nat → ClassId) (dI : Nat → Nat → Nat) (cI cZ cO : ClassId) (aC a_letters a_passageOf a_cues a_rowOf a_firstOfRow : Nat) (sz : Nat) (v_words : Int32) (v_passages : Int32) (v_wordsInPassage : Int32) (v_rows : Int32) (v_letters : (Nat → Int32)) (v_passageOf : (Nat → Int32)) (v_cues : (Nat → Int32)) (v_rowOf : (Nat → Int32)) (v_firstOfRow : (Nat → Int32)) (r : Int32) (o_cues : (Nat → Int32)) (hF : f_X0_setCue v_words v_cues = some (r, o_cues)) : Met l yX0_setCue wsX0_setCue rm_X0_setCue (va_Pc [.ref aC] (wrW dC dI cI cZ cO sz [(aC, .inr (0, [.int v_words, .int v_passages, .int v_wordsInPassage, .int v_rows, .ref a_letters, .ref a_passageOf, .ref a_cues, .ref a_rowOf, .ref a_firstOfRow])), (a_letters, .inl (cI, 120, .inl v_letters)), (a_passageOf, .inl (cI, 120, .inl v_passageOf)), (a_cues, .inl (cI, 120, .inl v_cues)), (a_rowOf, .inl (cI, 120, .inl v_rowOf)), (a_firstOfRow, .inl (cI, 120, .inl v_firstOfRow))])) (va_Qi (fun (q : Int32) (_ : Unit) => r = q) (wrE dC dI [(aC, .inr (0, [.int v_words, .int v_passages, .int v_wordsInPassage, .int v_rows, .ref a_letters, .ref a_passageOf, .ref a_cues, .ref a_rowOf, .ref a_firstOfRow])), (a_letters, .inl (cI, 120, .inl v_letters)), (a_passageOf, .inl (cI, 120, .inl v_passageOf)), (a_cues, .inl (cI, 120, .inl v_cues)), (a_rowOf, .inl (cI, 120, .inl v_rowOf)), (a_firstOfRow, .inl (cI, 120, .inl v_firstOfRow))] sz [(aC, .inr (0, [.int v_words, .int v_passages, .int v_wordsInPassage, .int v_rows, .ref a_letters, .ref a_passageOf, .ref a_cues, .ref a_rowOf, .ref a_firstOfRow])), (a_letters, .inl (cI, 120, .inl v_letters)), (a_passageOf, .inl (cI, 120, .inl v_passageOf)), (a_cues, .inl (cI, 120, .inl o_cues)), (a_rowOf, .inl (cI, 120, .inl v_rowOf)), (a_firstOfRow, .inl (cI, 120, .inl v_firstOfRow))]) (va_A [(aC, .inr (0, [.int v_words, .int v_passages, .int v_wordsInPassage, .int v_rows, .ref a_letters, .ref a_passageOf, .ref a_cues, .ref a_rowOf, .ref a_firstOfRow])), (a_letters, .inl (cI, 120, .inl v_letters)), (a_passageOf, .inl (cI, 120, .inl v_passageOf)), (a_cues, .inl (cI, 120, .inl v_cues)), (a_rowOf, .inl (cI, 120, .inl v_rowOf)), (a_firstOfRow, .inl (cI, 120, .inl v_firstOfRow))] sz)) 0 0 (va_A [(aC, .inr (0, [.int v_words, .int v_passages, .int v_wordsInPassage, .int v_rows, .ref a_letters, .ref a_passageOf, .ref a_cues, .ref a_rowOf, .ref a_firstOfRow])), (a_letters, .inl (cI, 120, .inl v_letters)), (a_passageOf, .inl (cI, 120, .inl v_passageOf)), (a_cues, .inl (cI, 120, .inl v_cues)), (a_rowOf, .inl (cI, 120, .inl v_rowOf)), (a_firstOfRow, .inl (cI, 120, .inl v_firstOfRow))] sz) := by
  refine Met.ofW (cc := cX0_setCue) (maxL := 1) (ret := (some .int)) (by decide) rfl ?_
  intro p e s m args below meth c s₁ B hml hv
  obtain ⟨rfl, hsz, hP, hK, hN, hD0⟩ := hv
  have hx := B.exec
  have hb := B.bytes
  have hr := B.returns
  have hts := atoms_spec (ws := wsX0_setCue) B.pre
  have hown : s.vm.findClass RX0 = some m.cls := findClass_of_methodNamed B.named
  have hlocks := B.notSynchronized
  subst hsz
  have hD := hD0.self (sz := s.heap.size)
  obtain ⟨Q, hQ⟩ : ∃ Q, Q = MQ below (va_Qi (fun (q : Int32) (_ : Unit) => r = q) (wrE dC dI [(aC, .inr (0, [.int v_words, .int v_passages, .int v_wordsInPassage, .int v_rows, .ref a_letters, .ref a_passageOf, .ref a_cues, .ref a_rowOf, .ref a_firstOfRow])), (a_letters, .inl (cI, 120, .inl v_letters)), (a_passageOf, .inl (cI, 120, .inl v_passageOf)), (a_cues, .inl (cI, 120, .inl v_cues)), (a_rowOf, .inl (cI, 120, .inl v_rowOf)), (a_firstOfRow, .inl (cI, 120, .inl v_firstOfRow))] s.heap.size [(aC, .inr (0, [.int v_words, .int v_passages, .int v_wordsInPassage, .int v_rows, .ref a_letters, .ref a_passageOf, .ref a_cues, .ref a_rowOf, .ref a_firstOfRow])), (a_letters, .inl (cI, 120, .inl v_letters)), (a_passageOf, .inl (cI, 120, .inl v_passageOf)), (a_cues, .inl (cI, 120, .inl o_cues)), (a_rowOf, .inl (cI, 120, .inl v_rowOf)), (a_firstOfRow, .inl (cI, 120, .inl v_firstOfRow))]) (va_A [(aC, .inr (0, [.int v_words, .int v_passages, .int v_wordsInPassage, .int v_rows, .ref a_letters, .ref a_passageOf, .ref a_cues, .ref a_rowOf, .ref a_firstOfRow])), (a_letters, .inl (cI, 120, .inl v_letters)), (a_passageOf, .inl (cI, 120, .inl v_passageOf)), (a_cues, .inl (cI, 120, .inl v_cues)), (a_rowOf, .inl (cI, 120, .inl v_rowOf)), (a_firstOfRow, .inl (cI, 120, .inl v_firstOfRow))] s.heap.size)) ([.ref aC] : List Value).toArray s 0 0 (va_A [(aC, .inr (0, [.int v_words, .int v_passages, .int v_wordsInPassage, .int v_rows, .ref a_letters, .ref a_passageOf, .ref a_cues, .ref a_rowOf, .ref a_firstOfRow])), (a_letters, .inl (cI, 120, .inl v_letters)), (a_passageOf, .inl (cI, 120, .inl v_passageOf)), (a_cues, .inl (cI, 120, .inl v_cues)), (a_rowOf, .inl (cI, 120, .inl v_rowOf)), (a_firstOfRow, .inl (cI, 120, .inl v_firstOfRow))] s.heap.size) := ⟨_, rfl⟩
  rw [← hQ]
  obtain ⟨A, hAe⟩ : ∃ A, A = va_A [(aC, .inr (0, [.int v_words, .int v_passages, .int v_wordsInPassage, .int v_rows, .ref a_letters, .ref a_passageOf, .ref a_cues, .ref a_rowOf, .ref a_firstOfRow])), (a_letters, .inl (cI, 120, .inl v_letters)), (a_passageOf, .inl (cI, 120, .inl v_passageOf)), (a_cues, .inl (cI, 120, .inl v_cues)), (a_rowOf, .inl (cI, 120, .inl v_rowOf)), (a_firstOfRow, .inl (cI, 120, .inl v_firstOfRow))] s.heap.size := ⟨_, rfl⟩
  rw [← hAe] at hD
  have hA : ∀ q : Nat, s.heap.size ≤ q → A q := fun q h => by rw [hAe]; exact Or.inr h
  obtain ⟨H, hH⟩ : ∃ H, H = s.heap := ⟨_, rfl⟩
  have hS : va_S A s.heap H [] := by rw [hH]; exact va_S.rf
  rw [← hH] at hP
  rw [← hH]
  have fl18 := hts (.fieldLink RX0 18 "Teleprompter$Script" "cues" "[I") (by decide +kernel)
  have fl27 := hts (.fieldLink RX0 27 "Teleprompter$Script" "words" "I") (by decide +kernel)
  have inX0 : ∀ w ∈ u_ws RX0 TX0 9, w ∈ wsX0_setCue := by decide +kernel
  have hl := lv_entry ([.ref aC]) (n := 1) (Nat.le_of_ble_eq_true rfl)
  rw [lg_entry_eq]
  generalize (lg_sl ([.ref aC]) ++ List.replicate (1 - (lg_sl ([.ref aC])).length) Slot.unset).toArray = ls at hl ⊢
  have hl : lv_has ls 1 [(0, .ref aC)] := hl
  unfold f_X0_setCue at hF
  refine lv_aload_n hx hb dX0_setCue_0 rfl (lv_at hl 0 rfl) ?_
  refine va_get (D := (dC, dI)) (ci := 0) (v := .ref a_cues) (C := RX0) (T := TX0) (N := 9) hx hb hts inX0 hown hK hP 0 rfl rfl 6 (by decide) fl18 (fun _ h9 => h9) rfl dX0_setCue_1 ?_
  refine lv_aload_n hx hb dX0_setCue_4 rfl (lv_at hl 0 rfl) ?_
  refine va_get (D := (dC, dI)) (ci := 0) (v := .int v_words) (C := RX0) (T := TX0) (N := 9) hx hb hts inX0 hown hK hP 0 rfl rfl 0 (by decide) fl27 (fun _ h9 => h9) rfl dX0_setCue_5 ?_
  refine lv_iconst (v := (1 : Int32)) hx hb dX0_setCue_8 (by decide) ?_
  refine lv_isub hx hb dX0_setCue_9 ?_
  refine lv_iconst (v := (1 : Int32)) hx hb dX0_setCue_10 (by decide) ?_
  obtain ⟨q_11, hq_11, hF⟩ := bindE hF
  have hPc := hP.sub (ws' := [(a_cues, .inl (cI, 120, .inl v_cues))]) [3] rfl
  have hDc := hD.sub (ws' := [(a_cues, .inl (cI, 120, .inl v_cues))]) [3] (by decide) rfl
  have hFc := va_free (wc := [(a_cues, .inl (cI, 120, .inl v_cues))]) hD hS hA [3] rfl
  refine va_callv (va_runSN (As := [.ref a_cues, .int (v_words - (1 : Int32)), .int (1 : Int32)]) (rest := []) ⟨hx, hb, hml, hown, hts⟩ (c_X3_put l dC dI cI cZ cO a_cues H.size 120 (v_words - (1 : Int32)) (1 : Int32) v_cues q_11 hq_11) ⟨(va_cnB 3 hts gX0_setCue_X3_put_n59 rfl rfl rfl (NW_X0_59 hN) (hts (.initialized RX3) (by decide +kernel)) (by decide +kernel) ⟨Nat.le_of_ble_eq_true rfl, Nat.le_of_ble_eq_true rfl⟩), hts (.static yX3_put) (by decide +kernel), trivial⟩ ⟨fb_wr, pre_wr hPc hK hN hDc⟩ rfl rfl hl.1 rfl (lv_room (Nat.le_of_ble_eq_true rfl)) dX0_setCue_11 ⟨Nat.zero_le _, Nat.zero_le _⟩) hS (fun q _ h => hFc q h) hFc (fun _ t H1 locs ht hvm hw hB hz1 hk1 hS => ?_)
  obtain ⟨hP1, hD1⟩ := hB
  rw [ht] at hP1
  obtain ⟨hP, hD⟩ := va_join (wr := [(aC, .inr (0, [.int v_words, .int v_passages, .int v_wordsInPassage, .int v_rows, .ref a_letters, .ref a_passageOf, .ref a_cues, .ref a_rowOf, .ref a_firstOfRow])), (a_letters, .inl (cI, 120, .inl v_letters)), (a_passageOf, .inl (cI, 120, .inl v_passageOf)), (a_rowOf, .inl (cI, 120, .inl v_rowOf)), (a_firstOfRow, .inl (cI, 120, .inl v_firstOfRow))]) (w1 := [(a_cues, .inl (cI, 120, .inl q_11))]) hP hD [3] [0, 1, 2, 4, 5] rfl rfl (by decide) (by decide) hk1 hFc hP1 hD1
  generalize H1 = H at hP hS ⊢
  have hP : va_P (dC, dI) vwCl [(aC, .inr (0, [.int v_words, .int v_passages, .int v_wordsInPassage, .int v_rows, .ref a_letters, .ref a_passageOf, .ref a_cues, .ref a_rowOf, .ref a_firstOfRow])), (a_letters, .inl (cI, 120, .inl v_letters)), (a_passageOf, .inl (cI, 120, .inl v_passageOf)), (a_rowOf, .inl (cI, 120, .inl v_rowOf)), (a_firstOfRow, .inl (cI, 120, .inl v_firstOfRow)), (a_cues, .inl (cI, 120, .inl q_11))] H := hP
  have hD : va_D A [(aC, .inr (0, [.int v_words, .int v_passages, .int v_wordsInPassage, .int v_rows, .ref a_letters, .ref a_passageOf, .ref a_cues, .ref a_rowOf, .ref a_firstOfRow])), (a_letters, .inl (cI, 120, .inl v_letters)), (a_passageOf, .inl (cI, 120, .inl v_passageOf)), (a_rowOf, .inl (cI, 120, .inl v_rowOf)), (a_firstOfRow, .inl (cI, 120, .inl v_firstOfRow)), (a_cues, .inl (cI, 120, .inl q_11))] := hD
  refine lv_iconst (v := (0 : Int32)) hx hb dX0_setCue_14 (by decide) ?_
  have hF : some ((0 : Int32), q_11) = some (r, o_cues) := hF
  have hP9 := hP.sub (ws' := [(aC, .inr (0, [.int v_words, .int v_passages, .int v_wordsInPassage, .int v_rows, .ref a_letters, .ref a_passageOf, .ref a_cues, .ref a_rowOf, .ref a_firstOfRow])), (a_letters, .inl (cI, 120, .inl v_letters)), (a_passageOf, .inl (cI, 120, .inl v_passageOf)), (a_cues, .inl (cI, 120, .inl q_11)), (a_rowOf, .inl (cI, 120, .inl v_rowOf)), (a_firstOfRow, .inl (cI, 120, .inl v_firstOfRow))]) [0, 1, 2, 5, 3, 4] rfl
  have hD9 := hD.sub (ws' := [(aC, .inr (0, [.int v_words, .int v_passages, .int v_wordsInPassage, .int v_rows, .ref a_letters, .ref a_passageOf, .ref a_cues, .ref a_rowOf, .ref a_firstOfRow])), (a_letters, .inl (cI, 120, .inl v_letters)), (a_passageOf, .inl (cI, 120, .inl v_passageOf)), (a_cues, .inl (cI, 120, .inl q_11)), (a_rowOf, .inl (cI, 120, .inl v_rowOf)), (a_firstOfRow, .inl (cI, 120, .inl v_firstOfRow))]) [0, 1, 2, 5, 3, 4] (by decide) rfl
  cases hF
  subst hQ
  subst hAe
  exact W.iret hx hb hr (fun t ht hW => ⟨⟨_, (), rfl, rfl, ⟨by rw [ht]; exact hP9, hD9⟩⟩, hS.F ht⟩) hS.2.2 dX0_setCue_15
def f_X0_endPassage (v_passages : Int32) (v_wordsInPassage : Int32) : Option (Int32 × Int32 × Int32) :=
  some ((0 : Int32), (v_passages + (1 : Int32)), (0 : Int32))
def rm_X0_endPassage : Room := { frames := 0, cells := 0, slots := 0, locals := 0 }
set_option maxHeartbeats 4000000 in
set_option maxRecDepth 100000 in
theorem c_X0_endPassage (l : Launch) (dC : Nat → ClassId) (dI : Nat → Nat → Nat) (cI cZ cO : ClassId) (aC a_letters a_passageOf a_cues a_rowOf a_firstOfRow : Nat) (sz : Nat) (v_words : Int32) (v_passages : Int32) (v_wordsInPassage : Int32) (v_rows : Int32) (v_letters : (Nat → Int32)) (v_passageOf : (Nat → Int32)) (v_cues : (Nat → Int32)) (v_rowOf : (Nat → Int32)) (v_firstOfRow : (Nat → Int32)) (r : Int32) (o_passages : Int32) (o_wordsInPassage : Int32) (hF : f_X0_endPassage v_passages v_wordsInPassage = some (r, o_passages, o_wordsInPassage)) : Met l yX0_endPassage wsX0_endPassage rm_X0_endPassage (va_Pc [.ref aC] (wrW dC dI cI cZ cO sz [(aC, .inr (0, [.int v_words, .int v_passages, .int v_wordsInPassage, .int v_rows, .ref a_letters, .ref a_passageOf, .ref a_cues, .ref a_rowOf, .ref a_firstOfRow])), (a_letters, .inl (cI, 120, .inl v_letters)), (a_passageOf, .inl (cI, 120, .inl v_passageOf)), (a_cues, .inl (cI, 120, .inl v_cues)), (a_rowOf, .inl (cI, 120, .inl v_rowOf)), (a_firstOfRow, .inl (cI, 120, .inl v_firstOfRow))])) (va_Qi (fun (q : Int32) (_ : Unit) => r = q) (wrE dC dI [(aC, .inr (0, [.int v_words, .int v_passages, .int v_wordsInPassage, .int v_rows, .ref a_letters, .ref a_passageOf, .ref a_cues, .ref a_rowOf, .ref a_firstOfRow])), (a_letters, .inl (cI, 120, .inl v_letters)), (a_passageOf, .inl (cI, 120, .inl v_passageOf)), (a_cues, .inl (cI, 120, .inl v_cues)), (a_rowOf, .inl (cI, 120, .inl v_rowOf)), (a_firstOfRow, .inl (cI, 120, .inl v_firstOfRow))] sz [(aC, .inr (0, [.int v_words, .int o_passages, .int o_wordsInPassage, .int v_rows, .ref a_letters, .ref a_passageOf, .ref a_cues, .ref a_rowOf, .ref a_firstOfRow])), (a_letters, .inl (cI, 120, .inl v_letters)), (a_passageOf, .inl (cI, 120, .inl v_passageOf)), (a_cues, .inl (cI, 120, .inl v_cues)), (a_rowOf, .inl (cI, 120, .inl v_rowOf)), (a_firstOfRow, .inl (cI, 120, .inl v_firstOfRow))]) (va_A [(aC, .inr (0, [.int v_words, .int v_passages, .int v_wordsInPassage, .int v_rows, .ref a_letters, .ref a_passageOf, .ref a_cues, .ref a_rowOf, .ref a_firstOfRow])), (a_letters, .inl (cI, 120, .inl v_letters)), (a_passageOf, .inl (cI, 120, .inl v_passageOf)), (a_cues, .inl (cI, 120, .inl v_cues)), (a_rowOf, .inl (cI, 120, .inl v_rowOf)), (a_firstOfRow, .inl (cI, 120, .inl v_firstOfRow))] sz)) 0 0 (va_A [(aC, .inr (0, [.int v_words, .int v_passages, .int v_wordsInPassage, .int v_rows, .ref a_letters, .ref a_passageOf, .ref a_cues, .ref a_rowOf, .ref a_firstOfRow])), (a_letters, .inl (cI, 120, .inl v_letters)), (a_passageOf, .inl (cI, 120, .inl v_passageOf)), (a_cues, .inl (cI, 120, .inl v_cues)), (a_rowOf, .inl (cI, 120, .inl v_rowOf)), (a_firstOfRow, .inl (cI, 120, .inl v_firstOfRow))] sz) := by
  refine Met.ofW (cc := cX0_endPassage) (maxL := 1) (ret := (some .int)) (by decide) rfl ?_
  intro p e s m args below meth c s₁ B hml hv
  obtain ⟨rfl, hsz, hP, hK, hN, hD0⟩ := hv
  have hx := B.exec
  have hb := B.bytes
  have hr := B.returns
  have hts := atoms_spec (ws := wsX0_endPassage) B.pre
  have hown : s.vm.findClass RX0 = some m.cls := findClass_of_methodNamed B.named
  have hlocks := B.notSynchronized
  subst hsz
  have hD := hD0.self (sz := s.heap.size)
  obtain ⟨Q, hQ⟩ : ∃ Q, Q = MQ below (va_Qi (fun (q : Int32) (_ : Unit) => r = q) (wrE dC dI [(aC, .inr (0, [.int v_words, .int v_passages, .int v_wordsInPassage, .int v_rows, .ref a_letters, .ref a_passageOf, .ref a_cues, .ref a_rowOf, .ref a_firstOfRow])), (a_letters, .inl (cI, 120, .inl v_letters)), (a_passageOf, .inl (cI, 120, .inl v_passageOf)), (a_cues, .inl (cI, 120, .inl v_cues)), (a_rowOf, .inl (cI, 120, .inl v_rowOf)), (a_firstOfRow, .inl (cI, 120, .inl v_firstOfRow))] s.heap.size [(aC, .inr (0, [.int v_words, .int o_passages, .int o_wordsInPassage, .int v_rows, .ref a_letters, .ref a_passageOf, .ref a_cues, .ref a_rowOf, .ref a_firstOfRow])), (a_letters, .inl (cI, 120, .inl v_letters)), (a_passageOf, .inl (cI, 120, .inl v_passageOf)), (a_cues, .inl (cI, 120, .inl v_cues)), (a_rowOf, .inl (cI, 120, .inl v_rowOf)), (a_firstOfRow, .inl (cI, 120, .inl v_firstOfRow))]) (va_A [(aC, .inr (0, [.int v_words, .int v_passages, .int v_wordsInPassage, .int v_rows, .ref a_letters, .ref a_passageOf, .ref a_cues, .ref a_rowOf, .ref a_firstOfRow])), (a_letters, .inl (cI, 120, .inl v_letters)), (a_passageOf, .inl (cI, 120, .inl v_passageOf)), (a_cues, .inl (cI, 120, .inl v_cues)), (a_rowOf, .inl (cI, 120, .inl v_rowOf)), (a_firstOfRow, .inl (cI, 120, .inl v_firstOfRow))] s.heap.size)) ([.ref aC] : List Value).toArray s 0 0 (va_A [(aC, .inr (0, [.int v_words, .int v_passages, .int v_wordsInPassage, .int v_rows, .ref a_letters, .ref a_passageOf, .ref a_cues, .ref a_rowOf, .ref a_firstOfRow])), (a_letters, .inl (cI, 120, .inl v_letters)), (a_passageOf, .inl (cI, 120, .inl v_passageOf)), (a_cues, .inl (cI, 120, .inl v_cues)), (a_rowOf, .inl (cI, 120, .inl v_rowOf)), (a_firstOfRow, .inl (cI, 120, .inl v_firstOfRow))] s.heap.size) := ⟨_, rfl⟩
  rw [← hQ]
  obtain ⟨A, hAe⟩ : ∃ A, A = va_A [(aC, .inr (0, [.int v_words, .int v_passages, .int v_wordsInPassage, .int v_rows, .ref a_letters, .ref a_passageOf, .ref a_cues, .ref a_rowOf, .ref a_firstOfRow])), (a_letters, .inl (cI, 120, .inl v_letters)), (a_passageOf, .inl (cI, 120, .inl v_passageOf)), (a_cues, .inl (cI, 120, .inl v_cues)), (a_rowOf, .inl (cI, 120, .inl v_rowOf)), (a_firstOfRow, .inl (cI, 120, .inl v_firstOfRow))] s.heap.size := ⟨_, rfl⟩
  rw [← hAe] at hD
  have hA : ∀ q : Nat, s.heap.size ≤ q → A q := fun q h => by rw [hAe]; exact Or.inr h
  obtain ⟨H, hH⟩ : ∃ H, H = s.heap := ⟨_, rfl⟩
  have hS : va_S A s.heap H [] := by rw [hH]; exact va_S.rf
  rw [← hH] at hP
  rw [← hH]
  have fl31 := hts (.fieldLink RX0 31 "Teleprompter$Script" "passages" "I") (by decide +kernel)
  have fl34 := hts (.fieldLink RX0 34 "Teleprompter$Script" "wordsInPassage" "I") (by decide +kernel)
  have inX0 : ∀ w ∈ u_ws RX0 TX0 9, w ∈ wsX0_endPassage := by decide +kernel
  have hl := lv_entry ([.ref aC]) (n := 1) (Nat.le_of_ble_eq_true rfl)
  rw [lg_entry_eq]
  generalize (lg_sl ([.ref aC]) ++ List.replicate (1 - (lg_sl ([.ref aC])).length) Slot.unset).toArray = ls at hl ⊢
  have hl : lv_has ls 1 [(0, .ref aC)] := hl
  unfold f_X0_endPassage at hF
  refine lv_aload_n hx hb dX0_endPassage_0 rfl (lv_at hl 0 rfl) ?_
  refine lv_dup hx hb dX0_endPassage_1 rfl ?_
  refine va_get (D := (dC, dI)) (ci := 0) (v := .int v_passages) (C := RX0) (T := TX0) (N := 9) hx hb hts inX0 hown hK hP 0 rfl rfl 1 (by decide) fl31 (fun _ h9 => h9) rfl dX0_endPassage_2 ?_
  refine lv_iconst (v := (1 : Int32)) hx hb dX0_endPassage_5 (by decide) ?_
  refine lv_iadd hx hb dX0_endPassage_6 ?_
  refine va_put (D := (dC, dI)) (ci := 0) (v := .int (v_passages + (1 : Int32))) (ty := .int) (C := RX0) (T := TX0) (N := 9) hx hb hts inX0 tyX0 tyX0_ok nmX0 hown hK hP hD hS 0 rfl rfl 1 (by decide) fl31 (fun _ h9 => h9) rfl (by decide +kernel) rfl rfl (Nat.le_of_ble_eq_true rfl) dX0_endPassage_7 (fun H locs hP hD hS => ?_)
  have hP : va_P (dC, dI) vwCl [(aC, .inr (0, [.int v_words, .int (v_passages + (1 : Int32)), .int v_wordsInPassage, .int v_rows, .ref a_letters, .ref a_passageOf, .ref a_cues, .ref a_rowOf, .ref a_firstOfRow])), (a_letters, .inl (cI, 120, .inl v_letters)), (a_passageOf, .inl (cI, 120, .inl v_passageOf)), (a_cues, .inl (cI, 120, .inl v_cues)), (a_rowOf, .inl (cI, 120, .inl v_rowOf)), (a_firstOfRow, .inl (cI, 120, .inl v_firstOfRow))] H := hP
  have hD : va_D A [(aC, .inr (0, [.int v_words, .int (v_passages + (1 : Int32)), .int v_wordsInPassage, .int v_rows, .ref a_letters, .ref a_passageOf, .ref a_cues, .ref a_rowOf, .ref a_firstOfRow])), (a_letters, .inl (cI, 120, .inl v_letters)), (a_passageOf, .inl (cI, 120, .inl v_passageOf)), (a_cues, .inl (cI, 120, .inl v_cues)), (a_rowOf, .inl (cI, 120, .inl v_rowOf)), (a_firstOfRow, .inl (cI, 120, .inl v_firstOfRow))] := hD
  refine lv_aload_n hx hb dX0_endPassage_10 rfl (lv_at hl 0 rfl) ?_
  refine lv_iconst (v := (0 : Int32)) hx hb dX0_endPassage_11 (by decide) ?_
  refine va_put (D := (dC, dI)) (ci := 0) (v := .int (0 : Int32)) (ty := .int) (C := RX0) (T := TX0) (N := 9) hx hb hts inX0 tyX0 tyX0_ok nmX0 hown hK hP hD hS 0 rfl rfl 2 (by decide) fl34 (fun _ h9 => h9) rfl (by decide +kernel) rfl rfl (Nat.le_of_ble_eq_true rfl) dX0_endPassage_12 (fun H locs hP hD hS => ?_)
  have hP : va_P (dC, dI) vwCl [(aC, .inr (0, [.int v_words, .int (v_passages + (1 : Int32)), .int (0 : Int32), .int v_rows, .ref a_letters, .ref a_passageOf, .ref a_cues, .ref a_rowOf, .ref a_firstOfRow])), (a_letters, .inl (cI, 120, .inl v_letters)), (a_passageOf, .inl (cI, 120, .inl v_passageOf)), (a_cues, .inl (cI, 120, .inl v_cues)), (a_rowOf, .inl (cI, 120, .inl v_rowOf)), (a_firstOfRow, .inl (cI, 120, .inl v_firstOfRow))] H := hP
  have hD : va_D A [(aC, .inr (0, [.int v_words, .int (v_passages + (1 : Int32)), .int (0 : Int32), .int v_rows, .ref a_letters, .ref a_passageOf, .ref a_cues, .ref a_rowOf, .ref a_firstOfRow])), (a_letters, .inl (cI, 120, .inl v_letters)), (a_passageOf, .inl (cI, 120, .inl v_passageOf)), (a_cues, .inl (cI, 120, .inl v_cues)), (a_rowOf, .inl (cI, 120, .inl v_rowOf)), (a_firstOfRow, .inl (cI, 120, .inl v_firstOfRow))] := hD
  refine lv_iconst (v := (0 : Int32)) hx hb dX0_endPassage_15 (by decide) ?_
  have hF : some ((0 : Int32), (v_passages + (1 : Int32)), (0 : Int32)) = some (r, o_passages, o_wordsInPassage) := hF
  have hP9 := hP
  have hD9 := hD
  cases hF
  subst hQ
  subst hAe
  exact W.iret hx hb hr (fun t ht hW => ⟨⟨_, (), rfl, rfl, ⟨by rw [ht]; exact hP9, hD9⟩⟩, hS.F ht⟩) hS.2.2 dX0_endPassage_16
def f_X0_read (p1 : Int32) (p2 : Int32) (v_words : Int32) (v_passages : Int32) (v_wordsInPassage : Int32) (v_letters : (Nat → Int32)) (v_passageOf : (Nat → Int32)) (v_cues : (Nat → Int32)) : Option (Int32 × Int32 × Int32 × Int32 × (Nat → Int32) × (Nat → Int32) × (Nat → Int32)) :=
  (f_X3_isLetter p1).bind fun q1 =>
  if q1 = (0 : Int32) then
    if p1 = (47 : Int32) then
      (f_X3_isLetter p2).bind fun q20 =>
      if q20 = (0 : Int32) then
        some ((2 : Int32), v_words, v_passages, v_wordsInPassage, v_letters, v_passageOf, v_cues)
      else
        (f_X0_setCue v_words v_cues).bind fun q27 =>
        some (q27.1, v_words, v_passages, v_wordsInPassage, v_letters, v_passageOf, q27.2)
    else
      if p1 = (124 : Int32) then
        if v_wordsInPassage ≤ (0 : Int32) then
          some ((3 : Int32), v_words, v_passages, v_wordsInPassage, v_letters, v_passageOf, v_cues)
        else
          (f_X0_endPassage v_passages v_wordsInPassage).bind fun q49 =>
          some (q49.1, v_words, q49.2.1, q49.2.2, v_letters, v_passageOf, v_cues)
      else
        if p1 = (32 : Int32) then
          some ((0 : Int32), v_words, v_passages, v_wordsInPassage, v_letters, v_passageOf, v_cues)
        else
          some ((1 : Int32), v_words, v_passages, v_wordsInPassage, v_letters, v_passageOf, v_cues)
  else
    (f_X0_append p1 v_words v_passages v_wordsInPassage v_letters v_passageOf v_cues).bind fun q9 =>
    some (q9.1, q9.2.1, v_passages, q9.2.2.1, q9.2.2.2.1, q9.2.2.2.2.1, q9.2.2.2.2.2)
def rm_X0_read : Room := { frames := 2, cells := 0, slots := 0, locals := 43 }
set_option maxHeartbeats 4000000 in
set_option maxRecDepth 100000 in
theorem c_X0_read (l : Launch) (dC : Nat → ClassId) (dI : Nat → Nat → Nat) (cI cZ cO : ClassId) (aC a_letters a_passageOf a_cues a_rowOf a_firstOfRow : Nat) (sz : Nat) (p1 : Int32) (p2 : Int32) (v_words : Int32) (v_passages : Int32) (v_wordsInPassage : Int32) (v_rows : Int32) (v_letters : (Nat → Int32)) (v_passageOf : (Nat → Int32)) (v_cues : (Nat → Int32)) (v_rowOf : (Nat → Int32)) (v_firstOfRow : (Nat → Int32)) (r : Int32) (o_words : Int32) (o_passages : Int32) (o_wordsInPassage : Int32) (o_letters : (Nat → Int32)) (o_passageOf : (Nat → Int32)) (o_cues : (Nat → Int32)) (hF : f_X0_read p1 p2 v_words v_passages v_wordsInPassage v_letters v_passageOf v_cues = some (r, o_words, o_passages, o_wordsInPassage, o_letters, o_passageOf, o_cues)) : Met l yX0_read wsX0_read rm_X0_read (va_Pc [.ref aC, .int p1, .int p2] (wrW dC dI cI cZ cO sz [(aC, .inr (0, [.int v_words, .int v_passages, .int v_wordsInPassage, .int v_rows, .ref a_letters, .ref a_passageOf, .ref a_cues, .ref a_rowOf, .ref a_firstOfRow])), (a_letters, .inl (cI, 120, .inl v_letters)), (a_passageOf, .inl (cI, 120, .inl v_passageOf)), (a_cues, .inl (cI, 120, .inl v_cues)), (a_rowOf, .inl (cI, 120, .inl v_rowOf)), (a_firstOfRow, .inl (cI, 120, .inl v_firstOfRow))])) (va_Qi (fun (q : Int32) (_ : Unit) => r = q) (wrE dC dI [(aC, .inr (0, [.int v_words, .int v_passages, .int v_wordsInPassage, .int v_rows, .ref a_letters, .ref a_passageOf, .ref a_cues, .ref a_rowOf, .ref a_firstOfRow])), (a_letters, .inl (cI, 120, .inl v_letters)), (a_passageOf, .inl (cI, 120, .inl v_passageOf)), (a_cues, .inl (cI, 120, .inl v_cues)), (a_rowOf, .inl (cI, 120, .inl v_rowOf)), (a_firstOfRow, .inl (cI, 120, .inl v_firstOfRow))] sz [(aC, .inr (0, [.int o_words, .int o_passages, .int o_wordsInPassage, .int v_rows, .ref a_letters, .ref a_passageOf, .ref a_cues, .ref a_rowOf, .ref a_firstOfRow])), (a_letters, .inl (cI, 120, .inl o_letters)), (a_passageOf, .inl (cI, 120, .inl o_passageOf)), (a_cues, .inl (cI, 120, .inl o_cues)), (a_rowOf, .inl (cI, 120, .inl v_rowOf)), (a_firstOfRow, .inl (cI, 120, .inl v_firstOfRow))]) (va_A [(aC, .inr (0, [.int v_words, .int v_passages, .int v_wordsInPassage, .int v_rows, .ref a_letters, .ref a_passageOf, .ref a_cues, .ref a_rowOf, .ref a_firstOfRow])), (a_letters, .inl (cI, 120, .inl v_letters)), (a_passageOf, .inl (cI, 120, .inl v_passageOf)), (a_cues, .inl (cI, 120, .inl v_cues)), (a_rowOf, .inl (cI, 120, .inl v_rowOf)), (a_firstOfRow, .inl (cI, 120, .inl v_firstOfRow))] sz)) 0 0 (va_A [(aC, .inr (0, [.int v_words, .int v_passages, .int v_wordsInPassage, .int v_rows, .ref a_letters, .ref a_passageOf, .ref a_cues, .ref a_rowOf, .ref a_firstOfRow])), (a_letters, .inl (cI, 120, .inl v_letters)), (a_passageOf, .inl (cI, 120, .inl v_passageOf)), (a_cues, .inl (cI, 120, .inl v_cues)), (a_rowOf, .inl (cI, 120, .inl v_rowOf)), (a_firstOfRow, .inl (cI, 120, .inl v_firstOfRow))] sz) := by
  refine Met.ofW (cc := cX0_read) (maxL := 3) (ret := (some .int)) (by decide) rfl ?_
  intro p e s m args below meth c s₁ B hml hv
  obtain ⟨rfl, hsz, hP, hK, hN, hD0⟩ := hv
  have hx := B.exec
  have hb := B.bytes
  have hr := B.returns
  have hts := atoms_spec (ws := wsX0_read) B.pre
  have hown : s.vm.findClass RX0 = some m.cls := findClass_of_methodNamed B.named
  have hlocks := B.notSynchronized
  subst hsz
  have hD := hD0.self (sz := s.heap.size)
  obtain ⟨Q, hQ⟩ : ∃ Q, Q = MQ below (va_Qi (fun (q : Int32) (_ : Unit) => r = q) (wrE dC dI [(aC, .inr (0, [.int v_words, .int v_passages, .int v_wordsInPassage, .int v_rows, .ref a_letters, .ref a_passageOf, .ref a_cues, .ref a_rowOf, .ref a_firstOfRow])), (a_letters, .inl (cI, 120, .inl v_letters)), (a_passageOf, .inl (cI, 120, .inl v_passageOf)), (a_cues, .inl (cI, 120, .inl v_cues)), (a_rowOf, .inl (cI, 120, .inl v_rowOf)), (a_firstOfRow, .inl (cI, 120, .inl v_firstOfRow))] s.heap.size [(aC, .inr (0, [.int o_words, .int o_passages, .int o_wordsInPassage, .int v_rows, .ref a_letters, .ref a_passageOf, .ref a_cues, .ref a_rowOf, .ref a_firstOfRow])), (a_letters, .inl (cI, 120, .inl o_letters)), (a_passageOf, .inl (cI, 120, .inl o_passageOf)), (a_cues, .inl (cI, 120, .inl o_cues)), (a_rowOf, .inl (cI, 120, .inl v_rowOf)), (a_firstOfRow, .inl (cI, 120, .inl v_firstOfRow))]) (va_A [(aC, .inr (0, [.int v_words, .int v_passages, .int v_wordsInPassage, .int v_rows, .ref a_letters, .ref a_passageOf, .ref a_cues, .ref a_rowOf, .ref a_firstOfRow])), (a_letters, .inl (cI, 120, .inl v_letters)), (a_passageOf, .inl (cI, 120, .inl v_passageOf)), (a_cues, .inl (cI, 120, .inl v_cues)), (a_rowOf, .inl (cI, 120, .inl v_rowOf)), (a_firstOfRow, .inl (cI, 120, .inl v_firstOfRow))] s.heap.size)) ([.ref aC, .int p1, .int p2] : List Value).toArray s 0 0 (va_A [(aC, .inr (0, [.int v_words, .int v_passages, .int v_wordsInPassage, .int v_rows, .ref a_letters, .ref a_passageOf, .ref a_cues, .ref a_rowOf, .ref a_firstOfRow])), (a_letters, .inl (cI, 120, .inl v_letters)), (a_passageOf, .inl (cI, 120, .inl v_passageOf)), (a_cues, .inl (cI, 120, .inl v_cues)), (a_rowOf, .inl (cI, 120, .inl v_rowOf)), (a_firstOfRow, .inl (cI, 120, .inl v_firstOfRow))] s.heap.size) := ⟨_, rfl⟩
  rw [← hQ]
  obtain ⟨A, hAe⟩ : ∃ A, A = va_A [(aC, .inr (0, [.int v_words, .int v_passages, .int v_wordsInPassage, .int v_rows, .ref a_letters, .ref a_passageOf, .ref a_cues, .ref a_rowOf, .ref a_firstOfRow])), (a_letters, .inl (cI, 120, .inl v_letters)), (a_passageOf, .inl (cI, 120, .inl v_passageOf)), (a_cues, .inl (cI, 120, .inl v_cues)), (a_rowOf, .inl (cI, 120, .inl v_rowOf)), (a_firstOfRow, .inl (cI, 120, .inl v_firstOfRow))] s.heap.size := ⟨_, rfl⟩
  rw [← hAe] at hD
  have hA : ∀ q : Nat, s.heap.size ≤ q → A q := fun q h => by rw [hAe]; exact Or.inr h
  obtain ⟨H, hH⟩ : ∃ H, H = s.heap := ⟨_, rfl⟩
  have hS : va_S A s.heap H [] := by rw [hH]; exact va_S.rf
  rw [← hH] at hP
  rw [← hH]
  have fl34 := hts (.fieldLink RX0 34 "Teleprompter$Script" "wordsInPassage" "I") (by decide +kernel)
  have inX0 : ∀ w ∈ u_ws RX0 TX0 9, w ∈ wsX0_read := by decide +kernel
  have hl := lv_entry ([.ref aC, .int p1, .int p2]) (n := 3) (Nat.le_of_ble_eq_true rfl)
  rw [lg_entry_eq]
  generalize (lg_sl ([.ref aC, .int p1, .int p2]) ++ List.replicate (3 - (lg_sl ([.ref aC, .int p1, .int p2])).length) Slot.unset).toArray = ls at hl ⊢
  have hl : lv_has ls 3 [(0, .ref aC), (1, .int p1), (2, .int p2)] := hl
  unfold f_X0_read at hF
  refine lv_iload_n hx hb dX0_read_0 rfl (lv_at hl 1 rfl) ?_
  obtain ⟨q_1, hq_1, hF⟩ := bindE hF
  have hPc := hP.sub (ws' := []) [] rfl
  refine vp_callSi (va_Run.run (va_runSN (As := [.int p1]) (rest := []) ⟨hx, hb, hml, hown, hts⟩ (c_X3_isLetter l dC dI cI cZ cO p1 q_1 hq_1) ⟨(va_cnB 1 hts gX0_read_X3_isLetter_n44 rfl rfl rfl (NW_X0_44 hN) (hts (.initialized RX3) (by decide +kernel)) (by decide +kernel) ⟨Nat.le_of_ble_eq_true rfl, Nat.le_of_ble_eq_true rfl⟩), hts (.static yX3_isLetter) (by decide +kernel), trivial⟩ ⟨fb_rd, pre_rd hPc hK hN⟩ rfl rfl hl.1 rfl (lv_room (Nat.le_of_ble_eq_true rfl)) dX0_read_1 ⟨Nat.zero_le _, Nat.zero_le _⟩)) (fun z_1 hz_1 => ?_)
  subst hz_1
  refine lv_if_eq (tgt := 13) hx hb dX0_read_4 (by decide) (fun c_4 => ?_) (fun c_4 => ?_)
  · have hF := (if_pos c_4).symm.trans hF
    refine lv_iload_n hx hb dX0_read_13 rfl (lv_at hl 1 rfl) ?_
    refine lv_bipush (v := (47 : Int32)) hx hb dX0_read_14 (by decide) ?_
    refine lv_icmp_ne (tgt := 35) hx hb dX0_read_16 (by decide) (fun c_16 => ?_) (fun c_16 => ?_)
    · have hF := (if_neg c_16).symm.trans hF
      refine lv_iload_n hx hb dX0_read_35 rfl (lv_at hl 1 rfl) ?_
      refine lv_bipush (v := (124 : Int32)) hx hb dX0_read_36 (by decide) ?_
      refine lv_icmp_ne (tgt := 57) hx hb dX0_read_38 (by decide) (fun c_38 => ?_) (fun c_38 => ?_)
      · have hF := (if_neg c_38).symm.trans hF
        refine lv_iload_n hx hb dX0_read_57 rfl (lv_at hl 1 rfl) ?_
        refine lv_bipush (v := (32 : Int32)) hx hb dX0_read_58 (by decide) ?_
        refine lv_icmp_ne (tgt := 67) hx hb dX0_read_60 (by decide) (fun c_60 => ?_) (fun c_60 => ?_)
        · have hF := (if_neg c_60).symm.trans hF
          refine lv_iconst (v := (1 : Int32)) hx hb dX0_read_67 (by decide) ?_
          have hF : some ((1 : Int32), v_words, v_passages, v_wordsInPassage, v_letters, v_passageOf, v_cues) = some (r, o_words, o_passages, o_wordsInPassage, o_letters, o_passageOf, o_cues) := hF
          have hP9 := hP
          have hD9 := hD
          cases hF
          subst hQ
          subst hAe
          exact W.iret hx hb hr (fun t ht hW => ⟨⟨_, (), rfl, rfl, ⟨by rw [ht]; exact hP9, hD9⟩⟩, hS.F ht⟩) hS.2.2 dX0_read_68
        · have hF := (if_pos c_60).symm.trans hF
          refine lv_iconst (v := (0 : Int32)) hx hb dX0_read_63 (by decide) ?_
          refine lv_goto (tgt := 68) hx hb dX0_read_64 (by decide) ?_
          have hF : some ((0 : Int32), v_words, v_passages, v_wordsInPassage, v_letters, v_passageOf, v_cues) = some (r, o_words, o_passages, o_wordsInPassage, o_letters, o_passageOf, o_cues) := hF
          have hP9 := hP
          have hD9 := hD
          cases hF
          subst hQ
          subst hAe
          exact W.iret hx hb hr (fun t ht hW => ⟨⟨_, (), rfl, rfl, ⟨by rw [ht]; exact hP9, hD9⟩⟩, hS.F ht⟩) hS.2.2 dX0_read_68
      · have hF := (if_pos c_38).symm.trans hF
        refine lv_aload_n hx hb dX0_read_41 rfl (lv_at hl 0 rfl) ?_
        refine va_get (D := (dC, dI)) (ci := 0) (v := .int v_wordsInPassage) (C := RX0) (T := TX0) (N := 9) hx hb hts inX0 hown hK hP 0 rfl rfl 2 (by decide) fl34 (fun _ h9 => h9) rfl dX0_read_42 ?_
        refine lv_if_le (tgt := 55) hx hb dX0_read_45 (by decide) (fun c_45 => ?_) (fun c_45 => ?_)
        · have hF := (if_pos c_45).symm.trans hF
          refine lv_iconst (v := (3 : Int32)) hx hb dX0_read_55 (by decide) ?_
          have hF : some ((3 : Int32), v_words, v_passages, v_wordsInPassage, v_letters, v_passageOf, v_cues) = some (r, o_words, o_passages, o_wordsInPassage, o_letters, o_passageOf, o_cues) := hF
          have hP9 := hP
          have hD9 := hD
          cases hF
          subst hQ
          subst hAe
          exact W.iret hx hb hr (fun t ht hW => ⟨⟨_, (), rfl, rfl, ⟨by rw [ht]; exact hP9, hD9⟩⟩, hS.F ht⟩) hS.2.2 dX0_read_56
        · have hF := (if_neg c_45).symm.trans hF
          refine lv_aload_n hx hb dX0_read_48 rfl (lv_at hl 0 rfl) ?_
          obtain ⟨q_49, hq_49, hF⟩ := bindE hF
          obtain ⟨r_49, u_49_passages, u_49_wordsInPassage⟩ := q_49
          have hPc := hP
          have hDc := hD
          have hFc := va_free (wc := [(aC, .inr (0, [.int v_words, .int v_passages, .int v_wordsInPassage, .int v_rows, .ref a_letters, .ref a_passageOf, .ref a_cues, .ref a_rowOf, .ref a_firstOfRow])), (a_letters, .inl (cI, 120, .inl v_letters)), (a_passageOf, .inl (cI, 120, .inl v_passageOf)), (a_cues, .inl (cI, 120, .inl v_cues)), (a_rowOf, .inl (cI, 120, .inl v_rowOf)), (a_firstOfRow, .inl (cI, 120, .inl v_firstOfRow))]) hD hS hA [0, 1, 2, 3, 4, 5] rfl
          refine va_calli (va_runV (As := []) (rest := []) ⟨hx, hb, hml, hown, hts⟩ (c_X0_endPassage l dC dI cI cZ cO aC a_letters a_passageOf a_cues a_rowOf a_firstOfRow H.size v_words v_passages v_wordsInPassage v_rows v_letters v_passageOf v_cues v_rowOf v_firstOfRow r_49 u_49_passages u_49_wordsInPassage hq_49) (cwV 0 hts gX0_read_X0_endPassage rfl rfl rfl (by decide +kernel) ⟨Nat.le_of_ble_eq_true rfl, Nat.le_of_ble_eq_true rfl⟩) ⟨fb_wr, va_recv hK hPc (ci := 0) (q0 := 0) rfl rfl, pre_wr hPc hK hN hDc⟩ rfl rfl hl.1 rfl (lv_room (Nat.le_of_ble_eq_true rfl)) dX0_read_49 ⟨Nat.zero_le _, Nat.zero_le _⟩) hS (fun q _ h => hFc q h) hFc (fun z_49 _ t H1 locs ht hvm hw hB hz1 hk1 hS => ?_)
          subst hw
          obtain ⟨hP1, hD1⟩ := hB
          rw [ht] at hP1
          obtain ⟨hP, hD⟩ := va_join (wr := []) (w1 := [(aC, .inr (0, [.int v_words, .int u_49_passages, .int u_49_wordsInPassage, .int v_rows, .ref a_letters, .ref a_passageOf, .ref a_cues, .ref a_rowOf, .ref a_firstOfRow])), (a_letters, .inl (cI, 120, .inl v_letters)), (a_passageOf, .inl (cI, 120, .inl v_passageOf)), (a_cues, .inl (cI, 120, .inl v_cues)), (a_rowOf, .inl (cI, 120, .inl v_rowOf)), (a_firstOfRow, .inl (cI, 120, .inl v_firstOfRow))]) hP hD [0, 1, 2, 3, 4, 5] [] rfl rfl (by decide) (by decide) hk1 hFc hP1 hD1
          generalize H1 = H at hP hS ⊢
          have hP : va_P (dC, dI) vwCl [(aC, .inr (0, [.int v_words, .int u_49_passages, .int u_49_wordsInPassage, .int v_rows, .ref a_letters, .ref a_passageOf, .ref a_cues, .ref a_rowOf, .ref a_firstOfRow])), (a_letters, .inl (cI, 120, .inl v_letters)), (a_passageOf, .inl (cI, 120, .inl v_passageOf)), (a_cues, .inl (cI, 120, .inl v_cues)), (a_rowOf, .inl (cI, 120, .inl v_rowOf)), (a_firstOfRow, .inl (cI, 120, .inl v_firstOfRow))] H := hP
          have hD : va_D A [(aC, .inr (0, [.int v_words, .int u_49_passages, .int u_49_wordsInPassage, .int v_rows, .ref a_letters, .ref a_passageOf, .ref a_cues, .ref a_rowOf, .ref a_firstOfRow])), (a_letters, .inl (cI, 120, .inl v_letters)), (a_passageOf, .inl (cI, 120, .inl v_passageOf)), (a_cues, .inl (cI, 120, .inl v_cues)), (a_rowOf, .inl (cI, 120, .inl v_rowOf)), (a_firstOfRow, .inl (cI, 120, .inl v_firstOfRow))] := hD
          refine lv_goto (tgt := 56) hx hb dX0_read_52 (by decide) ?_
          have hF : some (r_49, v_words, u_49_passages, u_49_wordsInPassage, v_letters, v_passageOf, v_cues) = some (r, o_words, o_passages, o_wordsInPassage, o_letters, o_passageOf, o_cues) := hF
          have hP9 := hP
          have hD9 := hD
          cases hF
          subst hQ
          subst hAe
          exact W.iret hx hb hr (fun t ht hW => ⟨⟨_, (), rfl, rfl, ⟨by rw [ht]; exact hP9, hD9⟩⟩, hS.F ht⟩) hS.2.2 dX0_read_56
    · have hF := (if_pos c_16).symm.trans hF
      refine lv_iload_n hx hb dX0_read_19 rfl (lv_at hl 2 rfl) ?_
      obtain ⟨q_20, hq_20, hF⟩ := bindE hF
      have hPc := hP.sub (ws' := []) [] rfl
      refine vp_callSi (va_Run.run (va_runSN (As := [.int p2]) (rest := []) ⟨hx, hb, hml, hown, hts⟩ (c_X3_isLetter l dC dI cI cZ cO p2 q_20 hq_20) ⟨(va_cnB 1 hts gX0_read_X3_isLetter_n44 rfl rfl rfl (NW_X0_44 hN) (hts (.initialized RX3) (by decide +kernel)) (by decide +kernel) ⟨Nat.le_of_ble_eq_true rfl, Nat.le_of_ble_eq_true rfl⟩), hts (.static yX3_isLetter) (by decide +kernel), trivial⟩ ⟨fb_rd, pre_rd hPc hK hN⟩ rfl rfl hl.1 rfl (lv_room (Nat.le_of_ble_eq_true rfl)) dX0_read_20 ⟨Nat.zero_le _, Nat.zero_le _⟩)) (fun z_20 hz_20 => ?_)
      subst hz_20
      refine lv_if_eq (tgt := 33) hx hb dX0_read_23 (by decide) (fun c_23 => ?_) (fun c_23 => ?_)
      · have hF := (if_pos c_23).symm.trans hF
        refine lv_iconst (v := (2 : Int32)) hx hb dX0_read_33 (by decide) ?_
        have hF : some ((2 : Int32), v_words, v_passages, v_wordsInPassage, v_letters, v_passageOf, v_cues) = some (r, o_words, o_passages, o_wordsInPassage, o_letters, o_passageOf, o_cues) := hF
        have hP9 := hP
        have hD9 := hD
        cases hF
        subst hQ
        subst hAe
        exact W.iret hx hb hr (fun t ht hW => ⟨⟨_, (), rfl, rfl, ⟨by rw [ht]; exact hP9, hD9⟩⟩, hS.F ht⟩) hS.2.2 dX0_read_34
      · have hF := (if_neg c_23).symm.trans hF
        refine lv_aload_n hx hb dX0_read_26 rfl (lv_at hl 0 rfl) ?_
        obtain ⟨q_27, hq_27, hF⟩ := bindE hF
        obtain ⟨r_27, u_27_cues⟩ := q_27
        have hPc := hP
        have hDc := hD
        have hFc := va_free (wc := [(aC, .inr (0, [.int v_words, .int v_passages, .int v_wordsInPassage, .int v_rows, .ref a_letters, .ref a_passageOf, .ref a_cues, .ref a_rowOf, .ref a_firstOfRow])), (a_letters, .inl (cI, 120, .inl v_letters)), (a_passageOf, .inl (cI, 120, .inl v_passageOf)), (a_cues, .inl (cI, 120, .inl v_cues)), (a_rowOf, .inl (cI, 120, .inl v_rowOf)), (a_firstOfRow, .inl (cI, 120, .inl v_firstOfRow))]) hD hS hA [0, 1, 2, 3, 4, 5] rfl
        refine va_calli (va_runV (As := []) (rest := []) ⟨hx, hb, hml, hown, hts⟩ (c_X0_setCue l dC dI cI cZ cO aC a_letters a_passageOf a_cues a_rowOf a_firstOfRow H.size v_words v_passages v_wordsInPassage v_rows v_letters v_passageOf v_cues v_rowOf v_firstOfRow r_27 u_27_cues hq_27) (cwV 0 hts gX0_read_X0_setCue rfl rfl rfl (by decide +kernel) ⟨Nat.le_of_ble_eq_true rfl, Nat.le_of_ble_eq_true rfl⟩) ⟨fb_wr, va_recv hK hPc (ci := 0) (q0 := 0) rfl rfl, pre_wr hPc hK hN hDc⟩ rfl rfl hl.1 rfl (lv_room (Nat.le_of_ble_eq_true rfl)) dX0_read_27 ⟨Nat.zero_le _, Nat.zero_le _⟩) hS (fun q _ h => hFc q h) hFc (fun z_27 _ t H1 locs ht hvm hw hB hz1 hk1 hS => ?_)
        subst hw
        obtain ⟨hP1, hD1⟩ := hB
        rw [ht] at hP1
        obtain ⟨hP, hD⟩ := va_join (wr := []) (w1 := [(aC, .inr (0, [.int v_words, .int v_passages, .int v_wordsInPassage, .int v_rows, .ref a_letters, .ref a_passageOf, .ref a_cues, .ref a_rowOf, .ref a_firstOfRow])), (a_letters, .inl (cI, 120, .inl v_letters)), (a_passageOf, .inl (cI, 120, .inl v_passageOf)), (a_cues, .inl (cI, 120, .inl u_27_cues)), (a_rowOf, .inl (cI, 120, .inl v_rowOf)), (a_firstOfRow, .inl (cI, 120, .inl v_firstOfRow))]) hP hD [0, 1, 2, 3, 4, 5] [] rfl rfl (by decide) (by decide) hk1 hFc hP1 hD1
        generalize H1 = H at hP hS ⊢
        have hP : va_P (dC, dI) vwCl [(aC, .inr (0, [.int v_words, .int v_passages, .int v_wordsInPassage, .int v_rows, .ref a_letters, .ref a_passageOf, .ref a_cues, .ref a_rowOf, .ref a_firstOfRow])), (a_letters, .inl (cI, 120, .inl v_letters)), (a_passageOf, .inl (cI, 120, .inl v_passageOf)), (a_cues, .inl (cI, 120, .inl u_27_cues)), (a_rowOf, .inl (cI, 120, .inl v_rowOf)), (a_firstOfRow, .inl (cI, 120, .inl v_firstOfRow))] H := hP
        have hD : va_D A [(aC, .inr (0, [.int v_words, .int v_passages, .int v_wordsInPassage, .int v_rows, .ref a_letters, .ref a_passageOf, .ref a_cues, .ref a_rowOf, .ref a_firstOfRow])), (a_letters, .inl (cI, 120, .inl v_letters)), (a_passageOf, .inl (cI, 120, .inl v_passageOf)), (a_cues, .inl (cI, 120, .inl u_27_cues)), (a_rowOf, .inl (cI, 120, .inl v_rowOf)), (a_firstOfRow, .inl (cI, 120, .inl v_firstOfRow))] := hD
        refine lv_goto (tgt := 34) hx hb dX0_read_30 (by decide) ?_
        have hF : some (r_27, v_words, v_passages, v_wordsInPassage, v_letters, v_passageOf, u_27_cues) = some (r, o_words, o_passages, o_wordsInPassage, o_letters, o_passageOf, o_cues) := hF
        have hP9 := hP
        have hD9 := hD
        cases hF
        subst hQ
        subst hAe
        exact W.iret hx hb hr (fun t ht hW => ⟨⟨_, (), rfl, rfl, ⟨by rw [ht]; exact hP9, hD9⟩⟩, hS.F ht⟩) hS.2.2 dX0_read_34
  · have hF := (if_neg c_4).symm.trans hF
    refine lv_aload_n hx hb dX0_read_7 rfl (lv_at hl 0 rfl) ?_
    refine lv_iload_n hx hb dX0_read_8 rfl (lv_at hl 1 rfl) ?_
    obtain ⟨q_9, hq_9, hF⟩ := bindE hF
    obtain ⟨r_9, u_9_words, u_9_wordsInPassage, u_9_letters, u_9_passageOf, u_9_cues⟩ := q_9
    have hPc := hP
    have hDc := hD
    have hFc := va_free (wc := [(aC, .inr (0, [.int v_words, .int v_passages, .int v_wordsInPassage, .int v_rows, .ref a_letters, .ref a_passageOf, .ref a_cues, .ref a_rowOf, .ref a_firstOfRow])), (a_letters, .inl (cI, 120, .inl v_letters)), (a_passageOf, .inl (cI, 120, .inl v_passageOf)), (a_cues, .inl (cI, 120, .inl v_cues)), (a_rowOf, .inl (cI, 120, .inl v_rowOf)), (a_firstOfRow, .inl (cI, 120, .inl v_firstOfRow))]) hD hS hA [0, 1, 2, 3, 4, 5] rfl
    refine va_calli (va_runV (As := [.int p1]) (rest := []) ⟨hx, hb, hml, hown, hts⟩ (c_X0_append l dC dI cI cZ cO aC a_letters a_passageOf a_cues a_rowOf a_firstOfRow H.size p1 v_words v_passages v_wordsInPassage v_rows v_letters v_passageOf v_cues v_rowOf v_firstOfRow r_9 u_9_words u_9_wordsInPassage u_9_letters u_9_passageOf u_9_cues hq_9) (cwV 1 hts gX0_read_X0_append rfl rfl rfl (by decide +kernel) ⟨Nat.le_of_ble_eq_true rfl, Nat.le_of_ble_eq_true rfl⟩) ⟨fb_wr, va_recv hK hPc (ci := 0) (q0 := 0) rfl rfl, pre_wr hPc hK hN hDc⟩ rfl rfl hl.1 rfl (lv_room (Nat.le_of_ble_eq_true rfl)) dX0_read_9 ⟨Nat.zero_le _, Nat.zero_le _⟩) hS (fun q _ h => hFc q h) hFc (fun z_9 _ t H1 locs ht hvm hw hB hz1 hk1 hS => ?_)
    subst hw
    obtain ⟨hP1, hD1⟩ := hB
    rw [ht] at hP1
    obtain ⟨hP, hD⟩ := va_join (wr := []) (w1 := [(aC, .inr (0, [.int u_9_words, .int v_passages, .int u_9_wordsInPassage, .int v_rows, .ref a_letters, .ref a_passageOf, .ref a_cues, .ref a_rowOf, .ref a_firstOfRow])), (a_letters, .inl (cI, 120, .inl u_9_letters)), (a_passageOf, .inl (cI, 120, .inl u_9_passageOf)), (a_cues, .inl (cI, 120, .inl u_9_cues)), (a_rowOf, .inl (cI, 120, .inl v_rowOf)), (a_firstOfRow, .inl (cI, 120, .inl v_firstOfRow))]) hP hD [0, 1, 2, 3, 4, 5] [] rfl rfl (by decide) (by decide) hk1 hFc hP1 hD1
    generalize H1 = H at hP hS ⊢
    have hP : va_P (dC, dI) vwCl [(aC, .inr (0, [.int u_9_words, .int v_passages, .int u_9_wordsInPassage, .int v_rows, .ref a_letters, .ref a_passageOf, .ref a_cues, .ref a_rowOf, .ref a_firstOfRow])), (a_letters, .inl (cI, 120, .inl u_9_letters)), (a_passageOf, .inl (cI, 120, .inl u_9_passageOf)), (a_cues, .inl (cI, 120, .inl u_9_cues)), (a_rowOf, .inl (cI, 120, .inl v_rowOf)), (a_firstOfRow, .inl (cI, 120, .inl v_firstOfRow))] H := hP
    have hD : va_D A [(aC, .inr (0, [.int u_9_words, .int v_passages, .int u_9_wordsInPassage, .int v_rows, .ref a_letters, .ref a_passageOf, .ref a_cues, .ref a_rowOf, .ref a_firstOfRow])), (a_letters, .inl (cI, 120, .inl u_9_letters)), (a_passageOf, .inl (cI, 120, .inl u_9_passageOf)), (a_cues, .inl (cI, 120, .inl u_9_cues)), (a_rowOf, .inl (cI, 120, .inl v_rowOf)), (a_firstOfRow, .inl (cI, 120, .inl v_firstOfRow))] := hD
    have hF : some (r_9, u_9_words, v_passages, u_9_wordsInPassage, u_9_letters, u_9_passageOf, u_9_cues) = some (r, o_words, o_passages, o_wordsInPassage, o_letters, o_passageOf, o_cues) := hF
    have hP9 := hP
    have hD9 := hD
    cases hF
    subst hQ
    subst hAe
    exact W.iret hx hb hr (fun t ht hW => ⟨⟨_, (), rfl, rfl, ⟨by rw [ht]; exact hP9, hD9⟩⟩, hS.F ht⟩) hS.2.2 dX0_read_12
def f_X0_has (p1 : Int32) (v_words : Int32) : Option Int32 :=
  if p1 < (0 : Int32) then
    some (0 : Int32)
  else
    if v_words ≤ p1 then
      some (0 : Int32)
    else
      some (1 : Int32)
def rm_X0_has : Room := { frames := 0, cells := 0, slots := 0, locals := 0 }
set_option maxHeartbeats 4000000 in
set_option maxRecDepth 100000 in
theorem c_X0_has (l : Launch) (dC : Nat → ClassId) (dI : Nat → Nat → Nat) (cI cZ cO : ClassId) (aC a_letters a_passageOf a_cues a_rowOf a_firstOfRow : Nat) (p1 : Int32) (v_words : Int32) (v_passages : Int32) (v_wordsInPassage : Int32) (v_rows : Int32) (v_letters : (Nat → Int32)) (v_passageOf : (Nat → Int32)) (v_cues : (Nat → Int32)) (v_rowOf : (Nat → Int32)) (v_firstOfRow : (Nat → Int32)) (r : Int32) (hF : f_X0_has p1 v_words = some r) : Met l yX0_has wsX0_has rm_X0_has (va_Pc [.ref aC, .int p1] (rdW dC dI cI cZ cO [(aC, .inr (0, [.int v_words, .int v_passages, .int v_wordsInPassage, .int v_rows, .ref a_letters, .ref a_passageOf, .ref a_cues, .ref a_rowOf, .ref a_firstOfRow])), (a_letters, .inl (cI, 120, .inl v_letters)), (a_passageOf, .inl (cI, 120, .inl v_passageOf)), (a_cues, .inl (cI, 120, .inl v_cues)), (a_rowOf, .inl (cI, 120, .inl v_rowOf)), (a_firstOfRow, .inl (cI, 120, .inl v_firstOfRow))])) (vp_Si (fun q => r = q)) 0 0 (fun _ => False) := by
  refine Met.ofW (cc := cX0_has) (maxL := 2) (ret := (some .boolean)) (by decide) rfl ?_
  intro p e s m args below meth c s₁ B hml hv
  obtain ⟨rfl, hP, hK, hN⟩ := hv
  have hx := B.exec
  have hb := B.bytes
  have hr := B.returns
  have hts := atoms_spec (ws := wsX0_has) B.pre
  have hown : s.vm.findClass RX0 = some m.cls := findClass_of_methodNamed B.named
  have hlocks := B.notSynchronized
  obtain ⟨Q, hQ⟩ : ∃ Q, Q = MQ below (vp_Si (fun q => r = q)) ([.ref aC, .int p1] : List Value).toArray s 0 0 (fun _ => False) := ⟨_, rfl⟩
  rw [← hQ]
  have hS : va_S (fun _ => False) s.heap s.heap [] := va_S.rf
  have fl27 := hts (.fieldLink RX0 27 "Teleprompter$Script" "words" "I") (by decide +kernel)
  have inX0 : ∀ w ∈ u_ws RX0 TX0 9, w ∈ wsX0_has := by decide +kernel
  have hl := lv_entry ([.ref aC, .int p1]) (n := 2) (Nat.le_of_ble_eq_true rfl)
  rw [lg_entry_eq]
  generalize (lg_sl ([.ref aC, .int p1]) ++ List.replicate (2 - (lg_sl ([.ref aC, .int p1])).length) Slot.unset).toArray = ls at hl ⊢
  have hl : lv_has ls 2 [(0, .ref aC), (1, .int p1)] := hl
  unfold f_X0_has at hF
  refine lv_iload_n hx hb dX0_has_0 rfl (lv_at hl 1 rfl) ?_
  refine lv_if_lt (tgt := 16) hx hb dX0_has_1 (by decide) (fun c_1 => ?_) (fun c_1 => ?_)
  · have hF := (if_pos c_1).symm.trans hF
    refine lv_iconst (v := (0 : Int32)) hx hb dX0_has_16 (by decide) ?_
    have hF : some (0 : Int32) = some r := hF
    cases hF
    subst hQ
    exact W.zret (ty := .boolean) hx hb hr rfl (fun t ht hW => ⟨_, rfl, rfl, ht⟩) (fun q hq => absurd hq List.not_mem_nil) dX0_has_17
  · have hF := (if_neg c_1).symm.trans hF
    refine lv_iload_n hx hb dX0_has_4 rfl (lv_at hl 1 rfl) ?_
    refine lv_aload_n hx hb dX0_has_5 rfl (lv_at hl 0 rfl) ?_
    refine va_get (D := (dC, dI)) (ci := 0) (v := .int v_words) (C := RX0) (T := TX0) (N := 9) hx hb hts inX0 hown hK hP 0 rfl rfl 0 (by decide) fl27 (fun _ h9 => h9) rfl dX0_has_6 ?_
    refine lv_icmp_ge (tgt := 16) hx hb dX0_has_9 (by decide) (fun c_9 => ?_) (fun c_9 => ?_)
    · have hF := (if_pos c_9).symm.trans hF
      refine lv_iconst (v := (0 : Int32)) hx hb dX0_has_16 (by decide) ?_
      have hF : some (0 : Int32) = some r := hF
      cases hF
      subst hQ
      exact W.zret (ty := .boolean) hx hb hr rfl (fun t ht hW => ⟨_, rfl, rfl, ht⟩) (fun q hq => absurd hq List.not_mem_nil) dX0_has_17
    · have hF := (if_neg c_9).symm.trans hF
      refine lv_iconst (v := (1 : Int32)) hx hb dX0_has_12 (by decide) ?_
      refine lv_goto (tgt := 17) hx hb dX0_has_13 (by decide) ?_
      have hF : some (1 : Int32) = some r := hF
      cases hF
      subst hQ
      exact W.zret (ty := .boolean) hx hb hr rfl (fun t ht hW => ⟨_, rfl, rfl, ht⟩) (fun q hq => absurd hq List.not_mem_nil) dX0_has_17
def f_X0_rowLength_27 (v_firstOfRow : (Nat → Int32)) (x1 : Int32) (s0 : Int32) : Option Int32 :=
  (f_X3_at 120 x1 v_firstOfRow).bind fun q34 =>
    some (s0 - q34)
def f_X0_rowLength (p1 : Int32) (v_words : Int32) (v_rows : Int32) (v_firstOfRow : (Nat → Int32)) : Option Int32 :=
  if v_rows ≤ (p1 + (1 : Int32)) then
    f_X0_rowLength_27 v_firstOfRow p1 v_words
  else
    (f_X3_at 120 (p1 + (1 : Int32)) v_firstOfRow).bind fun q17 =>
    f_X0_rowLength_27 v_firstOfRow p1 q17
def rm_X0_rowLength : Room := { frames := 1, cells := 0, slots := 0, locals := 21 }
set_option maxHeartbeats 4000000 in
set_option maxRecDepth 100000 in
theorem c_X0_rowLength (l : Launch) (dC : Nat → ClassId) (dI : Nat → Nat → Nat) (cI cZ cO : ClassId) (aC a_letters a_passageOf a_cues a_rowOf a_firstOfRow : Nat) (p1 : Int32) (v_words : Int32) (v_passages : Int32) (v_wordsInPassage : Int32) (v_rows : Int32) (v_letters : (Nat → Int32)) (v_passageOf : (Nat → Int32)) (v_cues : (Nat → Int32)) (v_rowOf : (Nat → Int32)) (v_firstOfRow : (Nat → Int32)) (r : Int32) (hF : f_X0_rowLength p1 v_words v_rows v_firstOfRow = some r) : Met l yX0_rowLength wsX0_rowLength rm_X0_rowLength (va_Pc [.ref aC, .int p1] (rdW dC dI cI cZ cO [(aC, .inr (0, [.int v_words, .int v_passages, .int v_wordsInPassage, .int v_rows, .ref a_letters, .ref a_passageOf, .ref a_cues, .ref a_rowOf, .ref a_firstOfRow])), (a_letters, .inl (cI, 120, .inl v_letters)), (a_passageOf, .inl (cI, 120, .inl v_passageOf)), (a_cues, .inl (cI, 120, .inl v_cues)), (a_rowOf, .inl (cI, 120, .inl v_rowOf)), (a_firstOfRow, .inl (cI, 120, .inl v_firstOfRow))])) (vp_Si (fun q => r = q)) 0 0 (fun _ => False) := by
  refine Met.ofW (cc := cX0_rowLength) (maxL := 3) (ret := (some .int)) (by decide) rfl ?_
  intro p e s m args below meth c s₁ B hml hv
  obtain ⟨rfl, hP, hK, hN⟩ := hv
  have hx := B.exec
  have hb := B.bytes
  have hr := B.returns
  have hts := atoms_spec (ws := wsX0_rowLength) B.pre
  have hown : s.vm.findClass RX0 = some m.cls := findClass_of_methodNamed B.named
  have hlocks := B.notSynchronized
  obtain ⟨Q, hQ⟩ : ∃ Q, Q = MQ below (vp_Si (fun q => r = q)) ([.ref aC, .int p1] : List Value).toArray s 0 0 (fun _ => False) := ⟨_, rfl⟩
  rw [← hQ]
  have hS : va_S (fun _ => False) s.heap s.heap [] := va_S.rf
  have fl24 := hts (.fieldLink RX0 24 "Teleprompter$Script" "firstOfRow" "[I") (by decide +kernel)
  have fl37 := hts (.fieldLink RX0 37 "Teleprompter$Script" "rows" "I") (by decide +kernel)
  have fl27 := hts (.fieldLink RX0 27 "Teleprompter$Script" "words" "I") (by decide +kernel)
  have inX0 : ∀ w ∈ u_ws RX0 TX0 9, w ∈ wsX0_rowLength := by decide +kernel
  have hl := lv_entry ([.ref aC, .int p1]) (n := 3) (Nat.le_of_ble_eq_true rfl)
  rw [lg_entry_eq]
  generalize (lg_sl ([.ref aC, .int p1]) ++ List.replicate (3 - (lg_sl ([.ref aC, .int p1])).length) Slot.unset).toArray = ls at hl ⊢
  have hl : lv_has ls 3 [(0, .ref aC), (1, .int p1)] := hl
  have B27 : ∀ (x1_27 : Int32) (s0_27 : Int32), f_X0_rowLength_27 v_firstOfRow x1_27 s0_27 = some r → ∀ ls : Array Slot, lv_has ls 3 [(0, .ref aC), (1, .int x1_27)] → W p l e (headSpec wsX0_rowLength rm_X0_rowLength).room s m ([.ref aC, .int p1] : List Value).toArray below meth c s.heap [] 0 0 Q (F0 m 27 ls [.int s0_27]) := by
    intro x1_27 s0_27 hF ls hl
    unfold f_X0_rowLength_27 at hF
    refine lv_istore_n (lv' := [(2, .int s0_27), (0, .ref aC), (1, .int x1_27)]) hx hb dX0_rowLength_27 rfl hl (by decide) rfl (fun ls hl => ?_)
    refine lv_iload_n hx hb dX0_rowLength_28 rfl (lv_at hl 0 rfl) ?_
    refine lv_aload_n hx hb dX0_rowLength_29 rfl (lv_at hl 1 rfl) ?_
    refine va_get (D := (dC, dI)) (ci := 0) (v := .ref a_firstOfRow) (C := RX0) (T := TX0) (N := 9) hx hb hts inX0 hown hK hP 0 rfl rfl 8 (by decide) fl24 (fun _ h9 => h9) rfl dX0_rowLength_30 ?_
    refine lv_iload_n hx hb dX0_rowLength_33 rfl (lv_at hl 2 rfl) ?_
    obtain ⟨q_34, hq_34, hF⟩ := bindE hF
    have hPc := hP.sub (ws' := [(a_firstOfRow, .inl (cI, 120, .inl v_firstOfRow))]) [5] rfl
    refine vp_callSi (va_Run.run (va_runSN (As := [.ref a_firstOfRow, .int x1_27]) (rest := [.int s0_27]) ⟨hx, hb, hml, hown, hts⟩ (c_X3_at l dC dI cI cZ cO a_firstOfRow 120 x1_27 v_firstOfRow q_34 hq_34) ⟨(va_cnB 2 hts gX0_rowLength_X3_at_n63 rfl rfl rfl (NW_X0_63 hN) (hts (.initialized RX3) (by decide +kernel)) (by decide +kernel) ⟨Nat.le_of_ble_eq_true rfl, Nat.le_of_ble_eq_true rfl⟩), hts (.static yX3_at) (by decide +kernel), trivial⟩ ⟨fb_rd, pre_rd hPc hK hN⟩ rfl rfl hl.1 rfl (lv_room (Nat.le_of_ble_eq_true rfl)) dX0_rowLength_34 ⟨Nat.zero_le _, Nat.zero_le _⟩)) (fun z_34 hz_34 => ?_)
    subst hz_34
    refine lv_isub hx hb dX0_rowLength_37 ?_
    have hF : some (s0_27 - q_34) = some r := hF
    cases hF
    subst hQ
    exact W.iret hx hb hr (fun t ht hW => ⟨_, rfl, rfl, ht⟩) (fun q hq => absurd hq List.not_mem_nil) dX0_rowLength_38
  unfold f_X0_rowLength at hF
  refine lv_iload_n hx hb dX0_rowLength_0 rfl (lv_at hl 1 rfl) ?_
  refine lv_iconst (v := (1 : Int32)) hx hb dX0_rowLength_1 (by decide) ?_
  refine lv_iadd hx hb dX0_rowLength_2 ?_
  refine lv_aload_n hx hb dX0_rowLength_3 rfl (lv_at hl 0 rfl) ?_
  refine va_get (D := (dC, dI)) (ci := 0) (v := .int v_rows) (C := RX0) (T := TX0) (N := 9) hx hb hts inX0 hown hK hP 0 rfl rfl 3 (by decide) fl37 (fun _ h9 => h9) rfl dX0_rowLength_4 ?_
  refine lv_icmp_ge (tgt := 23) hx hb dX0_rowLength_7 (by decide) (fun c_7 => ?_) (fun c_7 => ?_)
  · have hF := (if_pos c_7).symm.trans hF
    refine lv_aload_n hx hb dX0_rowLength_23 rfl (lv_at hl 0 rfl) ?_
    refine va_get (D := (dC, dI)) (ci := 0) (v := .int v_words) (C := RX0) (T := TX0) (N := 9) hx hb hts inX0 hown hK hP 0 rfl rfl 0 (by decide) fl27 (fun _ h9 => h9) rfl dX0_rowLength_24 ?_
    exact B27 p1 v_words hF _ (lv_sub hl [0, 1] rfl)
  · have hF := (if_neg c_7).symm.trans hF
    refine lv_aload_n hx hb dX0_rowLength_10 rfl (lv_at hl 0 rfl) ?_
    refine va_get (D := (dC, dI)) (ci := 0) (v := .ref a_firstOfRow) (C := RX0) (T := TX0) (N := 9) hx hb hts inX0 hown hK hP 0 rfl rfl 8 (by decide) fl24 (fun _ h9 => h9) rfl dX0_rowLength_11 ?_
    refine lv_iload_n hx hb dX0_rowLength_14 rfl (lv_at hl 1 rfl) ?_
    refine lv_iconst (v := (1 : Int32)) hx hb dX0_rowLength_15 (by decide) ?_
    refine lv_iadd hx hb dX0_rowLength_16 ?_
    obtain ⟨q_17, hq_17, hF⟩ := bindE hF
    have hPc := hP.sub (ws' := [(a_firstOfRow, .inl (cI, 120, .inl v_firstOfRow))]) [5] rfl
    refine vp_callSi (va_Run.run (va_runSN (As := [.ref a_firstOfRow, .int (p1 + (1 : Int32))]) (rest := []) ⟨hx, hb, hml, hown, hts⟩ (c_X3_at l dC dI cI cZ cO a_firstOfRow 120 (p1 + (1 : Int32)) v_firstOfRow q_17 hq_17) ⟨(va_cnB 2 hts gX0_rowLength_X3_at_n63 rfl rfl rfl (NW_X0_63 hN) (hts (.initialized RX3) (by decide +kernel)) (by decide +kernel) ⟨Nat.le_of_ble_eq_true rfl, Nat.le_of_ble_eq_true rfl⟩), hts (.static yX3_at) (by decide +kernel), trivial⟩ ⟨fb_rd, pre_rd hPc hK hN⟩ rfl rfl hl.1 rfl (lv_room (Nat.le_of_ble_eq_true rfl)) dX0_rowLength_17 ⟨Nat.zero_le _, Nat.zero_le _⟩)) (fun z_17 hz_17 => ?_)
    subst hz_17
    refine lv_goto (tgt := 27) hx hb dX0_rowLength_20 (by decide) ?_
    exact B27 p1 q_17 hF _ (lv_sub hl [0, 1] rfl)
def f_X0_cueCount_4 (v_words : Int32) (v_cues : (Nat → Int32)) : Nat → Int32 → Int32 → Option Int32
  | 0, _, _ => none
  | n + 1, x1, x2 =>
    if v_words ≤ x2 then
      some x1
    else
      (f_X3_at 120 x2 v_cues).bind fun q17 =>
      if q17 = (0 : Int32) then
        f_X0_cueCount_4 v_words v_cues n x1 (x2 + 1)
      else
        f_X0_cueCount_4 v_words v_cues n (x1 + 1) (x2 + 1)
def f_X0_cueCount (v_words : Int32) (v_cues : (Nat → Int32)) : Option Int32 :=
  f_X0_cueCount_4 v_words v_cues gas (0 : Int32) (0 : Int32)
def rm_X0_cueCount : Room := { frames := 1, cells := 0, slots := 0, locals := 21 }
set_option maxHeartbeats 4000000 in
set_option maxRecDepth 100000 in
theorem c_X0_cueCount (l : Launch) (dC : Nat → ClassId) (dI : Nat → Nat → Nat) (cI cZ cO : ClassId) (aC a_letters a_passageOf a_cues a_rowOf a_firstOfRow : Nat) (v_words : Int32) (v_passages : Int32) (v_wordsInPassage : Int32) (v_rows : Int32) (v_letters : (Nat → Int32)) (v_passageOf : (Nat → Int32)) (v_cues : (Nat → Int32)) (v_rowOf : (Nat → Int32)) (v_firstOfRow : (Nat → Int32)) (r : Int32) (hF : f_X0_cueCount v_words v_cues = some r) : Met l yX0_cueCount wsX0_cueCount rm_X0_cueCount (va_Pc [.ref aC] (rdW dC dI cI cZ cO [(aC, .inr (0, [.int v_words, .int v_passages, .int v_wordsInPassage, .int v_rows, .ref a_letters, .ref a_passageOf, .ref a_cues, .ref a_rowOf, .ref a_firstOfRow])), (a_letters, .inl (cI, 120, .inl v_letters)), (a_passageOf, .inl (cI, 120, .inl v_passageOf)), (a_cues, .inl (cI, 120, .inl v_cues)), (a_rowOf, .inl (cI, 120, .inl v_rowOf)), (a_firstOfRow, .inl (cI, 120, .inl v_firstOfRow))])) (vp_Si (fun q => r = q)) 0 0 (fun _ => False) := by
  refine Met.ofW (cc := cX0_cueCount) (maxL := 3) (ret := (some .int)) (by decide) rfl ?_
  intro p e s m args below meth c s₁ B hml hv
  obtain ⟨rfl, hP, hK, hN⟩ := hv
  have hx := B.exec
  have hb := B.bytes
  have hr := B.returns
  have hts := atoms_spec (ws := wsX0_cueCount) B.pre
  have hown : s.vm.findClass RX0 = some m.cls := findClass_of_methodNamed B.named
  have hlocks := B.notSynchronized
  obtain ⟨Q, hQ⟩ : ∃ Q, Q = MQ below (vp_Si (fun q => r = q)) ([.ref aC] : List Value).toArray s 0 0 (fun _ => False) := ⟨_, rfl⟩
  rw [← hQ]
  have hS : va_S (fun _ => False) s.heap s.heap [] := va_S.rf
  have fl27 := hts (.fieldLink RX0 27 "Teleprompter$Script" "words" "I") (by decide +kernel)
  have fl18 := hts (.fieldLink RX0 18 "Teleprompter$Script" "cues" "[I") (by decide +kernel)
  have inX0 : ∀ w ∈ u_ws RX0 TX0 9, w ∈ wsX0_cueCount := by decide +kernel
  have hl := lv_entry ([.ref aC]) (n := 3) (Nat.le_of_ble_eq_true rfl)
  rw [lg_entry_eq]
  generalize (lg_sl ([.ref aC]) ++ List.replicate (3 - (lg_sl ([.ref aC])).length) Slot.unset).toArray = ls at hl ⊢
  have hl : lv_has ls 3 [(0, .ref aC)] := hl
  have B4 : ∀ (n_4 : Nat) (x1_4 : Int32) (x2_4 : Int32), f_X0_cueCount_4 v_words v_cues n_4 x1_4 x2_4 = some r → ∀ ls : Array Slot, lv_has ls 3 [(0, .ref aC), (1, .int x1_4), (2, .int x2_4)] → W p l e (headSpec wsX0_cueCount rm_X0_cueCount).room s m ([.ref aC] : List Value).toArray below meth c s.heap [] 0 0 Q (F0 m 4 ls []) := by
    intro n_4
    induction n_4 with
    | zero => intro x1_4 x2_4 hF; exact noneE hF
    | succ n_4 ih4 =>
      intro x1_4 x2_4 hF ls hl
      rw [f_X0_cueCount_4] at hF
      refine lv_iload_n hx hb dX0_cueCount_4 rfl (lv_at hl 2 rfl) ?_
      refine lv_aload_n hx hb dX0_cueCount_5 rfl (lv_at hl 0 rfl) ?_
      refine va_get (D := (dC, dI)) (ci := 0) (v := .int v_words) (C := RX0) (T := TX0) (N := 9) hx hb hts inX0 hown hK hP 0 rfl rfl 0 (by decide) fl27 (fun _ h9 => h9) rfl dX0_cueCount_6 ?_
      refine lv_icmp_ge (tgt := 32) hx hb dX0_cueCount_9 (by decide) (fun c_9 => ?_) (fun c_9 => ?_)
      · have hF := (if_pos c_9).symm.trans hF
        refine lv_iload_n hx hb dX0_cueCount_32 rfl (lv_at hl 1 rfl) ?_
        have hF : some x1_4 = some r := hF
        cases hF
        subst hQ
        exact W.iret hx hb hr (fun t ht hW => ⟨_, rfl, rfl, ht⟩) (fun q hq => absurd hq List.not_mem_nil) dX0_cueCount_33
      · have hF := (if_neg c_9).symm.trans hF
        refine lv_aload_n hx hb dX0_cueCount_12 rfl (lv_at hl 0 rfl) ?_
        refine va_get (D := (dC, dI)) (ci := 0) (v := .ref a_cues) (C := RX0) (T := TX0) (N := 9) hx hb hts inX0 hown hK hP 0 rfl rfl 6 (by decide) fl18 (fun _ h9 => h9) rfl dX0_cueCount_13 ?_
        refine lv_iload_n hx hb dX0_cueCount_16 rfl (lv_at hl 2 rfl) ?_
        obtain ⟨q_17, hq_17, hF⟩ := bindE hF
        have hPc := hP.sub (ws' := [(a_cues, .inl (cI, 120, .inl v_cues))]) [3] rfl
        refine vp_callSi (va_Run.run (va_runSN (As := [.ref a_cues, .int x2_4]) (rest := []) ⟨hx, hb, hml, hown, hts⟩ (c_X3_at l dC dI cI cZ cO a_cues 120 x2_4 v_cues q_17 hq_17) ⟨(va_cnB 2 hts gX0_cueCount_X3_at_n63 rfl rfl rfl (NW_X0_63 hN) (hts (.initialized RX3) (by decide +kernel)) (by decide +kernel) ⟨Nat.le_of_ble_eq_true rfl, Nat.le_of_ble_eq_true rfl⟩), hts (.static yX3_at) (by decide +kernel), trivial⟩ ⟨fb_rd, pre_rd hPc hK hN⟩ rfl rfl hl.1 rfl (lv_room (Nat.le_of_ble_eq_true rfl)) dX0_cueCount_17 ⟨Nat.zero_le _, Nat.zero_le _⟩)) (fun z_17 hz_17 => ?_)
        subst hz_17
        refine lv_if_eq (tgt := 26) hx hb dX0_cueCount_20 (by decide) (fun c_20 => ?_) (fun c_20 => ?_)
        · have hF := (if_pos c_20).symm.trans hF
          refine lv_iinc (v := (x2_4 + 1)) (lv' := [(2, .int (x2_4 + 1)), (0, .ref aC), (1, .int x1_4)]) hx hb dX0_cueCount_26 hl (k := 2) rfl rfl (by decide) rfl (fun ls hl => ?_)
          refine lv_goto (tgt := 4) hx hb dX0_cueCount_29 (by decide) ?_
          exact ih4 x1_4 (x2_4 + 1) hF _ (lv_sub hl [1, 2, 0] rfl)
        · have hF := (if_neg c_20).symm.trans hF
          refine lv_iinc (v := (x1_4 + 1)) (lv' := [(1, .int (x1_4 + 1)), (0, .ref aC), (2, .int x2_4)]) hx hb dX0_cueCount_23 hl (k := 1) rfl rfl (by decide) rfl (fun ls hl => ?_)
          refine lv_iinc (v := (x2_4 + 1)) (lv' := [(2, .int (x2_4 + 1)), (1, .int (x1_4 + 1)), (0, .ref aC)]) hx hb dX0_cueCount_26 hl (k := 2) rfl rfl (by decide) rfl (fun ls hl => ?_)
          refine lv_goto (tgt := 4) hx hb dX0_cueCount_29 (by decide) ?_
          exact ih4 (x1_4 + 1) (x2_4 + 1) hF _ (lv_sub hl [2, 1, 0] rfl)
  unfold f_X0_cueCount at hF
  refine lv_iconst (v := (0 : Int32)) hx hb dX0_cueCount_0 (by decide) ?_
  refine lv_istore_n (lv' := [(1, .int (0 : Int32)), (0, .ref aC)]) hx hb dX0_cueCount_1 rfl hl (by decide) rfl (fun ls hl => ?_)
  refine lv_iconst (v := (0 : Int32)) hx hb dX0_cueCount_2 (by decide) ?_
  refine lv_istore_n (lv' := [(2, .int (0 : Int32)), (1, .int (0 : Int32)), (0, .ref aC)]) hx hb dX0_cueCount_3 rfl hl (by decide) rfl (fun ls hl => ?_)
  exact B4 gas (0 : Int32) (0 : Int32) hF _ (lv_sub hl [2, 1, 0] rfl)
def f_X0_freeCue (p1 : Int32) (v_cues : (Nat → Int32)) : Option (Nat → Int32) :=
  (f_X3_put 120 p1 (2 : Int32) v_cues).bind fun q6 =>
  some q6
def rm_X0_freeCue : Room := { frames := 1, cells := 0, slots := 0, locals := 22 }
set_option maxHeartbeats 4000000 in
set_option maxRecDepth 100000 in
theorem c_X0_freeCue (l : Launch) (dC : Nat → ClassId) (dI : Nat → Nat → Nat) (cI cZ cO : ClassId) (aC a_letters a_passageOf a_cues a_rowOf a_firstOfRow : Nat) (sz : Nat) (p1 : Int32) (v_words : Int32) (v_passages : Int32) (v_wordsInPassage : Int32) (v_rows : Int32) (v_letters : (Nat → Int32)) (v_passageOf : (Nat → Int32)) (v_cues : (Nat → Int32)) (v_rowOf : (Nat → Int32)) (v_firstOfRow : (Nat → Int32)) (o_cues : (Nat → Int32)) (hF : f_X0_freeCue p1 v_cues = some o_cues) : Met l yX0_freeCue wsX0_freeCue rm_X0_freeCue (va_Pc [.ref aC, .int p1] (wrW dC dI cI cZ cO sz [(aC, .inr (0, [.int v_words, .int v_passages, .int v_wordsInPassage, .int v_rows, .ref a_letters, .ref a_passageOf, .ref a_cues, .ref a_rowOf, .ref a_firstOfRow])), (a_letters, .inl (cI, 120, .inl v_letters)), (a_passageOf, .inl (cI, 120, .inl v_passageOf)), (a_cues, .inl (cI, 120, .inl v_cues)), (a_rowOf, .inl (cI, 120, .inl v_rowOf)), (a_firstOfRow, .inl (cI, 120, .inl v_firstOfRow))])) (va_Qv (fun (_ : Unit) => True) (wrE dC dI [(aC, .inr (0, [.int v_words, .int v_passages, .int v_wordsInPassage, .int v_rows, .ref a_letters, .ref a_passageOf, .ref a_cues, .ref a_rowOf, .ref a_firstOfRow])), (a_letters, .inl (cI, 120, .inl v_letters)), (a_passageOf, .inl (cI, 120, .inl v_passageOf)), (a_cues, .inl (cI, 120, .inl v_cues)), (a_rowOf, .inl (cI, 120, .inl v_rowOf)), (a_firstOfRow, .inl (cI, 120, .inl v_firstOfRow))] sz [(aC, .inr (0, [.int v_words, .int v_passages, .int v_wordsInPassage, .int v_rows, .ref a_letters, .ref a_passageOf, .ref a_cues, .ref a_rowOf, .ref a_firstOfRow])), (a_letters, .inl (cI, 120, .inl v_letters)), (a_passageOf, .inl (cI, 120, .inl v_passageOf)), (a_cues, .inl (cI, 120, .inl o_cues)), (a_rowOf, .inl (cI, 120, .inl v_rowOf)), (a_firstOfRow, .inl (cI, 120, .inl v_firstOfRow))]) (va_A [(aC, .inr (0, [.int v_words, .int v_passages, .int v_wordsInPassage, .int v_rows, .ref a_letters, .ref a_passageOf, .ref a_cues, .ref a_rowOf, .ref a_firstOfRow])), (a_letters, .inl (cI, 120, .inl v_letters)), (a_passageOf, .inl (cI, 120, .inl v_passageOf)), (a_cues, .inl (cI, 120, .inl v_cues)), (a_rowOf, .inl (cI, 120, .inl v_rowOf)), (a_firstOfRow, .inl (cI, 120, .inl v_firstOfRow))] sz)) 0 0 (va_A [(aC, .inr (0, [.int v_words, .int v_passages, .int v_wordsInPassage, .int v_rows, .ref a_letters, .ref a_passageOf, .ref a_cues, .ref a_rowOf, .ref a_firstOfRow])), (a_letters, .inl (cI, 120, .inl v_letters)), (a_passageOf, .inl (cI, 120, .inl v_passageOf)), (a_cues, .inl (cI, 120, .inl v_cues)), (a_rowOf, .inl (cI, 120, .inl v_rowOf)), (a_firstOfRow, .inl (cI, 120, .inl v_firstOfRow))] sz) := by
  refine Met.ofW (cc := cX0_freeCue) (maxL := 2) (ret := none) (by decide) rfl ?_
  intro p e s m args below meth c s₁ B hml hv
  obtain ⟨rfl, hsz, hP, hK, hN, hD0⟩ := hv
  have hx := B.exec
  have hb := B.bytes
  have hr := B.returns
  have hts := atoms_spec (ws := wsX0_freeCue) B.pre
  have hown : s.vm.findClass RX0 = some m.cls := findClass_of_methodNamed B.named
  have hlocks := B.notSynchronized
  subst hsz
  have hD := hD0.self (sz := s.heap.size)
  obtain ⟨Q, hQ⟩ : ∃ Q, Q = MQ below (va_Qv (fun (_ : Unit) => True) (wrE dC dI [(aC, .inr (0, [.int v_words, .int v_passages, .int v_wordsInPassage, .int v_rows, .ref a_letters, .ref a_passageOf, .ref a_cues, .ref a_rowOf, .ref a_firstOfRow])), (a_letters, .inl (cI, 120, .inl v_letters)), (a_passageOf, .inl (cI, 120, .inl v_passageOf)), (a_cues, .inl (cI, 120, .inl v_cues)), (a_rowOf, .inl (cI, 120, .inl v_rowOf)), (a_firstOfRow, .inl (cI, 120, .inl v_firstOfRow))] s.heap.size [(aC, .inr (0, [.int v_words, .int v_passages, .int v_wordsInPassage, .int v_rows, .ref a_letters, .ref a_passageOf, .ref a_cues, .ref a_rowOf, .ref a_firstOfRow])), (a_letters, .inl (cI, 120, .inl v_letters)), (a_passageOf, .inl (cI, 120, .inl v_passageOf)), (a_cues, .inl (cI, 120, .inl o_cues)), (a_rowOf, .inl (cI, 120, .inl v_rowOf)), (a_firstOfRow, .inl (cI, 120, .inl v_firstOfRow))]) (va_A [(aC, .inr (0, [.int v_words, .int v_passages, .int v_wordsInPassage, .int v_rows, .ref a_letters, .ref a_passageOf, .ref a_cues, .ref a_rowOf, .ref a_firstOfRow])), (a_letters, .inl (cI, 120, .inl v_letters)), (a_passageOf, .inl (cI, 120, .inl v_passageOf)), (a_cues, .inl (cI, 120, .inl v_cues)), (a_rowOf, .inl (cI, 120, .inl v_rowOf)), (a_firstOfRow, .inl (cI, 120, .inl v_firstOfRow))] s.heap.size)) ([.ref aC, .int p1] : List Value).toArray s 0 0 (va_A [(aC, .inr (0, [.int v_words, .int v_passages, .int v_wordsInPassage, .int v_rows, .ref a_letters, .ref a_passageOf, .ref a_cues, .ref a_rowOf, .ref a_firstOfRow])), (a_letters, .inl (cI, 120, .inl v_letters)), (a_passageOf, .inl (cI, 120, .inl v_passageOf)), (a_cues, .inl (cI, 120, .inl v_cues)), (a_rowOf, .inl (cI, 120, .inl v_rowOf)), (a_firstOfRow, .inl (cI, 120, .inl v_firstOfRow))] s.heap.size) := ⟨_, rfl⟩
  rw [← hQ]
  obtain ⟨A, hAe⟩ : ∃ A, A = va_A [(aC, .inr (0, [.int v_words, .int v_passages, .int v_wordsInPassage, .int v_rows, .ref a_letters, .ref a_passageOf, .ref a_cues, .ref a_rowOf, .ref a_firstOfRow])), (a_letters, .inl (cI, 120, .inl v_letters)), (a_passageOf, .inl (cI, 120, .inl v_passageOf)), (a_cues, .inl (cI, 120, .inl v_cues)), (a_rowOf, .inl (cI, 120, .inl v_rowOf)), (a_firstOfRow, .inl (cI, 120, .inl v_firstOfRow))] s.heap.size := ⟨_, rfl⟩
  rw [← hAe] at hD
  have hA : ∀ q : Nat, s.heap.size ≤ q → A q := fun q h => by rw [hAe]; exact Or.inr h
  obtain ⟨H, hH⟩ : ∃ H, H = s.heap := ⟨_, rfl⟩
  have hS : va_S A s.heap H [] := by rw [hH]; exact va_S.rf
  rw [← hH] at hP
  rw [← hH]
  have fl18 := hts (.fieldLink RX0 18 "Teleprompter$Script" "cues" "[I") (by decide +kernel)
  have inX0 : ∀ w ∈ u_ws RX0 TX0 9, w ∈ wsX0_freeCue := by decide +kernel
  have hl := lv_entry ([.ref aC, .int p1]) (n := 2) (Nat.le_of_ble_eq_true rfl)
  rw [lg_entry_eq]
  generalize (lg_sl ([.ref aC, .int p1]) ++ List.replicate (2 - (lg_sl ([.ref aC, .int p1])).length) Slot.unset).toArray = ls at hl ⊢
  have hl : lv_has ls 2 [(0, .ref aC), (1, .int p1)] := hl
  unfold f_X0_freeCue at hF
  refine lv_aload_n hx hb dX0_freeCue_0 rfl (lv_at hl 0 rfl) ?_
  refine va_get (D := (dC, dI)) (ci := 0) (v := .ref a_cues) (C := RX0) (T := TX0) (N := 9) hx hb hts inX0 hown hK hP 0 rfl rfl 6 (by decide) fl18 (fun _ h9 => h9) rfl dX0_freeCue_1 ?_
  refine lv_iload_n hx hb dX0_freeCue_4 rfl (lv_at hl 1 rfl) ?_
  refine lv_iconst (v := (2 : Int32)) hx hb dX0_freeCue_5 (by decide) ?_
  obtain ⟨q_6, hq_6, hF⟩ := bindE hF
  have hPc := hP.sub (ws' := [(a_cues, .inl (cI, 120, .inl v_cues))]) [3] rfl
  have hDc := hD.sub (ws' := [(a_cues, .inl (cI, 120, .inl v_cues))]) [3] (by decide) rfl
  have hFc := va_free (wc := [(a_cues, .inl (cI, 120, .inl v_cues))]) hD hS hA [3] rfl
  refine va_callv (va_runSN (As := [.ref a_cues, .int p1, .int (2 : Int32)]) (rest := []) ⟨hx, hb, hml, hown, hts⟩ (c_X3_put l dC dI cI cZ cO a_cues H.size 120 p1 (2 : Int32) v_cues q_6 hq_6) ⟨(va_cnB 3 hts gX0_freeCue_X3_put_n59 rfl rfl rfl (NW_X0_59 hN) (hts (.initialized RX3) (by decide +kernel)) (by decide +kernel) ⟨Nat.le_of_ble_eq_true rfl, Nat.le_of_ble_eq_true rfl⟩), hts (.static yX3_put) (by decide +kernel), trivial⟩ ⟨fb_wr, pre_wr hPc hK hN hDc⟩ rfl rfl hl.1 rfl (lv_room (Nat.le_of_ble_eq_true rfl)) dX0_freeCue_6 ⟨Nat.zero_le _, Nat.zero_le _⟩) hS (fun q _ h => hFc q h) hFc (fun _ t H1 locs ht hvm hw hB hz1 hk1 hS => ?_)
  obtain ⟨hP1, hD1⟩ := hB
  rw [ht] at hP1
  obtain ⟨hP, hD⟩ := va_join (wr := [(aC, .inr (0, [.int v_words, .int v_passages, .int v_wordsInPassage, .int v_rows, .ref a_letters, .ref a_passageOf, .ref a_cues, .ref a_rowOf, .ref a_firstOfRow])), (a_letters, .inl (cI, 120, .inl v_letters)), (a_passageOf, .inl (cI, 120, .inl v_passageOf)), (a_rowOf, .inl (cI, 120, .inl v_rowOf)), (a_firstOfRow, .inl (cI, 120, .inl v_firstOfRow))]) (w1 := [(a_cues, .inl (cI, 120, .inl q_6))]) hP hD [3] [0, 1, 2, 4, 5] rfl rfl (by decide) (by decide) hk1 hFc hP1 hD1
  generalize H1 = H at hP hS ⊢
  have hP : va_P (dC, dI) vwCl [(aC, .inr (0, [.int v_words, .int v_passages, .int v_wordsInPassage, .int v_rows, .ref a_letters, .ref a_passageOf, .ref a_cues, .ref a_rowOf, .ref a_firstOfRow])), (a_letters, .inl (cI, 120, .inl v_letters)), (a_passageOf, .inl (cI, 120, .inl v_passageOf)), (a_rowOf, .inl (cI, 120, .inl v_rowOf)), (a_firstOfRow, .inl (cI, 120, .inl v_firstOfRow)), (a_cues, .inl (cI, 120, .inl q_6))] H := hP
  have hD : va_D A [(aC, .inr (0, [.int v_words, .int v_passages, .int v_wordsInPassage, .int v_rows, .ref a_letters, .ref a_passageOf, .ref a_cues, .ref a_rowOf, .ref a_firstOfRow])), (a_letters, .inl (cI, 120, .inl v_letters)), (a_passageOf, .inl (cI, 120, .inl v_passageOf)), (a_rowOf, .inl (cI, 120, .inl v_rowOf)), (a_firstOfRow, .inl (cI, 120, .inl v_firstOfRow)), (a_cues, .inl (cI, 120, .inl q_6))] := hD
  have hF : some q_6 = some o_cues := hF
  have hP9 := hP.sub (ws' := [(aC, .inr (0, [.int v_words, .int v_passages, .int v_wordsInPassage, .int v_rows, .ref a_letters, .ref a_passageOf, .ref a_cues, .ref a_rowOf, .ref a_firstOfRow])), (a_letters, .inl (cI, 120, .inl v_letters)), (a_passageOf, .inl (cI, 120, .inl v_passageOf)), (a_cues, .inl (cI, 120, .inl q_6)), (a_rowOf, .inl (cI, 120, .inl v_rowOf)), (a_firstOfRow, .inl (cI, 120, .inl v_firstOfRow))]) [0, 1, 2, 5, 3, 4] rfl
  have hD9 := hD.sub (ws' := [(aC, .inr (0, [.int v_words, .int v_passages, .int v_wordsInPassage, .int v_rows, .ref a_letters, .ref a_passageOf, .ref a_cues, .ref a_rowOf, .ref a_firstOfRow])), (a_letters, .inl (cI, 120, .inl v_letters)), (a_passageOf, .inl (cI, 120, .inl v_passageOf)), (a_cues, .inl (cI, 120, .inl q_6)), (a_rowOf, .inl (cI, 120, .inl v_rowOf)), (a_firstOfRow, .inl (cI, 120, .inl v_firstOfRow))]) [0, 1, 2, 5, 3, 4] (by decide) rfl
  cases hF
  subst hQ
  subst hAe
  exact W.vret hx hb hr (fun t ht hW => ⟨⟨(), rfl, trivial, ⟨by rw [ht]; exact hP9, hD9⟩⟩, hS.F ht⟩) hS.2.2 dX0_freeCue_9
def f_X0_passWaitingBefore_4 (v_words : Int32) (x1 : Int32) : Nat → Int32 → Int32 → (Nat → Int32) → Option (Int32 × (Nat → Int32))
  | 0, _, _, _ => none
  | n + 1, x2, x3, v_cues =>
    if v_words ≤ x3 then
      some (x2, v_cues)
    else
      if x1 ≤ x3 then
        some (x2, v_cues)
      else
        (f_X3_at 120 x3 v_cues).bind fun q22 =>
        if q22 = (1 : Int32) then
          (f_X3_put 120 x3 (3 : Int32) v_cues).bind fun q35 =>
          f_X0_passWaitingBefore_4 v_words x1 n (x2 + 1) (x3 + 1) q35
        else
          f_X0_passWaitingBefore_4 v_words x1 n x2 (x3 + 1) v_cues
def f_X0_passWaitingBefore (p1 : Int32) (v_words : Int32) (v_cues : (Nat → Int32)) : Option (Int32 × (Nat → Int32)) :=
  f_X0_passWaitingBefore_4 v_words p1 gas (0 : Int32) (0 : Int32) v_cues
def rm_X0_passWaitingBefore : Room := { frames := 1, cells := 0, slots := 0, locals := 22 }
set_option maxHeartbeats 4000000 in
set_option maxRecDepth 100000 in
theorem c_X0_passWaitingBefore (l : Launch) (dC : Nat → ClassId) (dI : Nat → Nat → Nat) (cI cZ cO : ClassId) (aC a_letters a_passageOf a_cues a_rowOf a_firstOfRow : Nat) (sz : Nat) (p1 : Int32) (v_words : Int32) (v_passages : Int32) (v_wordsInPassage : Int32) (v_rows : Int32) (v_letters : (Nat → Int32)) (v_passageOf : (Nat → Int32)) (v_cues : (Nat → Int32)) (v_rowOf : (Nat → Int32)) (v_firstOfRow : (Nat → Int32)) (r : Int32) (o_cues : (Nat → Int32)) (hF : f_X0_passWaitingBefore p1 v_words v_cues = some (r, o_cues)) : Met l yX0_passWaitingBefore wsX0_passWaitingBefore rm_X0_passWaitingBefore (va_Pc [.ref aC, .int p1] (wrW dC dI cI cZ cO sz [(aC, .inr (0, [.int v_words, .int v_passages, .int v_wordsInPassage, .int v_rows, .ref a_letters, .ref a_passageOf, .ref a_cues, .ref a_rowOf, .ref a_firstOfRow])), (a_letters, .inl (cI, 120, .inl v_letters)), (a_passageOf, .inl (cI, 120, .inl v_passageOf)), (a_cues, .inl (cI, 120, .inl v_cues)), (a_rowOf, .inl (cI, 120, .inl v_rowOf)), (a_firstOfRow, .inl (cI, 120, .inl v_firstOfRow))])) (va_Qi (fun (q : Int32) (_ : Unit) => r = q) (wrE dC dI [(aC, .inr (0, [.int v_words, .int v_passages, .int v_wordsInPassage, .int v_rows, .ref a_letters, .ref a_passageOf, .ref a_cues, .ref a_rowOf, .ref a_firstOfRow])), (a_letters, .inl (cI, 120, .inl v_letters)), (a_passageOf, .inl (cI, 120, .inl v_passageOf)), (a_cues, .inl (cI, 120, .inl v_cues)), (a_rowOf, .inl (cI, 120, .inl v_rowOf)), (a_firstOfRow, .inl (cI, 120, .inl v_firstOfRow))] sz [(aC, .inr (0, [.int v_words, .int v_passages, .int v_wordsInPassage, .int v_rows, .ref a_letters, .ref a_passageOf, .ref a_cues, .ref a_rowOf, .ref a_firstOfRow])), (a_letters, .inl (cI, 120, .inl v_letters)), (a_passageOf, .inl (cI, 120, .inl v_passageOf)), (a_cues, .inl (cI, 120, .inl o_cues)), (a_rowOf, .inl (cI, 120, .inl v_rowOf)), (a_firstOfRow, .inl (cI, 120, .inl v_firstOfRow))]) (va_A [(aC, .inr (0, [.int v_words, .int v_passages, .int v_wordsInPassage, .int v_rows, .ref a_letters, .ref a_passageOf, .ref a_cues, .ref a_rowOf, .ref a_firstOfRow])), (a_letters, .inl (cI, 120, .inl v_letters)), (a_passageOf, .inl (cI, 120, .inl v_passageOf)), (a_cues, .inl (cI, 120, .inl v_cues)), (a_rowOf, .inl (cI, 120, .inl v_rowOf)), (a_firstOfRow, .inl (cI, 120, .inl v_firstOfRow))] sz)) 0 0 (va_A [(aC, .inr (0, [.int v_words, .int v_passages, .int v_wordsInPassage, .int v_rows, .ref a_letters, .ref a_passageOf, .ref a_cues, .ref a_rowOf, .ref a_firstOfRow])), (a_letters, .inl (cI, 120, .inl v_letters)), (a_passageOf, .inl (cI, 120, .inl v_passageOf)), (a_cues, .inl (cI, 120, .inl v_cues)), (a_rowOf, .inl (cI, 120, .inl v_rowOf)), (a_firstOfRow, .inl (cI, 120, .inl v_firstOfRow))] sz) := by
  refine Met.ofW (cc := cX0_passWaitingBefore) (maxL := 4) (ret := (some .int)) (by decide) rfl ?_
  intro p e s m args below meth c s₁ B hml hv
  obtain ⟨rfl, hsz, hP, hK, hN, hD0⟩ := hv
  have hx := B.exec
  have hb := B.bytes
  have hr := B.returns
  have hts := atoms_spec (ws := wsX0_passWaitingBefore) B.pre
  have hown : s.vm.findClass RX0 = some m.cls := findClass_of_methodNamed B.named
  have hlocks := B.notSynchronized
  subst hsz
  have hD := hD0.self (sz := s.heap.size)
  obtain ⟨Q, hQ⟩ : ∃ Q, Q = MQ below (va_Qi (fun (q : Int32) (_ : Unit) => r = q) (wrE dC dI [(aC, .inr (0, [.int v_words, .int v_passages, .int v_wordsInPassage, .int v_rows, .ref a_letters, .ref a_passageOf, .ref a_cues, .ref a_rowOf, .ref a_firstOfRow])), (a_letters, .inl (cI, 120, .inl v_letters)), (a_passageOf, .inl (cI, 120, .inl v_passageOf)), (a_cues, .inl (cI, 120, .inl v_cues)), (a_rowOf, .inl (cI, 120, .inl v_rowOf)), (a_firstOfRow, .inl (cI, 120, .inl v_firstOfRow))] s.heap.size [(aC, .inr (0, [.int v_words, .int v_passages, .int v_wordsInPassage, .int v_rows, .ref a_letters, .ref a_passageOf, .ref a_cues, .ref a_rowOf, .ref a_firstOfRow])), (a_letters, .inl (cI, 120, .inl v_letters)), (a_passageOf, .inl (cI, 120, .inl v_passageOf)), (a_cues, .inl (cI, 120, .inl o_cues)), (a_rowOf, .inl (cI, 120, .inl v_rowOf)), (a_firstOfRow, .inl (cI, 120, .inl v_firstOfRow))]) (va_A [(aC, .inr (0, [.int v_words, .int v_passages, .int v_wordsInPassage, .int v_rows, .ref a_letters, .ref a_passageOf, .ref a_cues, .ref a_rowOf, .ref a_firstOfRow])), (a_letters, .inl (cI, 120, .inl v_letters)), (a_passageOf, .inl (cI, 120, .inl v_passageOf)), (a_cues, .inl (cI, 120, .inl v_cues)), (a_rowOf, .inl (cI, 120, .inl v_rowOf)), (a_firstOfRow, .inl (cI, 120, .inl v_firstOfRow))] s.heap.size)) ([.ref aC, .int p1] : List Value).toArray s 0 0 (va_A [(aC, .inr (0, [.int v_words, .int v_passages, .int v_wordsInPassage, .int v_rows, .ref a_letters, .ref a_passageOf, .ref a_cues, .ref a_rowOf, .ref a_firstOfRow])), (a_letters, .inl (cI, 120, .inl v_letters)), (a_passageOf, .inl (cI, 120, .inl v_passageOf)), (a_cues, .inl (cI, 120, .inl v_cues)), (a_rowOf, .inl (cI, 120, .inl v_rowOf)), (a_firstOfRow, .inl (cI, 120, .inl v_firstOfRow))] s.heap.size) := ⟨_, rfl⟩
  rw [← hQ]
  obtain ⟨A, hAe⟩ : ∃ A, A = va_A [(aC, .inr (0, [.int v_words, .int v_passages, .int v_wordsInPassage, .int v_rows, .ref a_letters, .ref a_passageOf, .ref a_cues, .ref a_rowOf, .ref a_firstOfRow])), (a_letters, .inl (cI, 120, .inl v_letters)), (a_passageOf, .inl (cI, 120, .inl v_passageOf)), (a_cues, .inl (cI, 120, .inl v_cues)), (a_rowOf, .inl (cI, 120, .inl v_rowOf)), (a_firstOfRow, .inl (cI, 120, .inl v_firstOfRow))] s.heap.size := ⟨_, rfl⟩
  rw [← hAe] at hD
  have hA : ∀ q : Nat, s.heap.size ≤ q → A q := fun q h => by rw [hAe]; exact Or.inr h
  obtain ⟨H, hH⟩ : ∃ H, H = s.heap := ⟨_, rfl⟩
  have hS : va_S A s.heap H [] := by rw [hH]; exact va_S.rf
  rw [← hH] at hP
  rw [← hH]
  have fl27 := hts (.fieldLink RX0 27 "Teleprompter$Script" "words" "I") (by decide +kernel)
  have fl18 := hts (.fieldLink RX0 18 "Teleprompter$Script" "cues" "[I") (by decide +kernel)
  have inX0 : ∀ w ∈ u_ws RX0 TX0 9, w ∈ wsX0_passWaitingBefore := by decide +kernel
  have hl := lv_entry ([.ref aC, .int p1]) (n := 4) (Nat.le_of_ble_eq_true rfl)
  rw [lg_entry_eq]
  generalize (lg_sl ([.ref aC, .int p1]) ++ List.replicate (4 - (lg_sl ([.ref aC, .int p1])).length) Slot.unset).toArray = ls at hl ⊢
  have hl : lv_has ls 4 [(0, .ref aC), (1, .int p1)] := hl
  have B4 : ∀ (n_4 : Nat) (x1_4 : Int32) (x2_4 : Int32) (x3_4 : Int32) (v_cues_4 : (Nat → Int32)), f_X0_passWaitingBefore_4 v_words x1_4 n_4 x2_4 x3_4 v_cues_4 = some (r, o_cues) → ∀ (H : Heap) (locs : List Loc), va_P (dC, dI) vwCl [(aC, .inr (0, [.int v_words, .int v_passages, .int v_wordsInPassage, .int v_rows, .ref a_letters, .ref a_passageOf, .ref a_cues, .ref a_rowOf, .ref a_firstOfRow])), (a_letters, .inl (cI, 120, .inl v_letters)), (a_passageOf, .inl (cI, 120, .inl v_passageOf)), (a_cues, .inl (cI, 120, .inl v_cues_4)), (a_rowOf, .inl (cI, 120, .inl v_rowOf)), (a_firstOfRow, .inl (cI, 120, .inl v_firstOfRow))] H → va_D A [(aC, .inr (0, [.int v_words, .int v_passages, .int v_wordsInPassage, .int v_rows, .ref a_letters, .ref a_passageOf, .ref a_cues, .ref a_rowOf, .ref a_firstOfRow])), (a_letters, .inl (cI, 120, .inl v_letters)), (a_passageOf, .inl (cI, 120, .inl v_passageOf)), (a_cues, .inl (cI, 120, .inl v_cues_4)), (a_rowOf, .inl (cI, 120, .inl v_rowOf)), (a_firstOfRow, .inl (cI, 120, .inl v_firstOfRow))] → va_S A s.heap H locs → ∀ ls : Array Slot, lv_has ls 4 [(0, .ref aC), (1, .int x1_4), (2, .int x2_4), (3, .int x3_4)] → W p l e (headSpec wsX0_passWaitingBefore rm_X0_passWaitingBefore).room s m ([.ref aC, .int p1] : List Value).toArray below meth c H locs 0 0 Q (F0 m 4 ls []) := by
    intro n_4
    induction n_4 with
    | zero => intro x1_4 x2_4 x3_4 v_cues_4 hF; exact noneE hF
    | succ n_4 ih4 =>
      intro x1_4 x2_4 x3_4 v_cues_4 hF H locs hP hD hS ls hl
      rw [f_X0_passWaitingBefore_4] at hF
      refine lv_iload_n hx hb dX0_passWaitingBefore_4 rfl (lv_at hl 3 rfl) ?_
      refine lv_aload_n hx hb dX0_passWaitingBefore_5 rfl (lv_at hl 0 rfl) ?_
      refine va_get (D := (dC, dI)) (ci := 0) (v := .int v_words) (C := RX0) (T := TX0) (N := 9) hx hb hts inX0 hown hK hP 0 rfl rfl 0 (by decide) fl27 (fun _ h9 => h9) rfl dX0_passWaitingBefore_6 ?_
      refine lv_icmp_ge (tgt := 47) hx hb dX0_passWaitingBefore_9 (by decide) (fun c_9 => ?_) (fun c_9 => ?_)
      · have hF := (if_pos c_9).symm.trans hF
        refine lv_iload_n hx hb dX0_passWaitingBefore_47 rfl (lv_at hl 2 rfl) ?_
        have hF : some (x2_4, v_cues_4) = some (r, o_cues) := hF
        have hP9 := hP
        have hD9 := hD
        cases hF
        subst hQ
        subst hAe
        exact W.iret hx hb hr (fun t ht hW => ⟨⟨_, (), rfl, rfl, ⟨by rw [ht]; exact hP9, hD9⟩⟩, hS.F ht⟩) hS.2.2 dX0_passWaitingBefore_48
      · have hF := (if_neg c_9).symm.trans hF
        refine lv_iload_n hx hb dX0_passWaitingBefore_12 rfl (lv_at hl 3 rfl) ?_
        refine lv_iload_n hx hb dX0_passWaitingBefore_13 rfl (lv_at hl 1 rfl) ?_
        refine lv_icmp_ge (tgt := 47) hx hb dX0_passWaitingBefore_14 (by decide) (fun c_14 => ?_) (fun c_14 => ?_)
        · have hF := (if_pos c_14).symm.trans hF
          refine lv_iload_n hx hb dX0_passWaitingBefore_47 rfl (lv_at hl 2 rfl) ?_
          have hF : some (x2_4, v_cues_4) = some (r, o_cues) := hF
          have hP9 := hP
          have hD9 := hD
          cases hF
          subst hQ
          subst hAe
          exact W.iret hx hb hr (fun t ht hW => ⟨⟨_, (), rfl, rfl, ⟨by rw [ht]; exact hP9, hD9⟩⟩, hS.F ht⟩) hS.2.2 dX0_passWaitingBefore_48
        · have hF := (if_neg c_14).symm.trans hF
          refine lv_aload_n hx hb dX0_passWaitingBefore_17 rfl (lv_at hl 0 rfl) ?_
          refine va_get (D := (dC, dI)) (ci := 0) (v := .ref a_cues) (C := RX0) (T := TX0) (N := 9) hx hb hts inX0 hown hK hP 0 rfl rfl 6 (by decide) fl18 (fun _ h9 => h9) rfl dX0_passWaitingBefore_18 ?_
          refine lv_iload_n hx hb dX0_passWaitingBefore_21 rfl (lv_at hl 3 rfl) ?_
          obtain ⟨q_22, hq_22, hF⟩ := bindE hF
          have hPc := hP.sub (ws' := [(a_cues, .inl (cI, 120, .inl v_cues_4))]) [3] rfl
          refine vp_callSi (va_Run.run (va_runSN (As := [.ref a_cues, .int x3_4]) (rest := []) ⟨hx, hb, hml, hown, hts⟩ (c_X3_at l dC dI cI cZ cO a_cues 120 x3_4 v_cues_4 q_22 hq_22) ⟨(va_cnB 2 hts gX0_passWaitingBefore_X3_at_n63 rfl rfl rfl (NW_X0_63 hN) (hts (.initialized RX3) (by decide +kernel)) (by decide +kernel) ⟨Nat.le_of_ble_eq_true rfl, Nat.le_of_ble_eq_true rfl⟩), hts (.static yX3_at) (by decide +kernel), trivial⟩ ⟨fb_rd, pre_rd hPc hK hN⟩ rfl rfl hl.1 rfl (lv_room (Nat.le_of_ble_eq_true rfl)) dX0_passWaitingBefore_22 ⟨Nat.zero_le _, Nat.zero_le _⟩)) (fun z_22 hz_22 => ?_)
          subst hz_22
          refine lv_iconst (v := (1 : Int32)) hx hb dX0_passWaitingBefore_25 (by decide) ?_
          refine lv_icmp_ne (tgt := 41) hx hb dX0_passWaitingBefore_26 (by decide) (fun c_26 => ?_) (fun c_26 => ?_)
          · have hF := (if_neg c_26).symm.trans hF
            refine lv_iinc (v := (x3_4 + 1)) (lv' := [(3, .int (x3_4 + 1)), (0, .ref aC), (1, .int x1_4), (2, .int x2_4)]) hx hb dX0_passWaitingBefore_41 hl (k := 3) rfl rfl (by decide) rfl (fun ls hl => ?_)
            refine lv_goto (tgt := 4) hx hb dX0_passWaitingBefore_44 (by decide) ?_
            exact ih4 x1_4 x2_4 (x3_4 + 1) v_cues_4 hF _ _ hP hD hS _ (lv_sub hl [1, 2, 3, 0] rfl)
          · have hF := (if_pos c_26).symm.trans hF
            refine lv_aload_n hx hb dX0_passWaitingBefore_29 rfl (lv_at hl 0 rfl) ?_
            refine va_get (D := (dC, dI)) (ci := 0) (v := .ref a_cues) (C := RX0) (T := TX0) (N := 9) hx hb hts inX0 hown hK hP 0 rfl rfl 6 (by decide) fl18 (fun _ h9 => h9) rfl dX0_passWaitingBefore_30 ?_
            refine lv_iload_n hx hb dX0_passWaitingBefore_33 rfl (lv_at hl 3 rfl) ?_
            refine lv_iconst (v := (3 : Int32)) hx hb dX0_passWaitingBefore_34 (by decide) ?_
            obtain ⟨q_35, hq_35, hF⟩ := bindE hF
            have hPc := hP.sub (ws' := [(a_cues, .inl (cI, 120, .inl v_cues_4))]) [3] rfl
            have hDc := hD.sub (ws' := [(a_cues, .inl (cI, 120, .inl v_cues_4))]) [3] (by decide) rfl
            have hFc := va_free (wc := [(a_cues, .inl (cI, 120, .inl v_cues_4))]) hD hS hA [3] rfl
            refine va_callv (va_runSN (As := [.ref a_cues, .int x3_4, .int (3 : Int32)]) (rest := []) ⟨hx, hb, hml, hown, hts⟩ (c_X3_put l dC dI cI cZ cO a_cues H.size 120 x3_4 (3 : Int32) v_cues_4 q_35 hq_35) ⟨(va_cnB 3 hts gX0_passWaitingBefore_X3_put_n59 rfl rfl rfl (NW_X0_59 hN) (hts (.initialized RX3) (by decide +kernel)) (by decide +kernel) ⟨Nat.le_of_ble_eq_true rfl, Nat.le_of_ble_eq_true rfl⟩), hts (.static yX3_put) (by decide +kernel), trivial⟩ ⟨fb_wr, pre_wr hPc hK hN hDc⟩ rfl rfl hl.1 rfl (lv_room (Nat.le_of_ble_eq_true rfl)) dX0_passWaitingBefore_35 ⟨Nat.zero_le _, Nat.zero_le _⟩) hS (fun q _ h => hFc q h) hFc (fun _ t H1 locs ht hvm hw hB hz1 hk1 hS => ?_)
            obtain ⟨hP1, hD1⟩ := hB
            rw [ht] at hP1
            obtain ⟨hP, hD⟩ := va_join (wr := [(aC, .inr (0, [.int v_words, .int v_passages, .int v_wordsInPassage, .int v_rows, .ref a_letters, .ref a_passageOf, .ref a_cues, .ref a_rowOf, .ref a_firstOfRow])), (a_letters, .inl (cI, 120, .inl v_letters)), (a_passageOf, .inl (cI, 120, .inl v_passageOf)), (a_rowOf, .inl (cI, 120, .inl v_rowOf)), (a_firstOfRow, .inl (cI, 120, .inl v_firstOfRow))]) (w1 := [(a_cues, .inl (cI, 120, .inl q_35))]) hP hD [3] [0, 1, 2, 4, 5] rfl rfl (by decide) (by decide) hk1 hFc hP1 hD1
            generalize H1 = H at hP hS ⊢
            have hP : va_P (dC, dI) vwCl [(aC, .inr (0, [.int v_words, .int v_passages, .int v_wordsInPassage, .int v_rows, .ref a_letters, .ref a_passageOf, .ref a_cues, .ref a_rowOf, .ref a_firstOfRow])), (a_letters, .inl (cI, 120, .inl v_letters)), (a_passageOf, .inl (cI, 120, .inl v_passageOf)), (a_rowOf, .inl (cI, 120, .inl v_rowOf)), (a_firstOfRow, .inl (cI, 120, .inl v_firstOfRow)), (a_cues, .inl (cI, 120, .inl q_35))] H := hP
            have hD : va_D A [(aC, .inr (0, [.int v_words, .int v_passages, .int v_wordsInPassage, .int v_rows, .ref a_letters, .ref a_passageOf, .ref a_cues, .ref a_rowOf, .ref a_firstOfRow])), (a_letters, .inl (cI, 120, .inl v_letters)), (a_passageOf, .inl (cI, 120, .inl v_passageOf)), (a_rowOf, .inl (cI, 120, .inl v_rowOf)), (a_firstOfRow, .inl (cI, 120, .inl v_firstOfRow)), (a_cues, .inl (cI, 120, .inl q_35))] := hD
            refine lv_iinc (v := (x2_4 + 1)) (lv' := [(2, .int (x2_4 + 1)), (0, .ref aC), (1, .int x1_4), (3, .int x3_4)]) hx hb dX0_passWaitingBefore_38 hl (k := 2) rfl rfl (by decide) rfl (fun ls hl => ?_)
            refine lv_iinc (v := (x3_4 + 1)) (lv' := [(3, .int (x3_4 + 1)), (2, .int (x2_4 + 1)), (0, .ref aC), (1, .int x1_4)]) hx hb dX0_passWaitingBefore_41 hl (k := 3) rfl rfl (by decide) rfl (fun ls hl => ?_)
            refine lv_goto (tgt := 4) hx hb dX0_passWaitingBefore_44 (by decide) ?_
            exact ih4 x1_4 (x2_4 + 1) (x3_4 + 1) q_35 hF _ _ (hP.sub [0, 1, 2, 5, 3, 4] rfl) (hD.sub [0, 1, 2, 5, 3, 4] (by decide) rfl) hS _ (lv_sub hl [2, 3, 1, 0] rfl)
  unfold f_X0_passWaitingBefore at hF
  refine lv_iconst (v := (0 : Int32)) hx hb dX0_passWaitingBefore_0 (by decide) ?_
  refine lv_istore_n (lv' := [(2, .int (0 : Int32)), (0, .ref aC), (1, .int p1)]) hx hb dX0_passWaitingBefore_1 rfl hl (by decide) rfl (fun ls hl => ?_)
  refine lv_iconst (v := (0 : Int32)) hx hb dX0_passWaitingBefore_2 (by decide) ?_
  refine lv_istore_n (lv' := [(3, .int (0 : Int32)), (2, .int (0 : Int32)), (0, .ref aC), (1, .int p1)]) hx hb dX0_passWaitingBefore_3 rfl hl (by decide) rfl (fun ls hl => ?_)
  exact B4 gas p1 (0 : Int32) (0 : Int32) v_cues hF _ _ hP hD hS _ (lv_sub hl [2, 3, 1, 0] rfl)
def f_X0_setCuesAround_36 (k2 : Int32 → (Nat → Int32) → Option (Nat → Int32)) (x2 : Int32) (s1 : Int32) (s2 : Int32) (v_cues : (Nat → Int32)) : Option (Nat → Int32) :=
  (f_X3_put 120 s1 s2 v_cues).bind fun q36 =>
    k2 (x2 + 1) q36
def f_X0_setCuesAround_2 (v_words : Int32) (x1 : Int32) : Nat → Int32 → (Nat → Int32) → Option (Nat → Int32)
  | 0, _, _ => none
  | n + 1, x2, v_cues =>
    if v_words ≤ x2 then
      some v_cues
    else
      (f_X3_at 120 x2 v_cues).bind fun q15 =>
      if q15 = (0 : Int32) then
        f_X0_setCuesAround_2 v_words x1 n (x2 + 1) v_cues
      else
        if x1 ≤ x2 then
          f_X0_setCuesAround_36 (f_X0_setCuesAround_2 v_words x1 n) x2 x2 (1 : Int32) v_cues
        else
          f_X0_setCuesAround_36 (f_X0_setCuesAround_2 v_words x1 n) x2 x2 (3 : Int32) v_cues
def f_X0_setCuesAround (p1 : Int32) (v_words : Int32) (v_cues : (Nat → Int32)) : Option (Nat → Int32) :=
  f_X0_setCuesAround_2 v_words p1 gas (0 : Int32) v_cues
def rm_X0_setCuesAround : Room := { frames := 1, cells := 0, slots := 0, locals := 22 }
set_option maxHeartbeats 4000000 in
set_option maxRecDepth 100000 in
theorem c_X0_setCuesAround (l : Launch) (dC : Nat → ClassId) (dI : Nat → Nat → Nat) (cI cZ cO : ClassId) (aC a_letters a_passageOf a_cues a_rowOf a_firstOfRow : Nat) (sz : Nat) (p1 : Int32) (v_words : Int32) (v_passages : Int32) (v_wordsInPassage : Int32) (v_rows : Int32) (v_letters : (Nat → Int32)) (v_passageOf : (Nat → Int32)) (v_cues : (Nat → Int32)) (v_rowOf : (Nat → Int32)) (v_firstOfRow : (Nat → Int32)) (o_cues : (Nat → Int32)) (hF : f_X0_setCuesAround p1 v_words v_cues = some o_cues) : Met l yX0_setCuesAround wsX0_setCuesAround rm_X0_setCuesAround (va_Pc [.ref aC, .int p1] (wrW dC dI cI cZ cO sz [(aC, .inr (0, [.int v_words, .int v_passages, .int v_wordsInPassage, .int v_rows, .ref a_letters, .ref a_passageOf, .ref a_cues, .ref a_rowOf, .ref a_firstOfRow])), (a_letters, .inl (cI, 120, .inl v_letters)), (a_passageOf, .inl (cI, 120, .inl v_passageOf)), (a_cues, .inl (cI, 120, .inl v_cues)), (a_rowOf, .inl (cI, 120, .inl v_rowOf)), (a_firstOfRow, .inl (cI, 120, .inl v_firstOfRow))])) (va_Qv (fun (_ : Unit) => True) (wrE dC dI [(aC, .inr (0, [.int v_words, .int v_passages, .int v_wordsInPassage, .int v_rows, .ref a_letters, .ref a_passageOf, .ref a_cues, .ref a_rowOf, .ref a_firstOfRow])), (a_letters, .inl (cI, 120, .inl v_letters)), (a_passageOf, .inl (cI, 120, .inl v_passageOf)), (a_cues, .inl (cI, 120, .inl v_cues)), (a_rowOf, .inl (cI, 120, .inl v_rowOf)), (a_firstOfRow, .inl (cI, 120, .inl v_firstOfRow))] sz [(aC, .inr (0, [.int v_words, .int v_passages, .int v_wordsInPassage, .int v_rows, .ref a_letters, .ref a_passageOf, .ref a_cues, .ref a_rowOf, .ref a_firstOfRow])), (a_letters, .inl (cI, 120, .inl v_letters)), (a_passageOf, .inl (cI, 120, .inl v_passageOf)), (a_cues, .inl (cI, 120, .inl o_cues)), (a_rowOf, .inl (cI, 120, .inl v_rowOf)), (a_firstOfRow, .inl (cI, 120, .inl v_firstOfRow))]) (va_A [(aC, .inr (0, [.int v_words, .int v_passages, .int v_wordsInPassage, .int v_rows, .ref a_letters, .ref a_passageOf, .ref a_cues, .ref a_rowOf, .ref a_firstOfRow])), (a_letters, .inl (cI, 120, .inl v_letters)), (a_passageOf, .inl (cI, 120, .inl v_passageOf)), (a_cues, .inl (cI, 120, .inl v_cues)), (a_rowOf, .inl (cI, 120, .inl v_rowOf)), (a_firstOfRow, .inl (cI, 120, .inl v_firstOfRow))] sz)) 0 0 (va_A [(aC, .inr (0, [.int v_words, .int v_passages, .int v_wordsInPassage, .int v_rows, .ref a_letters, .ref a_passageOf, .ref a_cues, .ref a_rowOf, .ref a_firstOfRow])), (a_letters, .inl (cI, 120, .inl v_letters)), (a_passageOf, .inl (cI, 120, .inl v_passageOf)), (a_cues, .inl (cI, 120, .inl v_cues)), (a_rowOf, .inl (cI, 120, .inl v_rowOf)), (a_firstOfRow, .inl (cI, 120, .inl v_firstOfRow))] sz) := by
  refine Met.ofW (cc := cX0_setCuesAround) (maxL := 3) (ret := none) (by decide) rfl ?_
  intro p e s m args below meth c s₁ B hml hv
  obtain ⟨rfl, hsz, hP, hK, hN, hD0⟩ := hv
  have hx := B.exec
  have hb := B.bytes
  have hr := B.returns
  have hts := atoms_spec (ws := wsX0_setCuesAround) B.pre
  have hown : s.vm.findClass RX0 = some m.cls := findClass_of_methodNamed B.named
  have hlocks := B.notSynchronized
  subst hsz
  have hD := hD0.self (sz := s.heap.size)
  obtain ⟨Q, hQ⟩ : ∃ Q, Q = MQ below (va_Qv (fun (_ : Unit) => True) (wrE dC dI [(aC, .inr (0, [.int v_words, .int v_passages, .int v_wordsInPassage, .int v_rows, .ref a_letters, .ref a_passageOf, .ref a_cues, .ref a_rowOf, .ref a_firstOfRow])), (a_letters, .inl (cI, 120, .inl v_letters)), (a_passageOf, .inl (cI, 120, .inl v_passageOf)), (a_cues, .inl (cI, 120, .inl v_cues)), (a_rowOf, .inl (cI, 120, .inl v_rowOf)), (a_firstOfRow, .inl (cI, 120, .inl v_firstOfRow))] s.heap.size [(aC, .inr (0, [.int v_words, .int v_passages, .int v_wordsInPassage, .int v_rows, .ref a_letters, .ref a_passageOf, .ref a_cues, .ref a_rowOf, .ref a_firstOfRow])), (a_letters, .inl (cI, 120, .inl v_letters)), (a_passageOf, .inl (cI, 120, .inl v_passageOf)), (a_cues, .inl (cI, 120, .inl o_cues)), (a_rowOf, .inl (cI, 120, .inl v_rowOf)), (a_firstOfRow, .inl (cI, 120, .inl v_firstOfRow))]) (va_A [(aC, .inr (0, [.int v_words, .int v_passages, .int v_wordsInPassage, .int v_rows, .ref a_letters, .ref a_passageOf, .ref a_cues, .ref a_rowOf, .ref a_firstOfRow])), (a_letters, .inl (cI, 120, .inl v_letters)), (a_passageOf, .inl (cI, 120, .inl v_passageOf)), (a_cues, .inl (cI, 120, .inl v_cues)), (a_rowOf, .inl (cI, 120, .inl v_rowOf)), (a_firstOfRow, .inl (cI, 120, .inl v_firstOfRow))] s.heap.size)) ([.ref aC, .int p1] : List Value).toArray s 0 0 (va_A [(aC, .inr (0, [.int v_words, .int v_passages, .int v_wordsInPassage, .int v_rows, .ref a_letters, .ref a_passageOf, .ref a_cues, .ref a_rowOf, .ref a_firstOfRow])), (a_letters, .inl (cI, 120, .inl v_letters)), (a_passageOf, .inl (cI, 120, .inl v_passageOf)), (a_cues, .inl (cI, 120, .inl v_cues)), (a_rowOf, .inl (cI, 120, .inl v_rowOf)), (a_firstOfRow, .inl (cI, 120, .inl v_firstOfRow))] s.heap.size) := ⟨_, rfl⟩
  rw [← hQ]
  obtain ⟨A, hAe⟩ : ∃ A, A = va_A [(aC, .inr (0, [.int v_words, .int v_passages, .int v_wordsInPassage, .int v_rows, .ref a_letters, .ref a_passageOf, .ref a_cues, .ref a_rowOf, .ref a_firstOfRow])), (a_letters, .inl (cI, 120, .inl v_letters)), (a_passageOf, .inl (cI, 120, .inl v_passageOf)), (a_cues, .inl (cI, 120, .inl v_cues)), (a_rowOf, .inl (cI, 120, .inl v_rowOf)), (a_firstOfRow, .inl (cI, 120, .inl v_firstOfRow))] s.heap.size := ⟨_, rfl⟩
  rw [← hAe] at hD
  have hA : ∀ q : Nat, s.heap.size ≤ q → A q := fun q h => by rw [hAe]; exact Or.inr h
  obtain ⟨H, hH⟩ : ∃ H, H = s.heap := ⟨_, rfl⟩
  have hS : va_S A s.heap H [] := by rw [hH]; exact va_S.rf
  rw [← hH] at hP
  rw [← hH]
  have fl27 := hts (.fieldLink RX0 27 "Teleprompter$Script" "words" "I") (by decide +kernel)
  have fl18 := hts (.fieldLink RX0 18 "Teleprompter$Script" "cues" "[I") (by decide +kernel)
  have inX0 : ∀ w ∈ u_ws RX0 TX0 9, w ∈ wsX0_setCuesAround := by decide +kernel
  have hl := lv_entry ([.ref aC, .int p1]) (n := 3) (Nat.le_of_ble_eq_true rfl)
  rw [lg_entry_eq]
  generalize (lg_sl ([.ref aC, .int p1]) ++ List.replicate (3 - (lg_sl ([.ref aC, .int p1])).length) Slot.unset).toArray = ls at hl ⊢
  have hl : lv_has ls 3 [(0, .ref aC), (1, .int p1)] := hl
  have B2 : ∀ (n_2 : Nat) (x1_2 : Int32) (x2_2 : Int32) (v_cues_2 : (Nat → Int32)), f_X0_setCuesAround_2 v_words x1_2 n_2 x2_2 v_cues_2 = some o_cues → ∀ (H : Heap) (locs : List Loc), va_P (dC, dI) vwCl [(aC, .inr (0, [.int v_words, .int v_passages, .int v_wordsInPassage, .int v_rows, .ref a_letters, .ref a_passageOf, .ref a_cues, .ref a_rowOf, .ref a_firstOfRow])), (a_letters, .inl (cI, 120, .inl v_letters)), (a_passageOf, .inl (cI, 120, .inl v_passageOf)), (a_cues, .inl (cI, 120, .inl v_cues_2)), (a_rowOf, .inl (cI, 120, .inl v_rowOf)), (a_firstOfRow, .inl (cI, 120, .inl v_firstOfRow))] H → va_D A [(aC, .inr (0, [.int v_words, .int v_passages, .int v_wordsInPassage, .int v_rows, .ref a_letters, .ref a_passageOf, .ref a_cues, .ref a_rowOf, .ref a_firstOfRow])), (a_letters, .inl (cI, 120, .inl v_letters)), (a_passageOf, .inl (cI, 120, .inl v_passageOf)), (a_cues, .inl (cI, 120, .inl v_cues_2)), (a_rowOf, .inl (cI, 120, .inl v_rowOf)), (a_firstOfRow, .inl (cI, 120, .inl v_firstOfRow))] → va_S A s.heap H locs → ∀ ls : Array Slot, lv_has ls 3 [(0, .ref aC), (1, .int x1_2), (2, .int x2_2)] → W p l e (headSpec wsX0_setCuesAround rm_X0_setCuesAround).room s m ([.ref aC, .int p1] : List Value).toArray below meth c H locs 0 0 Q (F0 m 2 ls []) := by
    intro n_2
    induction n_2 with
    | zero => intro x1_2 x2_2 v_cues_2 hF; exact noneE hF
    | succ n_2 ih2 =>
      intro x1_2 x2_2 v_cues_2 hF H locs hP hD hS ls hl
      have B36 : ∀ (x2_36 : Int32) (s1_36 : Int32) (s2_36 : Int32) (v_cues_36 : (Nat → Int32)), f_X0_setCuesAround_36 (f_X0_setCuesAround_2 v_words x1_2 n_2) x2_36 s1_36 s2_36 v_cues_36 = some o_cues → ∀ (H : Heap) (locs : List Loc), va_P (dC, dI) vwCl [(aC, .inr (0, [.int v_words, .int v_passages, .int v_wordsInPassage, .int v_rows, .ref a_letters, .ref a_passageOf, .ref a_cues, .ref a_rowOf, .ref a_firstOfRow])), (a_letters, .inl (cI, 120, .inl v_letters)), (a_passageOf, .inl (cI, 120, .inl v_passageOf)), (a_cues, .inl (cI, 120, .inl v_cues_36)), (a_rowOf, .inl (cI, 120, .inl v_rowOf)), (a_firstOfRow, .inl (cI, 120, .inl v_firstOfRow))] H → va_D A [(aC, .inr (0, [.int v_words, .int v_passages, .int v_wordsInPassage, .int v_rows, .ref a_letters, .ref a_passageOf, .ref a_cues, .ref a_rowOf, .ref a_firstOfRow])), (a_letters, .inl (cI, 120, .inl v_letters)), (a_passageOf, .inl (cI, 120, .inl v_passageOf)), (a_cues, .inl (cI, 120, .inl v_cues_36)), (a_rowOf, .inl (cI, 120, .inl v_rowOf)), (a_firstOfRow, .inl (cI, 120, .inl v_firstOfRow))] → va_S A s.heap H locs → ∀ ls : Array Slot, lv_has ls 3 [(0, .ref aC), (1, .int x1_2), (2, .int x2_36)] → W p l e (headSpec wsX0_setCuesAround rm_X0_setCuesAround).room s m ([.ref aC, .int p1] : List Value).toArray below meth c H locs 0 0 Q (F0 m 36 ls [.int s2_36, .int s1_36, .ref a_cues]) := by
        intro x2_36 s1_36 s2_36 v_cues_36 hF H locs hP hD hS ls hl
        unfold f_X0_setCuesAround_36 at hF
        obtain ⟨q_36, hq_36, hF⟩ := bindE hF
        have hPc := hP.sub (ws' := [(a_cues, .inl (cI, 120, .inl v_cues_36))]) [3] rfl
        have hDc := hD.sub (ws' := [(a_cues, .inl (cI, 120, .inl v_cues_36))]) [3] (by decide) rfl
        have hFc := va_free (wc := [(a_cues, .inl (cI, 120, .inl v_cues_36))]) hD hS hA [3] rfl
        refine va_callv (va_runSN (As := [.ref a_cues, .int s1_36, .int s2_36]) (rest := []) ⟨hx, hb, hml, hown, hts⟩ (c_X3_put l dC dI cI cZ cO a_cues H.size 120 s1_36 s2_36 v_cues_36 q_36 hq_36) ⟨(va_cnB 3 hts gX0_setCuesAround_X3_put_n59 rfl rfl rfl (NW_X0_59 hN) (hts (.initialized RX3) (by decide +kernel)) (by decide +kernel) ⟨Nat.le_of_ble_eq_true rfl, Nat.le_of_ble_eq_true rfl⟩), hts (.static yX3_put) (by decide +kernel), trivial⟩ ⟨fb_wr, pre_wr hPc hK hN hDc⟩ rfl rfl hl.1 rfl (lv_room (Nat.le_of_ble_eq_true rfl)) dX0_setCuesAround_36 ⟨Nat.zero_le _, Nat.zero_le _⟩) hS (fun q _ h => hFc q h) hFc (fun _ t H1 locs ht hvm hw hB hz1 hk1 hS => ?_)
        obtain ⟨hP1, hD1⟩ := hB
        rw [ht] at hP1
        obtain ⟨hP, hD⟩ := va_join (wr := [(aC, .inr (0, [.int v_words, .int v_passages, .int v_wordsInPassage, .int v_rows, .ref a_letters, .ref a_passageOf, .ref a_cues, .ref a_rowOf, .ref a_firstOfRow])), (a_letters, .inl (cI, 120, .inl v_letters)), (a_passageOf, .inl (cI, 120, .inl v_passageOf)), (a_rowOf, .inl (cI, 120, .inl v_rowOf)), (a_firstOfRow, .inl (cI, 120, .inl v_firstOfRow))]) (w1 := [(a_cues, .inl (cI, 120, .inl q_36))]) hP hD [3] [0, 1, 2, 4, 5] rfl rfl (by decide) (by decide) hk1 hFc hP1 hD1
        generalize H1 = H at hP hS ⊢
        have hP : va_P (dC, dI) vwCl [(aC, .inr (0, [.int v_words, .int v_passages, .int v_wordsInPassage, .int v_rows, .ref a_letters, .ref a_passageOf, .ref a_cues, .ref a_rowOf, .ref a_firstOfRow])), (a_letters, .inl (cI, 120, .inl v_letters)), (a_passageOf, .inl (cI, 120, .inl v_passageOf)), (a_rowOf, .inl (cI, 120, .inl v_rowOf)), (a_firstOfRow, .inl (cI, 120, .inl v_firstOfRow)), (a_cues, .inl (cI, 120, .inl q_36))] H := hP
        have hD : va_D A [(aC, .inr (0, [.int v_words, .int v_passages, .int v_wordsInPassage, .int v_rows, .ref a_letters, .ref a_passageOf, .ref a_cues, .ref a_rowOf, .ref a_firstOfRow])), (a_letters, .inl (cI, 120, .inl v_letters)), (a_passageOf, .inl (cI, 120, .inl v_passageOf)), (a_rowOf, .inl (cI, 120, .inl v_rowOf)), (a_firstOfRow, .inl (cI, 120, .inl v_firstOfRow)), (a_cues, .inl (cI, 120, .inl q_36))] := hD
        refine lv_iinc (v := (x2_36 + 1)) (lv' := [(2, .int (x2_36 + 1)), (0, .ref aC), (1, .int x1_2)]) hx hb dX0_setCuesAround_39 hl (k := 2) rfl rfl (by decide) rfl (fun ls hl => ?_)
        refine lv_goto (tgt := 2) hx hb dX0_setCuesAround_42 (by decide) ?_
        exact ih2 x1_2 (x2_36 + 1) q_36 hF _ _ (hP.sub [0, 1, 2, 5, 3, 4] rfl) (hD.sub [0, 1, 2, 5, 3, 4] (by decide) rfl) hS _ (lv_sub hl [1, 2, 0] rfl)
      rw [f_X0_setCuesAround_2] at hF
      refine lv_iload_n hx hb dX0_setCuesAround_2 rfl (lv_at hl 2 rfl) ?_
      refine lv_aload_n hx hb dX0_setCuesAround_3 rfl (lv_at hl 0 rfl) ?_
      refine va_get (D := (dC, dI)) (ci := 0) (v := .int v_words) (C := RX0) (T := TX0) (N := 9) hx hb hts inX0 hown hK hP 0 rfl rfl 0 (by decide) fl27 (fun _ h9 => h9) rfl dX0_setCuesAround_4 ?_
      refine lv_icmp_ge (tgt := 45) hx hb dX0_setCuesAround_7 (by decide) (fun c_7 => ?_) (fun c_7 => ?_)
      · have hF := (if_pos c_7).symm.trans hF
        have hF : some v_cues_2 = some o_cues := hF
        have hP9 := hP
        have hD9 := hD
        cases hF
        subst hQ
        subst hAe
        exact W.vret hx hb hr (fun t ht hW => ⟨⟨(), rfl, trivial, ⟨by rw [ht]; exact hP9, hD9⟩⟩, hS.F ht⟩) hS.2.2 dX0_setCuesAround_45
      · have hF := (if_neg c_7).symm.trans hF
        refine lv_aload_n hx hb dX0_setCuesAround_10 rfl (lv_at hl 0 rfl) ?_
        refine va_get (D := (dC, dI)) (ci := 0) (v := .ref a_cues) (C := RX0) (T := TX0) (N := 9) hx hb hts inX0 hown hK hP 0 rfl rfl 6 (by decide) fl18 (fun _ h9 => h9) rfl dX0_setCuesAround_11 ?_
        refine lv_iload_n hx hb dX0_setCuesAround_14 rfl (lv_at hl 2 rfl) ?_
        obtain ⟨q_15, hq_15, hF⟩ := bindE hF
        have hPc := hP.sub (ws' := [(a_cues, .inl (cI, 120, .inl v_cues_2))]) [3] rfl
        refine vp_callSi (va_Run.run (va_runSN (As := [.ref a_cues, .int x2_2]) (rest := []) ⟨hx, hb, hml, hown, hts⟩ (c_X3_at l dC dI cI cZ cO a_cues 120 x2_2 v_cues_2 q_15 hq_15) ⟨(va_cnB 2 hts gX0_setCuesAround_X3_at_n63 rfl rfl rfl (NW_X0_63 hN) (hts (.initialized RX3) (by decide +kernel)) (by decide +kernel) ⟨Nat.le_of_ble_eq_true rfl, Nat.le_of_ble_eq_true rfl⟩), hts (.static yX3_at) (by decide +kernel), trivial⟩ ⟨fb_rd, pre_rd hPc hK hN⟩ rfl rfl hl.1 rfl (lv_room (Nat.le_of_ble_eq_true rfl)) dX0_setCuesAround_15 ⟨Nat.zero_le _, Nat.zero_le _⟩)) (fun z_15 hz_15 => ?_)
        subst hz_15
        refine lv_if_eq (tgt := 39) hx hb dX0_setCuesAround_18 (by decide) (fun c_18 => ?_) (fun c_18 => ?_)
        · have hF := (if_pos c_18).symm.trans hF
          refine lv_iinc (v := (x2_2 + 1)) (lv' := [(2, .int (x2_2 + 1)), (0, .ref aC), (1, .int x1_2)]) hx hb dX0_setCuesAround_39 hl (k := 2) rfl rfl (by decide) rfl (fun ls hl => ?_)
          refine lv_goto (tgt := 2) hx hb dX0_setCuesAround_42 (by decide) ?_
          exact ih2 x1_2 (x2_2 + 1) v_cues_2 hF _ _ hP hD hS _ (lv_sub hl [1, 2, 0] rfl)
        · have hF := (if_neg c_18).symm.trans hF
          refine lv_aload_n hx hb dX0_setCuesAround_21 rfl (lv_at hl 0 rfl) ?_
          refine va_get (D := (dC, dI)) (ci := 0) (v := .ref a_cues) (C := RX0) (T := TX0) (N := 9) hx hb hts inX0 hown hK hP 0 rfl rfl 6 (by decide) fl18 (fun _ h9 => h9) rfl dX0_setCuesAround_22 ?_
          refine lv_iload_n hx hb dX0_setCuesAround_25 rfl (lv_at hl 2 rfl) ?_
          refine lv_iload_n hx hb dX0_setCuesAround_26 rfl (lv_at hl 2 rfl) ?_
          refine lv_iload_n hx hb dX0_setCuesAround_27 rfl (lv_at hl 1 rfl) ?_
          refine lv_icmp_ge (tgt := 35) hx hb dX0_setCuesAround_28 (by decide) (fun c_28 => ?_) (fun c_28 => ?_)
          · have hF := (if_pos c_28).symm.trans hF
            refine lv_iconst (v := (1 : Int32)) hx hb dX0_setCuesAround_35 (by decide) ?_
            exact B36 x2_2 x2_2 (1 : Int32) v_cues_2 hF _ _ hP hD hS _ (lv_sub hl [0, 1, 2] rfl)
          · have hF := (if_neg c_28).symm.trans hF
            refine lv_iconst (v := (3 : Int32)) hx hb dX0_setCuesAround_31 (by decide) ?_
            refine lv_goto (tgt := 36) hx hb dX0_setCuesAround_32 (by decide) ?_
            exact B36 x2_2 x2_2 (3 : Int32) v_cues_2 hF _ _ hP hD hS _ (lv_sub hl [0, 1, 2] rfl)
  unfold f_X0_setCuesAround at hF
  refine lv_iconst (v := (0 : Int32)) hx hb dX0_setCuesAround_0 (by decide) ?_
  refine lv_istore_n (lv' := [(2, .int (0 : Int32)), (0, .ref aC), (1, .int p1)]) hx hb dX0_setCuesAround_1 rfl hl (by decide) rfl (fun ls hl => ?_)
  exact B2 gas p1 (0 : Int32) v_cues hF _ _ hP hD hS _ (lv_sub hl [1, 2, 0] rfl)
def f_X2_become (v_pairs : Int32) (v_times : (Nat → Int32)) (v_positions : (Nat → Int32)) (v_o_pairs : Int32) (v_o_times : (Nat → Int32)) (v_o_positions : (Nat → Int32)) : Option (Int32 × (Nat → Int32) × (Nat → Int32)) :=
  (f_X3_copyRow 61 61 v_o_times v_times).bind fun q16 =>
  (f_X3_copyRow 61 61 v_o_positions v_positions).bind fun q27 =>
  some (v_o_pairs, q16, q27)
def rm_X2_become : Room := { frames := 2, cells := 0, slots := 0, locals := 69 }
set_option maxHeartbeats 4000000 in
set_option maxRecDepth 100000 in
theorem c_X2_become (l : Launch) (dC : Nat → ClassId) (dI : Nat → Nat → Nat) (cI cZ cO : ClassId) (aT a_times a_positions o_aT o_a_times o_a_positions : Nat) (sz : Nat) (v_pairs : Int32) (v_times : (Nat → Int32)) (v_positions : (Nat → Int32)) (v_o_pairs : Int32) (v_o_times : (Nat → Int32)) (v_o_positions : (Nat → Int32)) (o_pairs : Int32) (o_times : (Nat → Int32)) (o_positions : (Nat → Int32)) (hF : f_X2_become v_pairs v_times v_positions v_o_pairs v_o_times v_o_positions = some (o_pairs, o_times, o_positions)) : Met l yX2_become wsX2_become rm_X2_become (va_Pc [.ref aT, .ref o_aT] (wrW dC dI cI cZ cO sz [(aT, .inr (2, [.int v_pairs, .ref a_times, .ref a_positions])), (a_times, .inl (cI, 61, .inl v_times)), (a_positions, .inl (cI, 61, .inl v_positions)), (o_aT, .inr (2, [.int v_o_pairs, .ref o_a_times, .ref o_a_positions])), (o_a_times, .inl (cI, 61, .inl v_o_times)), (o_a_positions, .inl (cI, 61, .inl v_o_positions))])) (va_Qv (fun (_ : Unit) => True) (wrE dC dI [(aT, .inr (2, [.int v_pairs, .ref a_times, .ref a_positions])), (a_times, .inl (cI, 61, .inl v_times)), (a_positions, .inl (cI, 61, .inl v_positions)), (o_aT, .inr (2, [.int v_o_pairs, .ref o_a_times, .ref o_a_positions])), (o_a_times, .inl (cI, 61, .inl v_o_times)), (o_a_positions, .inl (cI, 61, .inl v_o_positions))] sz [(aT, .inr (2, [.int o_pairs, .ref a_times, .ref a_positions])), (a_times, .inl (cI, 61, .inl o_times)), (a_positions, .inl (cI, 61, .inl o_positions)), (o_aT, .inr (2, [.int v_o_pairs, .ref o_a_times, .ref o_a_positions])), (o_a_times, .inl (cI, 61, .inl v_o_times)), (o_a_positions, .inl (cI, 61, .inl v_o_positions))]) (va_A [(aT, .inr (2, [.int v_pairs, .ref a_times, .ref a_positions])), (a_times, .inl (cI, 61, .inl v_times)), (a_positions, .inl (cI, 61, .inl v_positions)), (o_aT, .inr (2, [.int v_o_pairs, .ref o_a_times, .ref o_a_positions])), (o_a_times, .inl (cI, 61, .inl v_o_times)), (o_a_positions, .inl (cI, 61, .inl v_o_positions))] sz)) 0 0 (va_A [(aT, .inr (2, [.int v_pairs, .ref a_times, .ref a_positions])), (a_times, .inl (cI, 61, .inl v_times)), (a_positions, .inl (cI, 61, .inl v_positions)), (o_aT, .inr (2, [.int v_o_pairs, .ref o_a_times, .ref o_a_positions])), (o_a_times, .inl (cI, 61, .inl v_o_times)), (o_a_positions, .inl (cI, 61, .inl v_o_positions))] sz) := by
  refine Met.ofW (cc := cX2_become) (maxL := 2) (ret := none) (by decide) rfl ?_
  intro p e s m args below meth c s₁ B hml hv
  obtain ⟨rfl, hsz, hP, hK, hN, hD0⟩ := hv
  have hx := B.exec
  have hb := B.bytes
  have hr := B.returns
  have hts := atoms_spec (ws := wsX2_become) B.pre
  have hown : s.vm.findClass RX2 = some m.cls := findClass_of_methodNamed B.named
  have hlocks := B.notSynchronized
  subst hsz
  have hD := hD0.self (sz := s.heap.size)
  obtain ⟨Q, hQ⟩ : ∃ Q, Q = MQ below (va_Qv (fun (_ : Unit) => True) (wrE dC dI [(aT, .inr (2, [.int v_pairs, .ref a_times, .ref a_positions])), (a_times, .inl (cI, 61, .inl v_times)), (a_positions, .inl (cI, 61, .inl v_positions)), (o_aT, .inr (2, [.int v_o_pairs, .ref o_a_times, .ref o_a_positions])), (o_a_times, .inl (cI, 61, .inl v_o_times)), (o_a_positions, .inl (cI, 61, .inl v_o_positions))] s.heap.size [(aT, .inr (2, [.int o_pairs, .ref a_times, .ref a_positions])), (a_times, .inl (cI, 61, .inl o_times)), (a_positions, .inl (cI, 61, .inl o_positions)), (o_aT, .inr (2, [.int v_o_pairs, .ref o_a_times, .ref o_a_positions])), (o_a_times, .inl (cI, 61, .inl v_o_times)), (o_a_positions, .inl (cI, 61, .inl v_o_positions))]) (va_A [(aT, .inr (2, [.int v_pairs, .ref a_times, .ref a_positions])), (a_times, .inl (cI, 61, .inl v_times)), (a_positions, .inl (cI, 61, .inl v_positions)), (o_aT, .inr (2, [.int v_o_pairs, .ref o_a_times, .ref o_a_positions])), (o_a_times, .inl (cI, 61, .inl v_o_times)), (o_a_positions, .inl (cI, 61, .inl v_o_positions))] s.heap.size)) ([.ref aT, .ref o_aT] : List Value).toArray s 0 0 (va_A [(aT, .inr (2, [.int v_pairs, .ref a_times, .ref a_positions])), (a_times, .inl (cI, 61, .inl v_times)), (a_positions, .inl (cI, 61, .inl v_positions)), (o_aT, .inr (2, [.int v_o_pairs, .ref o_a_times, .ref o_a_positions])), (o_a_times, .inl (cI, 61, .inl v_o_times)), (o_a_positions, .inl (cI, 61, .inl v_o_positions))] s.heap.size) := ⟨_, rfl⟩
  rw [← hQ]
  obtain ⟨A, hAe⟩ : ∃ A, A = va_A [(aT, .inr (2, [.int v_pairs, .ref a_times, .ref a_positions])), (a_times, .inl (cI, 61, .inl v_times)), (a_positions, .inl (cI, 61, .inl v_positions)), (o_aT, .inr (2, [.int v_o_pairs, .ref o_a_times, .ref o_a_positions])), (o_a_times, .inl (cI, 61, .inl v_o_times)), (o_a_positions, .inl (cI, 61, .inl v_o_positions))] s.heap.size := ⟨_, rfl⟩
  rw [← hAe] at hD
  have hA : ∀ q : Nat, s.heap.size ≤ q → A q := fun q h => by rw [hAe]; exact Or.inr h
  obtain ⟨H, hH⟩ : ∃ H, H = s.heap := ⟨_, rfl⟩
  have hS : va_S A s.heap H [] := by rw [hH]; exact va_S.rf
  rw [← hH] at hP
  rw [← hH]
  have fl18 := hts (.fieldLink RX2 18 "Teleprompter$Trail" "pairs" "I") (by decide +kernel)
  have fl9 := hts (.fieldLink RX2 9 "Teleprompter$Trail" "times" "[I") (by decide +kernel)
  have fl15 := hts (.fieldLink RX2 15 "Teleprompter$Trail" "positions" "[I") (by decide +kernel)
  have inX2 : ∀ w ∈ u_ws RX2 TX2 3, w ∈ wsX2_become := by decide +kernel
  have hl := lv_entry ([.ref aT, .ref o_aT]) (n := 2) (Nat.le_of_ble_eq_true rfl)
  rw [lg_entry_eq]
  generalize (lg_sl ([.ref aT, .ref o_aT]) ++ List.replicate (2 - (lg_sl ([.ref aT, .ref o_aT])).length) Slot.unset).toArray = ls at hl ⊢
  have hl : lv_has ls 2 [(0, .ref aT), (1, .ref o_aT)] := hl
  unfold f_X2_become at hF
  refine lv_aload_n hx hb dX2_become_0 rfl (lv_at hl 0 rfl) ?_
  refine lv_aload_n hx hb dX2_become_1 rfl (lv_at hl 1 rfl) ?_
  refine va_get (D := (dC, dI)) (ci := 2) (v := .int v_o_pairs) (C := RX2) (T := TX2) (N := 3) hx hb hts inX2 hown hK hP 3 rfl rfl 0 (by decide) fl18 (fun _ h9 => h9) rfl dX2_become_2 ?_
  refine va_put (D := (dC, dI)) (ci := 2) (v := .int v_o_pairs) (ty := .int) (C := RX2) (T := TX2) (N := 3) hx hb hts inX2 tyX2 tyX2_ok nmX2 hown hK hP hD hS 0 rfl rfl 0 (by decide) fl18 (fun _ h9 => h9) rfl (by decide +kernel) rfl rfl (Nat.le_of_ble_eq_true rfl) dX2_become_5 (fun H locs hP hD hS => ?_)
  have hP : va_P (dC, dI) vwCl [(aT, .inr (2, [.int v_o_pairs, .ref a_times, .ref a_positions])), (a_times, .inl (cI, 61, .inl v_times)), (a_positions, .inl (cI, 61, .inl v_positions)), (o_aT, .inr (2, [.int v_o_pairs, .ref o_a_times, .ref o_a_positions])), (o_a_times, .inl (cI, 61, .inl v_o_times)), (o_a_positions, .inl (cI, 61, .inl v_o_positions))] H := hP
  have hD : va_D A [(aT, .inr (2, [.int v_o_pairs, .ref a_times, .ref a_positions])), (a_times, .inl (cI, 61, .inl v_times)), (a_positions, .inl (cI, 61, .inl v_positions)), (o_aT, .inr (2, [.int v_o_pairs, .ref o_a_times, .ref o_a_positions])), (o_a_times, .inl (cI, 61, .inl v_o_times)), (o_a_positions, .inl (cI, 61, .inl v_o_positions))] := hD
  refine lv_aload_n hx hb dX2_become_8 rfl (lv_at hl 1 rfl) ?_
  refine va_get (D := (dC, dI)) (ci := 2) (v := .ref o_a_times) (C := RX2) (T := TX2) (N := 3) hx hb hts inX2 hown hK hP 3 rfl rfl 1 (by decide) fl9 (fun _ h9 => h9) rfl dX2_become_9 ?_
  refine lv_aload_n hx hb dX2_become_12 rfl (lv_at hl 0 rfl) ?_
  refine va_get (D := (dC, dI)) (ci := 2) (v := .ref a_times) (C := RX2) (T := TX2) (N := 3) hx hb hts inX2 hown hK hP 0 rfl rfl 1 (by decide) fl9 (fun _ h9 => h9) rfl dX2_become_13 ?_
  obtain ⟨q_16, hq_16, hF⟩ := bindE hF
  have hPc := hP.sub (ws' := [(o_a_times, .inl (cI, 61, .inl v_o_times)), (a_times, .inl (cI, 61, .inl v_times))]) [4, 1] rfl
  have hDc := hD.sub (ws' := [(o_a_times, .inl (cI, 61, .inl v_o_times)), (a_times, .inl (cI, 61, .inl v_times))]) [4, 1] (by decide) rfl
  have hFc := va_free (wc := [(o_a_times, .inl (cI, 61, .inl v_o_times)), (a_times, .inl (cI, 61, .inl v_times))]) hD hS hA [4, 1] rfl
  refine va_callv (va_runSN (As := [.ref o_a_times, .ref a_times]) (rest := []) ⟨hx, hb, hml, hown, hts⟩ (c_X3_copyRow l dC dI cI cZ cO o_a_times a_times H.size 61 61 v_o_times v_times q_16 hq_16) ⟨(va_cnB 2 hts gX2_become_X3_copyRow_n22 rfl rfl rfl (NW_X2_22 hN) (hts (.initialized RX3) (by decide +kernel)) (by decide +kernel) ⟨Nat.le_of_ble_eq_true rfl, Nat.le_of_ble_eq_true rfl⟩), hts (.static yX3_copyRow) (by decide +kernel), trivial⟩ ⟨fb_wr, pre_wr hPc hK hN hDc⟩ rfl rfl hl.1 rfl (lv_room (Nat.le_of_ble_eq_true rfl)) dX2_become_16 ⟨Nat.zero_le _, Nat.zero_le _⟩) hS (fun q _ h => hFc q h) hFc (fun _ t H1 locs ht hvm hw hB hz1 hk1 hS => ?_)
  obtain ⟨hP1, hD1⟩ := hB
  rw [ht] at hP1
  obtain ⟨hP, hD⟩ := va_join (wr := [(aT, .inr (2, [.int v_o_pairs, .ref a_times, .ref a_positions])), (a_positions, .inl (cI, 61, .inl v_positions)), (o_aT, .inr (2, [.int v_o_pairs, .ref o_a_times, .ref o_a_positions])), (o_a_positions, .inl (cI, 61, .inl v_o_positions))]) (w1 := [(o_a_times, .inl (cI, 61, .inl v_o_times)), (a_times, .inl (cI, 61, .inl q_16))]) hP hD [4, 1] [0, 2, 3, 5] rfl rfl (by decide) (by decide) hk1 hFc hP1 hD1
  generalize H1 = H at hP hS ⊢
  have hP : va_P (dC, dI) vwCl [(aT, .inr (2, [.int v_o_pairs, .ref a_times, .ref a_positions])), (a_positions, .inl (cI, 61, .inl v_positions)), (o_aT, .inr (2, [.int v_o_pairs, .ref o_a_times, .ref o_a_positions])), (o_a_positions, .inl (cI, 61, .inl v_o_positions)), (o_a_times, .inl (cI, 61, .inl v_o_times)), (a_times, .inl (cI, 61, .inl q_16))] H := hP
  have hD : va_D A [(aT, .inr (2, [.int v_o_pairs, .ref a_times, .ref a_positions])), (a_positions, .inl (cI, 61, .inl v_positions)), (o_aT, .inr (2, [.int v_o_pairs, .ref o_a_times, .ref o_a_positions])), (o_a_positions, .inl (cI, 61, .inl v_o_positions)), (o_a_times, .inl (cI, 61, .inl v_o_times)), (a_times, .inl (cI, 61, .inl q_16))] := hD
  refine lv_aload_n hx hb dX2_become_19 rfl (lv_at hl 1 rfl) ?_
  refine va_get (D := (dC, dI)) (ci := 2) (v := .ref o_a_positions) (C := RX2) (T := TX2) (N := 3) hx hb hts inX2 hown hK hP 2 rfl rfl 2 (by decide) fl15 (fun _ h9 => h9) rfl dX2_become_20 ?_
  refine lv_aload_n hx hb dX2_become_23 rfl (lv_at hl 0 rfl) ?_
  refine va_get (D := (dC, dI)) (ci := 2) (v := .ref a_positions) (C := RX2) (T := TX2) (N := 3) hx hb hts inX2 hown hK hP 0 rfl rfl 2 (by decide) fl15 (fun _ h9 => h9) rfl dX2_become_24 ?_
  obtain ⟨q_27, hq_27, hF⟩ := bindE hF
  have hPc := hP.sub (ws' := [(o_a_positions, .inl (cI, 61, .inl v_o_positions)), (a_positions, .inl (cI, 61, .inl v_positions))]) [3, 1] rfl
  have hDc := hD.sub (ws' := [(o_a_positions, .inl (cI, 61, .inl v_o_positions)), (a_positions, .inl (cI, 61, .inl v_positions))]) [3, 1] (by decide) rfl
  have hFc := va_free (wc := [(o_a_positions, .inl (cI, 61, .inl v_o_positions)), (a_positions, .inl (cI, 61, .inl v_positions))]) hD hS hA [3, 1] rfl
  refine va_callv (va_runSN (As := [.ref o_a_positions, .ref a_positions]) (rest := []) ⟨hx, hb, hml, hown, hts⟩ (c_X3_copyRow l dC dI cI cZ cO o_a_positions a_positions H.size 61 61 v_o_positions v_positions q_27 hq_27) ⟨(va_cnB 2 hts gX2_become_X3_copyRow_n22 rfl rfl rfl (NW_X2_22 hN) (hts (.initialized RX3) (by decide +kernel)) (by decide +kernel) ⟨Nat.le_of_ble_eq_true rfl, Nat.le_of_ble_eq_true rfl⟩), hts (.static yX3_copyRow) (by decide +kernel), trivial⟩ ⟨fb_wr, pre_wr hPc hK hN hDc⟩ rfl rfl hl.1 rfl (lv_room (Nat.le_of_ble_eq_true rfl)) dX2_become_27 ⟨Nat.zero_le _, Nat.zero_le _⟩) hS (fun q _ h => hFc q h) hFc (fun _ t H1 locs ht hvm hw hB hz1 hk1 hS => ?_)
  obtain ⟨hP1, hD1⟩ := hB
  rw [ht] at hP1
  obtain ⟨hP, hD⟩ := va_join (wr := [(aT, .inr (2, [.int v_o_pairs, .ref a_times, .ref a_positions])), (o_aT, .inr (2, [.int v_o_pairs, .ref o_a_times, .ref o_a_positions])), (o_a_times, .inl (cI, 61, .inl v_o_times)), (a_times, .inl (cI, 61, .inl q_16))]) (w1 := [(o_a_positions, .inl (cI, 61, .inl v_o_positions)), (a_positions, .inl (cI, 61, .inl q_27))]) hP hD [3, 1] [0, 2, 4, 5] rfl rfl (by decide) (by decide) hk1 hFc hP1 hD1
  generalize H1 = H at hP hS ⊢
  have hP : va_P (dC, dI) vwCl [(aT, .inr (2, [.int v_o_pairs, .ref a_times, .ref a_positions])), (o_aT, .inr (2, [.int v_o_pairs, .ref o_a_times, .ref o_a_positions])), (o_a_times, .inl (cI, 61, .inl v_o_times)), (a_times, .inl (cI, 61, .inl q_16)), (o_a_positions, .inl (cI, 61, .inl v_o_positions)), (a_positions, .inl (cI, 61, .inl q_27))] H := hP
  have hD : va_D A [(aT, .inr (2, [.int v_o_pairs, .ref a_times, .ref a_positions])), (o_aT, .inr (2, [.int v_o_pairs, .ref o_a_times, .ref o_a_positions])), (o_a_times, .inl (cI, 61, .inl v_o_times)), (a_times, .inl (cI, 61, .inl q_16)), (o_a_positions, .inl (cI, 61, .inl v_o_positions)), (a_positions, .inl (cI, 61, .inl q_27))] := hD
  have hF : some (v_o_pairs, q_16, q_27) = some (o_pairs, o_times, o_positions) := hF
  have hP9 := hP.sub (ws' := [(aT, .inr (2, [.int v_o_pairs, .ref a_times, .ref a_positions])), (a_times, .inl (cI, 61, .inl q_16)), (a_positions, .inl (cI, 61, .inl q_27)), (o_aT, .inr (2, [.int v_o_pairs, .ref o_a_times, .ref o_a_positions])), (o_a_times, .inl (cI, 61, .inl v_o_times)), (o_a_positions, .inl (cI, 61, .inl v_o_positions))]) [0, 3, 5, 1, 2, 4] rfl
  have hD9 := hD.sub (ws' := [(aT, .inr (2, [.int v_o_pairs, .ref a_times, .ref a_positions])), (a_times, .inl (cI, 61, .inl q_16)), (a_positions, .inl (cI, 61, .inl q_27)), (o_aT, .inr (2, [.int v_o_pairs, .ref o_a_times, .ref o_a_positions])), (o_a_times, .inl (cI, 61, .inl v_o_times)), (o_a_positions, .inl (cI, 61, .inl v_o_positions))]) [0, 3, 5, 1, 2, 4] (by decide) rfl
  cases hF
  subst hQ
  subst hAe
  exact W.vret hx hb hr (fun t ht hW => ⟨⟨(), rfl, trivial, ⟨by rw [ht]; exact hP9, hD9⟩⟩, hS.F ht⟩) hS.2.2 dX2_become_30
def f_X2_empty (v_pairs : Int32) : Option Int32 :=
  some (0 : Int32)
def rm_X2_empty : Room := { frames := 0, cells := 0, slots := 0, locals := 0 }
set_option maxHeartbeats 4000000 in
set_option maxRecDepth 100000 in
theorem c_X2_empty (l : Launch) (dC : Nat → ClassId) (dI : Nat → Nat → Nat) (cI cZ cO : ClassId) (aT a_times a_positions : Nat) (sz : Nat) (v_pairs : Int32) (v_times : (Nat → Int32)) (v_positions : (Nat → Int32)) (o_pairs : Int32) (hF : f_X2_empty v_pairs = some o_pairs) : Met l yX2_empty wsX2_empty rm_X2_empty (va_Pc [.ref aT] (wrW dC dI cI cZ cO sz [(aT, .inr (2, [.int v_pairs, .ref a_times, .ref a_positions])), (a_times, .inl (cI, 61, .inl v_times)), (a_positions, .inl (cI, 61, .inl v_positions))])) (va_Qv (fun (_ : Unit) => True) (wrE dC dI [(aT, .inr (2, [.int v_pairs, .ref a_times, .ref a_positions])), (a_times, .inl (cI, 61, .inl v_times)), (a_positions, .inl (cI, 61, .inl v_positions))] sz [(aT, .inr (2, [.int o_pairs, .ref a_times, .ref a_positions])), (a_times, .inl (cI, 61, .inl v_times)), (a_positions, .inl (cI, 61, .inl v_positions))]) (va_A [(aT, .inr (2, [.int v_pairs, .ref a_times, .ref a_positions])), (a_times, .inl (cI, 61, .inl v_times)), (a_positions, .inl (cI, 61, .inl v_positions))] sz)) 0 0 (va_A [(aT, .inr (2, [.int v_pairs, .ref a_times, .ref a_positions])), (a_times, .inl (cI, 61, .inl v_times)), (a_positions, .inl (cI, 61, .inl v_positions))] sz) := by
  refine Met.ofW (cc := cX2_empty) (maxL := 1) (ret := none) (by decide) rfl ?_
  intro p e s m args below meth c s₁ B hml hv
  obtain ⟨rfl, hsz, hP, hK, hN, hD0⟩ := hv
  have hx := B.exec
  have hb := B.bytes
  have hr := B.returns
  have hts := atoms_spec (ws := wsX2_empty) B.pre
  have hown : s.vm.findClass RX2 = some m.cls := findClass_of_methodNamed B.named
  have hlocks := B.notSynchronized
  subst hsz
  have hD := hD0.self (sz := s.heap.size)
  obtain ⟨Q, hQ⟩ : ∃ Q, Q = MQ below (va_Qv (fun (_ : Unit) => True) (wrE dC dI [(aT, .inr (2, [.int v_pairs, .ref a_times, .ref a_positions])), (a_times, .inl (cI, 61, .inl v_times)), (a_positions, .inl (cI, 61, .inl v_positions))] s.heap.size [(aT, .inr (2, [.int o_pairs, .ref a_times, .ref a_positions])), (a_times, .inl (cI, 61, .inl v_times)), (a_positions, .inl (cI, 61, .inl v_positions))]) (va_A [(aT, .inr (2, [.int v_pairs, .ref a_times, .ref a_positions])), (a_times, .inl (cI, 61, .inl v_times)), (a_positions, .inl (cI, 61, .inl v_positions))] s.heap.size)) ([.ref aT] : List Value).toArray s 0 0 (va_A [(aT, .inr (2, [.int v_pairs, .ref a_times, .ref a_positions])), (a_times, .inl (cI, 61, .inl v_times)), (a_positions, .inl (cI, 61, .inl v_positions))] s.heap.size) := ⟨_, rfl⟩
  rw [← hQ]
  obtain ⟨A, hAe⟩ : ∃ A, A = va_A [(aT, .inr (2, [.int v_pairs, .ref a_times, .ref a_positions])), (a_times, .inl (cI, 61, .inl v_times)), (a_positions, .inl (cI, 61, .inl v_positions))] s.heap.size := ⟨_, rfl⟩
  rw [← hAe] at hD
  have hA : ∀ q : Nat, s.heap.size ≤ q → A q := fun q h => by rw [hAe]; exact Or.inr h
  obtain ⟨H, hH⟩ : ∃ H, H = s.heap := ⟨_, rfl⟩
  have hS : va_S A s.heap H [] := by rw [hH]; exact va_S.rf
  rw [← hH] at hP
  rw [← hH]
  have fl18 := hts (.fieldLink RX2 18 "Teleprompter$Trail" "pairs" "I") (by decide +kernel)
  have inX2 : ∀ w ∈ u_ws RX2 TX2 3, w ∈ wsX2_empty := by decide +kernel
  have hl := lv_entry ([.ref aT]) (n := 1) (Nat.le_of_ble_eq_true rfl)
  rw [lg_entry_eq]
  generalize (lg_sl ([.ref aT]) ++ List.replicate (1 - (lg_sl ([.ref aT])).length) Slot.unset).toArray = ls at hl ⊢
  have hl : lv_has ls 1 [(0, .ref aT)] := hl
  unfold f_X2_empty at hF
  refine lv_aload_n hx hb dX2_empty_0 rfl (lv_at hl 0 rfl) ?_
  refine lv_iconst (v := (0 : Int32)) hx hb dX2_empty_1 (by decide) ?_
  refine va_put (D := (dC, dI)) (ci := 2) (v := .int (0 : Int32)) (ty := .int) (C := RX2) (T := TX2) (N := 3) hx hb hts inX2 tyX2 tyX2_ok nmX2 hown hK hP hD hS 0 rfl rfl 0 (by decide) fl18 (fun _ h9 => h9) rfl (by decide +kernel) rfl rfl (Nat.le_of_ble_eq_true rfl) dX2_empty_2 (fun H locs hP hD hS => ?_)
  have hP : va_P (dC, dI) vwCl [(aT, .inr (2, [.int (0 : Int32), .ref a_times, .ref a_positions])), (a_times, .inl (cI, 61, .inl v_times)), (a_positions, .inl (cI, 61, .inl v_positions))] H := hP
  have hD : va_D A [(aT, .inr (2, [.int (0 : Int32), .ref a_times, .ref a_positions])), (a_times, .inl (cI, 61, .inl v_times)), (a_positions, .inl (cI, 61, .inl v_positions))] := hD
  have hF : some (0 : Int32) = some o_pairs := hF
  have hP9 := hP
  have hD9 := hD
  cases hF
  subst hQ
  subst hAe
  exact W.vret hx hb hr (fun t ht hW => ⟨⟨(), rfl, trivial, ⟨by rw [ht]; exact hP9, hD9⟩⟩, hS.F ht⟩) hS.2.2 dX2_empty_5
def f_X2_add_6 (x1 : Int32) (x2 : Int32) (x3 : Int32) (v_pairs : Int32) : Nat → Int32 → Int32 → (Nat → Int32) → (Nat → Int32) → Option (Int32 × (Nat → Int32) × (Nat → Int32))
  | 0, _, _, _, _ => none
  | n + 1, x4, x5, v_times, v_positions =>
    if v_pairs ≤ x5 then
      if (61 : Int32) ≤ x4 then
        some (x4, v_times, v_positions)
      else
        (f_X3_put 61 x4 x1 v_times).bind fun q102 =>
        (f_X3_put 61 x4 x2 v_positions).bind fun q114 =>
        some ((x4 + (1 : Int32)), q102, q114)
    else
      (f_X3_at 61 x5 v_times).bind fun q21 =>
      if q21 < (x1 - x3) then
        f_X2_add_6 x1 x2 x3 v_pairs n x4 (x5 + 1) v_times v_positions
      else
        if q21 = x1 then
          f_X2_add_6 x1 x2 x3 v_pairs n x4 (x5 + 1) v_times v_positions
        else
          (f_X3_put 61 x4 q21 v_times).bind fun q48 =>
          (f_X3_at 61 x5 v_positions).bind fun q63 =>
          (f_X3_put 61 x4 q63 v_positions).bind fun q66 =>
          f_X2_add_6 x1 x2 x3 v_pairs n (x4 + 1) (x5 + 1) q48 q66
def f_X2_add (p1 : Int32) (p2 : Int32) (p3 : Int32) (v_pairs : Int32) (v_times : (Nat → Int32)) (v_positions : (Nat → Int32)) : Option (Int32 × (Nat → Int32) × (Nat → Int32)) :=
  f_X2_add_6 p1 p2 p3 v_pairs gas (0 : Int32) (0 : Int32) v_times v_positions
def rm_X2_add : Room := { frames := 1, cells := 0, slots := 0, locals := 22 }
set_option maxHeartbeats 4000000 in
set_option maxRecDepth 100000 in
theorem c_X2_add (l : Launch) (dC : Nat → ClassId) (dI : Nat → Nat → Nat) (cI cZ cO : ClassId) (aT a_times a_positions : Nat) (sz : Nat) (p1 : Int32) (p2 : Int32) (p3 : Int32) (v_pairs : Int32) (v_times : (Nat → Int32)) (v_positions : (Nat → Int32)) (o_pairs : Int32) (o_times : (Nat → Int32)) (o_positions : (Nat → Int32)) (hF : f_X2_add p1 p2 p3 v_pairs v_times v_positions = some (o_pairs, o_times, o_positions)) : Met l yX2_add wsX2_add rm_X2_add (va_Pc [.ref aT, .int p1, .int p2, .int p3] (wrW dC dI cI cZ cO sz [(aT, .inr (2, [.int v_pairs, .ref a_times, .ref a_positions])), (a_times, .inl (cI, 61, .inl v_times)), (a_positions, .inl (cI, 61, .inl v_positions))])) (va_Qv (fun (_ : Unit) => True) (wrE dC dI [(aT, .inr (2, [.int v_pairs, .ref a_times, .ref a_positions])), (a_times, .inl (cI, 61, .inl v_times)), (a_positions, .inl (cI, 61, .inl v_positions))] sz [(aT, .inr (2, [.int o_pairs, .ref a_times, .ref a_positions])), (a_times, .inl (cI, 61, .inl o_times)), (a_positions, .inl (cI, 61, .inl o_positions))]) (va_A [(aT, .inr (2, [.int v_pairs, .ref a_times, .ref a_positions])), (a_times, .inl (cI, 61, .inl v_times)), (a_positions, .inl (cI, 61, .inl v_positions))] sz)) 0 0 (va_A [(aT, .inr (2, [.int v_pairs, .ref a_times, .ref a_positions])), (a_times, .inl (cI, 61, .inl v_times)), (a_positions, .inl (cI, 61, .inl v_positions))] sz) := by
  refine Met.ofW (cc := cX2_add) (maxL := 7) (ret := none) (by decide) rfl ?_
  intro p e s m args below meth c s₁ B hml hv
  obtain ⟨rfl, hsz, hP, hK, hN, hD0⟩ := hv
  have hx := B.exec
  have hb := B.bytes
  have hr := B.returns
  have hts := atoms_spec (ws := wsX2_add) B.pre
  have hown : s.vm.findClass RX2 = some m.cls := findClass_of_methodNamed B.named
  have hlocks := B.notSynchronized
  subst hsz
  have hD := hD0.self (sz := s.heap.size)
  obtain ⟨Q, hQ⟩ : ∃ Q, Q = MQ below (va_Qv (fun (_ : Unit) => True) (wrE dC dI [(aT, .inr (2, [.int v_pairs, .ref a_times, .ref a_positions])), (a_times, .inl (cI, 61, .inl v_times)), (a_positions, .inl (cI, 61, .inl v_positions))] s.heap.size [(aT, .inr (2, [.int o_pairs, .ref a_times, .ref a_positions])), (a_times, .inl (cI, 61, .inl o_times)), (a_positions, .inl (cI, 61, .inl o_positions))]) (va_A [(aT, .inr (2, [.int v_pairs, .ref a_times, .ref a_positions])), (a_times, .inl (cI, 61, .inl v_times)), (a_positions, .inl (cI, 61, .inl v_positions))] s.heap.size)) ([.ref aT, .int p1, .int p2, .int p3] : List Value).toArray s 0 0 (va_A [(aT, .inr (2, [.int v_pairs, .ref a_times, .ref a_positions])), (a_times, .inl (cI, 61, .inl v_times)), (a_positions, .inl (cI, 61, .inl v_positions))] s.heap.size) := ⟨_, rfl⟩
  rw [← hQ]
  obtain ⟨A, hAe⟩ : ∃ A, A = va_A [(aT, .inr (2, [.int v_pairs, .ref a_times, .ref a_positions])), (a_times, .inl (cI, 61, .inl v_times)), (a_positions, .inl (cI, 61, .inl v_positions))] s.heap.size := ⟨_, rfl⟩
  rw [← hAe] at hD
  have hA : ∀ q : Nat, s.heap.size ≤ q → A q := fun q h => by rw [hAe]; exact Or.inr h
  obtain ⟨H, hH⟩ : ∃ H, H = s.heap := ⟨_, rfl⟩
  have hS : va_S A s.heap H [] := by rw [hH]; exact va_S.rf
  rw [← hH] at hP
  rw [← hH]
  have fl18 := hts (.fieldLink RX2 18 "Teleprompter$Trail" "pairs" "I") (by decide +kernel)
  have fl9 := hts (.fieldLink RX2 9 "Teleprompter$Trail" "times" "[I") (by decide +kernel)
  have fl15 := hts (.fieldLink RX2 15 "Teleprompter$Trail" "positions" "[I") (by decide +kernel)
  have inX2 : ∀ w ∈ u_ws RX2 TX2 3, w ∈ wsX2_add := by decide +kernel
  have hl := lv_entry ([.ref aT, .int p1, .int p2, .int p3]) (n := 7) (Nat.le_of_ble_eq_true rfl)
  rw [lg_entry_eq]
  generalize (lg_sl ([.ref aT, .int p1, .int p2, .int p3]) ++ List.replicate (7 - (lg_sl ([.ref aT, .int p1, .int p2, .int p3])).length) Slot.unset).toArray = ls at hl ⊢
  have hl : lv_has ls 7 [(0, .ref aT), (1, .int p1), (2, .int p2), (3, .int p3)] := hl
  have B6 : ∀ (n_6 : Nat) (x1_6 : Int32) (x2_6 : Int32) (x3_6 : Int32) (v_pairs_6 : Int32) (x4_6 : Int32) (x5_6 : Int32) (v_times_6 : (Nat → Int32)) (v_positions_6 : (Nat → Int32)), f_X2_add_6 x1_6 x2_6 x3_6 v_pairs_6 n_6 x4_6 x5_6 v_times_6 v_positions_6 = some (o_pairs, o_times, o_positions) → ∀ (H : Heap) (locs : List Loc), va_P (dC, dI) vwCl [(aT, .inr (2, [.int v_pairs_6, .ref a_times, .ref a_positions])), (a_times, .inl (cI, 61, .inl v_times_6)), (a_positions, .inl (cI, 61, .inl v_positions_6))] H → va_D A [(aT, .inr (2, [.int v_pairs_6, .ref a_times, .ref a_positions])), (a_times, .inl (cI, 61, .inl v_times_6)), (a_positions, .inl (cI, 61, .inl v_positions_6))] → va_S A s.heap H locs → ∀ ls : Array Slot, lv_has ls 7 [(0, .ref aT), (1, .int x1_6), (2, .int x2_6), (3, .int x3_6), (4, .int x4_6), (5, .int x5_6)] → W p l e (headSpec wsX2_add rm_X2_add).room s m ([.ref aT, .int p1, .int p2, .int p3] : List Value).toArray below meth c H locs 0 0 Q (F0 m 6 ls []) := by
    intro n_6
    induction n_6 with
    | zero => intro x1_6 x2_6 x3_6 v_pairs_6 x4_6 x5_6 v_times_6 v_positions_6 hF; exact noneE hF
    | succ n_6 ih6 =>
      intro x1_6 x2_6 x3_6 v_pairs_6 x4_6 x5_6 v_times_6 v_positions_6 hF H locs hP hD hS ls hl
      rw [f_X2_add_6] at hF
      refine lv_iload hx hb dX2_add_6 (lv_at hl 5 rfl) ?_
      refine lv_aload_n hx hb dX2_add_8 rfl (lv_at hl 0 rfl) ?_
      refine va_get (D := (dC, dI)) (ci := 2) (v := .int v_pairs_6) (C := RX2) (T := TX2) (N := 3) hx hb hts inX2 hown hK hP 0 rfl rfl 0 (by decide) fl18 (fun _ h9 => h9) rfl dX2_add_9 ?_
      refine lv_icmp_ge (tgt := 78) hx hb dX2_add_12 (by decide) (fun c_12 => ?_) (fun c_12 => ?_)
      · have hF := (if_pos c_12).symm.trans hF
        refine lv_aload_n hx hb dX2_add_78 rfl (lv_at hl 0 rfl) ?_
        refine lv_iload hx hb dX2_add_79 (lv_at hl 4 rfl) ?_
        refine va_put (D := (dC, dI)) (ci := 2) (v := .int x4_6) (ty := .int) (C := RX2) (T := TX2) (N := 3) hx hb hts inX2 tyX2 tyX2_ok nmX2 hown hK hP hD hS 0 rfl rfl 0 (by decide) fl18 (fun _ h9 => h9) rfl (by decide +kernel) rfl rfl (Nat.le_of_ble_eq_true rfl) dX2_add_81 (fun H locs hP hD hS => ?_)
        have hP : va_P (dC, dI) vwCl [(aT, .inr (2, [.int x4_6, .ref a_times, .ref a_positions])), (a_times, .inl (cI, 61, .inl v_times_6)), (a_positions, .inl (cI, 61, .inl v_positions_6))] H := hP
        have hD : va_D A [(aT, .inr (2, [.int x4_6, .ref a_times, .ref a_positions])), (a_times, .inl (cI, 61, .inl v_times_6)), (a_positions, .inl (cI, 61, .inl v_positions_6))] := hD
        refine lv_aload_n hx hb dX2_add_84 rfl (lv_at hl 0 rfl) ?_
        refine va_get (D := (dC, dI)) (ci := 2) (v := .int x4_6) (C := RX2) (T := TX2) (N := 3) hx hb hts inX2 hown hK hP 0 rfl rfl 0 (by decide) fl18 (fun _ h9 => h9) rfl dX2_add_85 ?_
        refine lv_bipush (v := (61 : Int32)) hx hb dX2_add_88 (by decide) ?_
        refine lv_icmp_ge (tgt := 127) hx hb dX2_add_90 (by decide) (fun c_90 => ?_) (fun c_90 => ?_)
        · have hF := (if_pos c_90).symm.trans hF
          have hF : some (x4_6, v_times_6, v_positions_6) = some (o_pairs, o_times, o_positions) := hF
          have hP9 := hP
          have hD9 := hD
          cases hF
          subst hQ
          subst hAe
          exact W.vret hx hb hr (fun t ht hW => ⟨⟨(), rfl, trivial, ⟨by rw [ht]; exact hP9, hD9⟩⟩, hS.F ht⟩) hS.2.2 dX2_add_127
        · have hF := (if_neg c_90).symm.trans hF
          refine lv_aload_n hx hb dX2_add_93 rfl (lv_at hl 0 rfl) ?_
          refine va_get (D := (dC, dI)) (ci := 2) (v := .ref a_times) (C := RX2) (T := TX2) (N := 3) hx hb hts inX2 hown hK hP 0 rfl rfl 1 (by decide) fl9 (fun _ h9 => h9) rfl dX2_add_94 ?_
          refine lv_aload_n hx hb dX2_add_97 rfl (lv_at hl 0 rfl) ?_
          refine va_get (D := (dC, dI)) (ci := 2) (v := .int x4_6) (C := RX2) (T := TX2) (N := 3) hx hb hts inX2 hown hK hP 0 rfl rfl 0 (by decide) fl18 (fun _ h9 => h9) rfl dX2_add_98 ?_
          refine lv_iload_n hx hb dX2_add_101 rfl (lv_at hl 1 rfl) ?_
          obtain ⟨q_102, hq_102, hF⟩ := bindE hF
          have hPc := hP.sub (ws' := [(a_times, .inl (cI, 61, .inl v_times_6))]) [1] rfl
          have hDc := hD.sub (ws' := [(a_times, .inl (cI, 61, .inl v_times_6))]) [1] (by decide) rfl
          have hFc := va_free (wc := [(a_times, .inl (cI, 61, .inl v_times_6))]) hD hS hA [1] rfl
          refine va_callv (va_runSN (As := [.ref a_times, .int x4_6, .int x1_6]) (rest := []) ⟨hx, hb, hml, hown, hts⟩ (c_X3_put l dC dI cI cZ cO a_times H.size 61 x4_6 x1_6 v_times_6 q_102 hq_102) ⟨(va_cnB 3 hts gX2_add_X3_put_n30 rfl rfl rfl (NW_X2_30 hN) (hts (.initialized RX3) (by decide +kernel)) (by decide +kernel) ⟨Nat.le_of_ble_eq_true rfl, Nat.le_of_ble_eq_true rfl⟩), hts (.static yX3_put) (by decide +kernel), trivial⟩ ⟨fb_wr, pre_wr hPc hK hN hDc⟩ rfl rfl hl.1 rfl (lv_room (Nat.le_of_ble_eq_true rfl)) dX2_add_102 ⟨Nat.zero_le _, Nat.zero_le _⟩) hS (fun q _ h => hFc q h) hFc (fun _ t H1 locs ht hvm hw hB hz1 hk1 hS => ?_)
          obtain ⟨hP1, hD1⟩ := hB
          rw [ht] at hP1
          obtain ⟨hP, hD⟩ := va_join (wr := [(aT, .inr (2, [.int x4_6, .ref a_times, .ref a_positions])), (a_positions, .inl (cI, 61, .inl v_positions_6))]) (w1 := [(a_times, .inl (cI, 61, .inl q_102))]) hP hD [1] [0, 2] rfl rfl (by decide) (by decide) hk1 hFc hP1 hD1
          generalize H1 = H at hP hS ⊢
          have hP : va_P (dC, dI) vwCl [(aT, .inr (2, [.int x4_6, .ref a_times, .ref a_positions])), (a_positions, .inl (cI, 61, .inl v_positions_6)), (a_times, .inl (cI, 61, .inl q_102))] H := hP
          have hD : va_D A [(aT, .inr (2, [.int x4_6, .ref a_times, .ref a_positions])), (a_positions, .inl (cI, 61, .inl v_positions_6)), (a_times, .inl (cI, 61, .inl q_102))] := hD
          refine lv_aload_n hx hb dX2_add_105 rfl (lv_at hl 0 rfl) ?_
          refine va_get (D := (dC, dI)) (ci := 2) (v := .ref a_positions) (C := RX2) (T := TX2) (N := 3) hx hb hts inX2 hown hK hP 0 rfl rfl 2 (by decide) fl15 (fun _ h9 => h9) rfl dX2_add_106 ?_
          refine lv_aload_n hx hb dX2_add_109 rfl (lv_at hl 0 rfl) ?_
          refine va_get (D := (dC, dI)) (ci := 2) (v := .int x4_6) (C := RX2) (T := TX2) (N := 3) hx hb hts inX2 hown hK hP 0 rfl rfl 0 (by decide) fl18 (fun _ h9 => h9) rfl dX2_add_110 ?_
          refine lv_iload_n hx hb dX2_add_113 rfl (lv_at hl 2 rfl) ?_
          obtain ⟨q_114, hq_114, hF⟩ := bindE hF
          have hPc := hP.sub (ws' := [(a_positions, .inl (cI, 61, .inl v_positions_6))]) [1] rfl
          have hDc := hD.sub (ws' := [(a_positions, .inl (cI, 61, .inl v_positions_6))]) [1] (by decide) rfl
          have hFc := va_free (wc := [(a_positions, .inl (cI, 61, .inl v_positions_6))]) hD hS hA [1] rfl
          refine va_callv (va_runSN (As := [.ref a_positions, .int x4_6, .int x2_6]) (rest := []) ⟨hx, hb, hml, hown, hts⟩ (c_X3_put l dC dI cI cZ cO a_positions H.size 61 x4_6 x2_6 v_positions_6 q_114 hq_114) ⟨(va_cnB 3 hts gX2_add_X3_put_n30 rfl rfl rfl (NW_X2_30 hN) (hts (.initialized RX3) (by decide +kernel)) (by decide +kernel) ⟨Nat.le_of_ble_eq_true rfl, Nat.le_of_ble_eq_true rfl⟩), hts (.static yX3_put) (by decide +kernel), trivial⟩ ⟨fb_wr, pre_wr hPc hK hN hDc⟩ rfl rfl hl.1 rfl (lv_room (Nat.le_of_ble_eq_true rfl)) dX2_add_114 ⟨Nat.zero_le _, Nat.zero_le _⟩) hS (fun q _ h => hFc q h) hFc (fun _ t H1 locs ht hvm hw hB hz1 hk1 hS => ?_)
          obtain ⟨hP1, hD1⟩ := hB
          rw [ht] at hP1
          obtain ⟨hP, hD⟩ := va_join (wr := [(aT, .inr (2, [.int x4_6, .ref a_times, .ref a_positions])), (a_times, .inl (cI, 61, .inl q_102))]) (w1 := [(a_positions, .inl (cI, 61, .inl q_114))]) hP hD [1] [0, 2] rfl rfl (by decide) (by decide) hk1 hFc hP1 hD1
          generalize H1 = H at hP hS ⊢
          have hP : va_P (dC, dI) vwCl [(aT, .inr (2, [.int x4_6, .ref a_times, .ref a_positions])), (a_times, .inl (cI, 61, .inl q_102)), (a_positions, .inl (cI, 61, .inl q_114))] H := hP
          have hD : va_D A [(aT, .inr (2, [.int x4_6, .ref a_times, .ref a_positions])), (a_times, .inl (cI, 61, .inl q_102)), (a_positions, .inl (cI, 61, .inl q_114))] := hD
          refine lv_aload_n hx hb dX2_add_117 rfl (lv_at hl 0 rfl) ?_
          refine lv_dup hx hb dX2_add_118 rfl ?_
          refine va_get (D := (dC, dI)) (ci := 2) (v := .int x4_6) (C := RX2) (T := TX2) (N := 3) hx hb hts inX2 hown hK hP 0 rfl rfl 0 (by decide) fl18 (fun _ h9 => h9) rfl dX2_add_119 ?_
          refine lv_iconst (v := (1 : Int32)) hx hb dX2_add_122 (by decide) ?_
          refine lv_iadd hx hb dX2_add_123 ?_
          refine va_put (D := (dC, dI)) (ci := 2) (v := .int (x4_6 + (1 : Int32))) (ty := .int) (C := RX2) (T := TX2) (N := 3) hx hb hts inX2 tyX2 tyX2_ok nmX2 hown hK hP hD hS 0 rfl rfl 0 (by decide) fl18 (fun _ h9 => h9) rfl (by decide +kernel) rfl rfl (Nat.le_of_ble_eq_true rfl) dX2_add_124 (fun H locs hP hD hS => ?_)
          have hP : va_P (dC, dI) vwCl [(aT, .inr (2, [.int (x4_6 + (1 : Int32)), .ref a_times, .ref a_positions])), (a_times, .inl (cI, 61, .inl q_102)), (a_positions, .inl (cI, 61, .inl q_114))] H := hP
          have hD : va_D A [(aT, .inr (2, [.int (x4_6 + (1 : Int32)), .ref a_times, .ref a_positions])), (a_times, .inl (cI, 61, .inl q_102)), (a_positions, .inl (cI, 61, .inl q_114))] := hD
          have hF : some ((x4_6 + (1 : Int32)), q_102, q_114) = some (o_pairs, o_times, o_positions) := hF
          have hP9 := hP
          have hD9 := hD
          cases hF
          subst hQ
          subst hAe
          exact W.vret hx hb hr (fun t ht hW => ⟨⟨(), rfl, trivial, ⟨by rw [ht]; exact hP9, hD9⟩⟩, hS.F ht⟩) hS.2.2 dX2_add_127
      · have hF := (if_neg c_12).symm.trans hF
        refine lv_aload_n hx hb dX2_add_15 rfl (lv_at hl 0 rfl) ?_
        refine va_get (D := (dC, dI)) (ci := 2) (v := .ref a_times) (C := RX2) (T := TX2) (N := 3) hx hb hts inX2 hown hK hP 0 rfl rfl 1 (by decide) fl9 (fun _ h9 => h9) rfl dX2_add_16 ?_
        refine lv_iload hx hb dX2_add_19 (lv_at hl 5 rfl) ?_
        obtain ⟨q_21, hq_21, hF⟩ := bindE hF
        have hPc := hP.sub (ws' := [(a_times, .inl (cI, 61, .inl v_times_6))]) [1] rfl
        refine vp_callSi (va_Run.run (va_runSN (As := [.ref a_times, .int x5_6]) (rest := []) ⟨hx, hb, hml, hown, hts⟩ (c_X3_at l dC dI cI cZ cO a_times 61 x5_6 v_times_6 q_21 hq_21) ⟨(va_cnB 2 hts gX2_add_X3_at_n26 rfl rfl rfl (NW_X2_26 hN) (hts (.initialized RX3) (by decide +kernel)) (by decide +kernel) ⟨Nat.le_of_ble_eq_true rfl, Nat.le_of_ble_eq_true rfl⟩), hts (.static yX3_at) (by decide +kernel), trivial⟩ ⟨fb_rd, pre_rd hPc hK hN⟩ rfl rfl hl.1 rfl (lv_room (Nat.le_of_ble_eq_true rfl)) dX2_add_21 ⟨Nat.zero_le _, Nat.zero_le _⟩)) (fun z_21 hz_21 => ?_)
        subst hz_21
        refine lv_istore (lv' := [(6, .int q_21), (0, .ref aT), (1, .int x1_6), (2, .int x2_6), (3, .int x3_6), (4, .int x4_6), (5, .int x5_6)]) hx hb dX2_add_24 hl (by decide) rfl (fun ls hl => ?_)
        refine lv_iload hx hb dX2_add_26 (lv_at hl 0 rfl) ?_
        refine lv_iload_n hx hb dX2_add_28 rfl (lv_at hl 2 rfl) ?_
        refine lv_iload_n hx hb dX2_add_29 rfl (lv_at hl 4 rfl) ?_
        refine lv_isub hx hb dX2_add_30 ?_
        refine lv_icmp_lt (tgt := 72) hx hb dX2_add_31 (by decide) (fun c_31 => ?_) (fun c_31 => ?_)
        · have hF := (if_pos c_31).symm.trans hF
          refine lv_iinc (v := (x5_6 + 1)) (lv' := [(5, .int (x5_6 + 1)), (6, .int q_21), (0, .ref aT), (1, .int x1_6), (2, .int x2_6), (3, .int x3_6), (4, .int x4_6)]) hx hb dX2_add_72 hl (k := 6) rfl rfl (by decide) rfl (fun ls hl => ?_)
          refine lv_goto (tgt := 6) hx hb dX2_add_75 (by decide) ?_
          exact ih6 x1_6 x2_6 x3_6 v_pairs_6 x4_6 (x5_6 + 1) v_times_6 v_positions_6 hF _ _ hP hD hS _ (lv_sub hl [2, 3, 4, 5, 6, 0] rfl)
        · have hF := (if_neg c_31).symm.trans hF
          refine lv_iload hx hb dX2_add_34 (lv_at hl 0 rfl) ?_
          refine lv_iload_n hx hb dX2_add_36 rfl (lv_at hl 2 rfl) ?_
          refine lv_icmp_eq (tgt := 72) hx hb dX2_add_37 (by decide) (fun c_37 => ?_) (fun c_37 => ?_)
          · have hF := (if_pos c_37).symm.trans hF
            refine lv_iinc (v := (x5_6 + 1)) (lv' := [(5, .int (x5_6 + 1)), (6, .int q_21), (0, .ref aT), (1, .int x1_6), (2, .int x2_6), (3, .int x3_6), (4, .int x4_6)]) hx hb dX2_add_72 hl (k := 6) rfl rfl (by decide) rfl (fun ls hl => ?_)
            refine lv_goto (tgt := 6) hx hb dX2_add_75 (by decide) ?_
            exact ih6 x1_6 x2_6 x3_6 v_pairs_6 x4_6 (x5_6 + 1) v_times_6 v_positions_6 hF _ _ hP hD hS _ (lv_sub hl [2, 3, 4, 5, 6, 0] rfl)
          · have hF := (if_neg c_37).symm.trans hF
            refine lv_aload_n hx hb dX2_add_40 rfl (lv_at hl 1 rfl) ?_
            refine va_get (D := (dC, dI)) (ci := 2) (v := .ref a_times) (C := RX2) (T := TX2) (N := 3) hx hb hts inX2 hown hK hP 0 rfl rfl 1 (by decide) fl9 (fun _ h9 => h9) rfl dX2_add_41 ?_
            refine lv_iload hx hb dX2_add_44 (lv_at hl 5 rfl) ?_
            refine lv_iload hx hb dX2_add_46 (lv_at hl 0 rfl) ?_
            obtain ⟨q_48, hq_48, hF⟩ := bindE hF
            have hPc := hP.sub (ws' := [(a_times, .inl (cI, 61, .inl v_times_6))]) [1] rfl
            have hDc := hD.sub (ws' := [(a_times, .inl (cI, 61, .inl v_times_6))]) [1] (by decide) rfl
            have hFc := va_free (wc := [(a_times, .inl (cI, 61, .inl v_times_6))]) hD hS hA [1] rfl
            refine va_callv (va_runSN (As := [.ref a_times, .int x4_6, .int q_21]) (rest := []) ⟨hx, hb, hml, hown, hts⟩ (c_X3_put l dC dI cI cZ cO a_times H.size 61 x4_6 q_21 v_times_6 q_48 hq_48) ⟨(va_cnB 3 hts gX2_add_X3_put_n30 rfl rfl rfl (NW_X2_30 hN) (hts (.initialized RX3) (by decide +kernel)) (by decide +kernel) ⟨Nat.le_of_ble_eq_true rfl, Nat.le_of_ble_eq_true rfl⟩), hts (.static yX3_put) (by decide +kernel), trivial⟩ ⟨fb_wr, pre_wr hPc hK hN hDc⟩ rfl rfl hl.1 rfl (lv_room (Nat.le_of_ble_eq_true rfl)) dX2_add_48 ⟨Nat.zero_le _, Nat.zero_le _⟩) hS (fun q _ h => hFc q h) hFc (fun _ t H1 locs ht hvm hw hB hz1 hk1 hS => ?_)
            obtain ⟨hP1, hD1⟩ := hB
            rw [ht] at hP1
            obtain ⟨hP, hD⟩ := va_join (wr := [(aT, .inr (2, [.int v_pairs_6, .ref a_times, .ref a_positions])), (a_positions, .inl (cI, 61, .inl v_positions_6))]) (w1 := [(a_times, .inl (cI, 61, .inl q_48))]) hP hD [1] [0, 2] rfl rfl (by decide) (by decide) hk1 hFc hP1 hD1
            generalize H1 = H at hP hS ⊢
            have hP : va_P (dC, dI) vwCl [(aT, .inr (2, [.int v_pairs_6, .ref a_times, .ref a_positions])), (a_positions, .inl (cI, 61, .inl v_positions_6)), (a_times, .inl (cI, 61, .inl q_48))] H := hP
            have hD : va_D A [(aT, .inr (2, [.int v_pairs_6, .ref a_times, .ref a_positions])), (a_positions, .inl (cI, 61, .inl v_positions_6)), (a_times, .inl (cI, 61, .inl q_48))] := hD
            refine lv_aload_n hx hb dX2_add_51 rfl (lv_at hl 1 rfl) ?_
            refine va_get (D := (dC, dI)) (ci := 2) (v := .ref a_positions) (C := RX2) (T := TX2) (N := 3) hx hb hts inX2 hown hK hP 0 rfl rfl 2 (by decide) fl15 (fun _ h9 => h9) rfl dX2_add_52 ?_
            refine lv_iload hx hb dX2_add_55 (lv_at hl 5 rfl) ?_
            refine lv_aload_n hx hb dX2_add_57 rfl (lv_at hl 1 rfl) ?_
            refine va_get (D := (dC, dI)) (ci := 2) (v := .ref a_positions) (C := RX2) (T := TX2) (N := 3) hx hb hts inX2 hown hK hP 0 rfl rfl 2 (by decide) fl15 (fun _ h9 => h9) rfl dX2_add_58 ?_
            refine lv_iload hx hb dX2_add_61 (lv_at hl 6 rfl) ?_
            obtain ⟨q_63, hq_63, hF⟩ := bindE hF
            have hPc := hP.sub (ws' := [(a_positions, .inl (cI, 61, .inl v_positions_6))]) [1] rfl
            refine vp_callSi (va_Run.run (va_runSN (As := [.ref a_positions, .int x5_6]) (rest := [.int x4_6, .ref a_positions]) ⟨hx, hb, hml, hown, hts⟩ (c_X3_at l dC dI cI cZ cO a_positions 61 x5_6 v_positions_6 q_63 hq_63) ⟨(va_cnB 2 hts gX2_add_X3_at_n26 rfl rfl rfl (NW_X2_26 hN) (hts (.initialized RX3) (by decide +kernel)) (by decide +kernel) ⟨Nat.le_of_ble_eq_true rfl, Nat.le_of_ble_eq_true rfl⟩), hts (.static yX3_at) (by decide +kernel), trivial⟩ ⟨fb_rd, pre_rd hPc hK hN⟩ rfl rfl hl.1 rfl (lv_room (Nat.le_of_ble_eq_true rfl)) dX2_add_63 ⟨Nat.zero_le _, Nat.zero_le _⟩)) (fun z_63 hz_63 => ?_)
            subst hz_63
            obtain ⟨q_66, hq_66, hF⟩ := bindE hF
            have hPc := hP.sub (ws' := [(a_positions, .inl (cI, 61, .inl v_positions_6))]) [1] rfl
            have hDc := hD.sub (ws' := [(a_positions, .inl (cI, 61, .inl v_positions_6))]) [1] (by decide) rfl
            have hFc := va_free (wc := [(a_positions, .inl (cI, 61, .inl v_positions_6))]) hD hS hA [1] rfl
            refine va_callv (va_runSN (As := [.ref a_positions, .int x4_6, .int q_63]) (rest := []) ⟨hx, hb, hml, hown, hts⟩ (c_X3_put l dC dI cI cZ cO a_positions H.size 61 x4_6 q_63 v_positions_6 q_66 hq_66) ⟨(va_cnB 3 hts gX2_add_X3_put_n30 rfl rfl rfl (NW_X2_30 hN) (hts (.initialized RX3) (by decide +kernel)) (by decide +kernel) ⟨Nat.le_of_ble_eq_true rfl, Nat.le_of_ble_eq_true rfl⟩), hts (.static yX3_put) (by decide +kernel), trivial⟩ ⟨fb_wr, pre_wr hPc hK hN hDc⟩ rfl rfl hl.1 rfl (lv_room (Nat.le_of_ble_eq_true rfl)) dX2_add_66 ⟨Nat.zero_le _, Nat.zero_le _⟩) hS (fun q _ h => hFc q h) hFc (fun _ t H1 locs ht hvm hw hB hz1 hk1 hS => ?_)
            obtain ⟨hP1, hD1⟩ := hB
            rw [ht] at hP1
            obtain ⟨hP, hD⟩ := va_join (wr := [(aT, .inr (2, [.int v_pairs_6, .ref a_times, .ref a_positions])), (a_times, .inl (cI, 61, .inl q_48))]) (w1 := [(a_positions, .inl (cI, 61, .inl q_66))]) hP hD [1] [0, 2] rfl rfl (by decide) (by decide) hk1 hFc hP1 hD1
            generalize H1 = H at hP hS ⊢
            have hP : va_P (dC, dI) vwCl [(aT, .inr (2, [.int v_pairs_6, .ref a_times, .ref a_positions])), (a_times, .inl (cI, 61, .inl q_48)), (a_positions, .inl (cI, 61, .inl q_66))] H := hP
            have hD : va_D A [(aT, .inr (2, [.int v_pairs_6, .ref a_times, .ref a_positions])), (a_times, .inl (cI, 61, .inl q_48)), (a_positions, .inl (cI, 61, .inl q_66))] := hD
            refine lv_iinc (v := (x4_6 + 1)) (lv' := [(4, .int (x4_6 + 1)), (6, .int q_21), (0, .ref aT), (1, .int x1_6), (2, .int x2_6), (3, .int x3_6), (5, .int x5_6)]) hx hb dX2_add_69 hl (k := 5) rfl rfl (by decide) rfl (fun ls hl => ?_)
            refine lv_iinc (v := (x5_6 + 1)) (lv' := [(5, .int (x5_6 + 1)), (4, .int (x4_6 + 1)), (6, .int q_21), (0, .ref aT), (1, .int x1_6), (2, .int x2_6), (3, .int x3_6)]) hx hb dX2_add_72 hl (k := 6) rfl rfl (by decide) rfl (fun ls hl => ?_)
            refine lv_goto (tgt := 6) hx hb dX2_add_75 (by decide) ?_
            exact ih6 x1_6 x2_6 x3_6 v_pairs_6 (x4_6 + 1) (x5_6 + 1) q_48 q_66 hF _ _ hP hD hS _ (lv_sub hl [3, 4, 5, 6, 1, 0] rfl)
  unfold f_X2_add at hF
  refine lv_iconst (v := (0 : Int32)) hx hb dX2_add_0 (by decide) ?_
  refine lv_istore (lv' := [(4, .int (0 : Int32)), (0, .ref aT), (1, .int p1), (2, .int p2), (3, .int p3)]) hx hb dX2_add_1 hl (by decide) rfl (fun ls hl => ?_)
  refine lv_iconst (v := (0 : Int32)) hx hb dX2_add_3 (by decide) ?_
  refine lv_istore (lv' := [(5, .int (0 : Int32)), (4, .int (0 : Int32)), (0, .ref aT), (1, .int p1), (2, .int p2), (3, .int p3)]) hx hb dX2_add_4 hl (by decide) rfl (fun ls hl => ?_)
  exact B6 gas p1 p2 p3 v_pairs (0 : Int32) (0 : Int32) v_times v_positions hF _ _ hP hD hS _ (lv_sub hl [2, 3, 4, 5, 1, 0] rfl)
def f_X2_speedOr (p1 : Int32) (v_pairs : Int32) (v_times : (Nat → Int32)) (v_positions : (Nat → Int32)) : Option Int32 :=
  (f_X3_at 61 (v_pairs - (1 : Int32)) v_times).bind fun q10 =>
  (f_X3_at 61 (0 : Int32) v_times).bind fun q18 =>
  if v_pairs < (2 : Int32) then
    some p1
  else
    if (1 : Int32) ≤ (q10 - q18) then
      (f_X3_at 61 (v_pairs - (1 : Int32)) v_positions).bind fun q50 =>
      (f_X3_at 61 (0 : Int32) v_positions).bind fun q58 =>
      if (q10 - q18) = (0 : Int32) then none else
      some (((100 : Int32) * (q50 - q58)) / (q10 - q18))
    else
      some p1
def rm_X2_speedOr : Room := { frames := 1, cells := 0, slots := 0, locals := 21 }
set_option maxHeartbeats 4000000 in
set_option maxRecDepth 100000 in
theorem c_X2_speedOr (l : Launch) (dC : Nat → ClassId) (dI : Nat → Nat → Nat) (cI cZ cO : ClassId) (aT a_times a_positions : Nat) (p1 : Int32) (v_pairs : Int32) (v_times : (Nat → Int32)) (v_positions : (Nat → Int32)) (r : Int32) (hF : f_X2_speedOr p1 v_pairs v_times v_positions = some r) : Met l yX2_speedOr wsX2_speedOr rm_X2_speedOr (va_Pc [.ref aT, .int p1] (rdW dC dI cI cZ cO [(aT, .inr (2, [.int v_pairs, .ref a_times, .ref a_positions])), (a_times, .inl (cI, 61, .inl v_times)), (a_positions, .inl (cI, 61, .inl v_positions))])) (vp_Si (fun q => r = q)) 0 0 (fun _ => False) := by
  refine Met.ofW (cc := cX2_speedOr) (maxL := 3) (ret := (some .int)) (by decide) rfl ?_
  intro p e s m args below meth c s₁ B hml hv
  obtain ⟨rfl, hP, hK, hN⟩ := hv
  have hx := B.exec
  have hb := B.bytes
  have hr := B.returns
  have hts := atoms_spec (ws := wsX2_speedOr) B.pre
  have hown : s.vm.findClass RX2 = some m.cls := findClass_of_methodNamed B.named
  have hlocks := B.notSynchronized
  obtain ⟨Q, hQ⟩ : ∃ Q, Q = MQ below (vp_Si (fun q => r = q)) ([.ref aT, .int p1] : List Value).toArray s 0 0 (fun _ => False) := ⟨_, rfl⟩
  rw [← hQ]
  have hS : va_S (fun _ => False) s.heap s.heap [] := va_S.rf
  have fl9 := hts (.fieldLink RX2 9 "Teleprompter$Trail" "times" "[I") (by decide +kernel)
  have fl18 := hts (.fieldLink RX2 18 "Teleprompter$Trail" "pairs" "I") (by decide +kernel)
  have fl15 := hts (.fieldLink RX2 15 "Teleprompter$Trail" "positions" "[I") (by decide +kernel)
  have inX2 : ∀ w ∈ u_ws RX2 TX2 3, w ∈ wsX2_speedOr := by decide +kernel
  have hl := lv_entry ([.ref aT, .int p1]) (n := 3) (Nat.le_of_ble_eq_true rfl)
  rw [lg_entry_eq]
  generalize (lg_sl ([.ref aT, .int p1]) ++ List.replicate (3 - (lg_sl ([.ref aT, .int p1])).length) Slot.unset).toArray = ls at hl ⊢
  have hl : lv_has ls 3 [(0, .ref aT), (1, .int p1)] := hl
  unfold f_X2_speedOr at hF
  refine lv_aload_n hx hb dX2_speedOr_0 rfl (lv_at hl 0 rfl) ?_
  refine va_get (D := (dC, dI)) (ci := 2) (v := .ref a_times) (C := RX2) (T := TX2) (N := 3) hx hb hts inX2 hown hK hP 0 rfl rfl 1 (by decide) fl9 (fun _ h9 => h9) rfl dX2_speedOr_1 ?_
  refine lv_aload_n hx hb dX2_speedOr_4 rfl (lv_at hl 0 rfl) ?_
  refine va_get (D := (dC, dI)) (ci := 2) (v := .int v_pairs) (C := RX2) (T := TX2) (N := 3) hx hb hts inX2 hown hK hP 0 rfl rfl 0 (by decide) fl18 (fun _ h9 => h9) rfl dX2_speedOr_5 ?_
  refine lv_iconst (v := (1 : Int32)) hx hb dX2_speedOr_8 (by decide) ?_
  refine lv_isub hx hb dX2_speedOr_9 ?_
  obtain ⟨q_10, hq_10, hF⟩ := bindE hF
  have hPc := hP.sub (ws' := [(a_times, .inl (cI, 61, .inl v_times))]) [1] rfl
  refine vp_callSi (va_Run.run (va_runSN (As := [.ref a_times, .int (v_pairs - (1 : Int32))]) (rest := []) ⟨hx, hb, hml, hown, hts⟩ (c_X3_at l dC dI cI cZ cO a_times 61 (v_pairs - (1 : Int32)) v_times q_10 hq_10) ⟨(va_cnB 2 hts gX2_speedOr_X3_at_n26 rfl rfl rfl (NW_X2_26 hN) (hts (.initialized RX3) (by decide +kernel)) (by decide +kernel) ⟨Nat.le_of_ble_eq_true rfl, Nat.le_of_ble_eq_true rfl⟩), hts (.static yX3_at) (by decide +kernel), trivial⟩ ⟨fb_rd, pre_rd hPc hK hN⟩ rfl rfl hl.1 rfl (lv_room (Nat.le_of_ble_eq_true rfl)) dX2_speedOr_10 ⟨Nat.zero_le _, Nat.zero_le _⟩)) (fun z_10 hz_10 => ?_)
  subst hz_10
  refine lv_aload_n hx hb dX2_speedOr_13 rfl (lv_at hl 0 rfl) ?_
  refine va_get (D := (dC, dI)) (ci := 2) (v := .ref a_times) (C := RX2) (T := TX2) (N := 3) hx hb hts inX2 hown hK hP 0 rfl rfl 1 (by decide) fl9 (fun _ h9 => h9) rfl dX2_speedOr_14 ?_
  refine lv_iconst (v := (0 : Int32)) hx hb dX2_speedOr_17 (by decide) ?_
  obtain ⟨q_18, hq_18, hF⟩ := bindE hF
  have hPc := hP.sub (ws' := [(a_times, .inl (cI, 61, .inl v_times))]) [1] rfl
  refine vp_callSi (va_Run.run (va_runSN (As := [.ref a_times, .int (0 : Int32)]) (rest := [.int q_10]) ⟨hx, hb, hml, hown, hts⟩ (c_X3_at l dC dI cI cZ cO a_times 61 (0 : Int32) v_times q_18 hq_18) ⟨(va_cnB 2 hts gX2_speedOr_X3_at_n26 rfl rfl rfl (NW_X2_26 hN) (hts (.initialized RX3) (by decide +kernel)) (by decide +kernel) ⟨Nat.le_of_ble_eq_true rfl, Nat.le_of_ble_eq_true rfl⟩), hts (.static yX3_at) (by decide +kernel), trivial⟩ ⟨fb_rd, pre_rd hPc hK hN⟩ rfl rfl hl.1 rfl (lv_room (Nat.le_of_ble_eq_true rfl)) dX2_speedOr_18 ⟨Nat.zero_le _, Nat.zero_le _⟩)) (fun z_18 hz_18 => ?_)
  subst hz_18
  refine lv_isub hx hb dX2_speedOr_21 ?_
  refine lv_istore_n (lv' := [(2, .int (q_10 - q_18)), (0, .ref aT), (1, .int p1)]) hx hb dX2_speedOr_22 rfl hl (by decide) rfl (fun ls hl => ?_)
  refine lv_aload_n hx hb dX2_speedOr_23 rfl (lv_at hl 1 rfl) ?_
  refine va_get (D := (dC, dI)) (ci := 2) (v := .int v_pairs) (C := RX2) (T := TX2) (N := 3) hx hb hts inX2 hown hK hP 0 rfl rfl 0 (by decide) fl18 (fun _ h9 => h9) rfl dX2_speedOr_24 ?_
  refine lv_iconst (v := (2 : Int32)) hx hb dX2_speedOr_27 (by decide) ?_
  refine lv_icmp_lt (tgt := 36) hx hb dX2_speedOr_28 (by decide) (fun c_28 => ?_) (fun c_28 => ?_)
  · have hF := (if_pos c_28).symm.trans hF
    refine lv_iload_n hx hb dX2_speedOr_36 rfl (lv_at hl 2 rfl) ?_
    have hF : some p1 = some r := hF
    cases hF
    subst hQ
    exact W.iret hx hb hr (fun t ht hW => ⟨_, rfl, rfl, ht⟩) (fun q hq => absurd hq List.not_mem_nil) dX2_speedOr_37
  · have hF := (if_neg c_28).symm.trans hF
    refine lv_iload_n hx hb dX2_speedOr_31 rfl (lv_at hl 0 rfl) ?_
    refine lv_iconst (v := (1 : Int32)) hx hb dX2_speedOr_32 (by decide) ?_
    refine lv_icmp_ge (tgt := 38) hx hb dX2_speedOr_33 (by decide) (fun c_33 => ?_) (fun c_33 => ?_)
    · have hF := (if_pos c_33).symm.trans hF
      refine lv_bipush (v := (100 : Int32)) hx hb dX2_speedOr_38 (by decide) ?_
      refine lv_aload_n hx hb dX2_speedOr_40 rfl (lv_at hl 1 rfl) ?_
      refine va_get (D := (dC, dI)) (ci := 2) (v := .ref a_positions) (C := RX2) (T := TX2) (N := 3) hx hb hts inX2 hown hK hP 0 rfl rfl 2 (by decide) fl15 (fun _ h9 => h9) rfl dX2_speedOr_41 ?_
      refine lv_aload_n hx hb dX2_speedOr_44 rfl (lv_at hl 1 rfl) ?_
      refine va_get (D := (dC, dI)) (ci := 2) (v := .int v_pairs) (C := RX2) (T := TX2) (N := 3) hx hb hts inX2 hown hK hP 0 rfl rfl 0 (by decide) fl18 (fun _ h9 => h9) rfl dX2_speedOr_45 ?_
      refine lv_iconst (v := (1 : Int32)) hx hb dX2_speedOr_48 (by decide) ?_
      refine lv_isub hx hb dX2_speedOr_49 ?_
      obtain ⟨q_50, hq_50, hF⟩ := bindE hF
      have hPc := hP.sub (ws' := [(a_positions, .inl (cI, 61, .inl v_positions))]) [2] rfl
      refine vp_callSi (va_Run.run (va_runSN (As := [.ref a_positions, .int (v_pairs - (1 : Int32))]) (rest := [.int (100 : Int32)]) ⟨hx, hb, hml, hown, hts⟩ (c_X3_at l dC dI cI cZ cO a_positions 61 (v_pairs - (1 : Int32)) v_positions q_50 hq_50) ⟨(va_cnB 2 hts gX2_speedOr_X3_at_n26 rfl rfl rfl (NW_X2_26 hN) (hts (.initialized RX3) (by decide +kernel)) (by decide +kernel) ⟨Nat.le_of_ble_eq_true rfl, Nat.le_of_ble_eq_true rfl⟩), hts (.static yX3_at) (by decide +kernel), trivial⟩ ⟨fb_rd, pre_rd hPc hK hN⟩ rfl rfl hl.1 rfl (lv_room (Nat.le_of_ble_eq_true rfl)) dX2_speedOr_50 ⟨Nat.zero_le _, Nat.zero_le _⟩)) (fun z_50 hz_50 => ?_)
      subst hz_50
      refine lv_aload_n hx hb dX2_speedOr_53 rfl (lv_at hl 1 rfl) ?_
      refine va_get (D := (dC, dI)) (ci := 2) (v := .ref a_positions) (C := RX2) (T := TX2) (N := 3) hx hb hts inX2 hown hK hP 0 rfl rfl 2 (by decide) fl15 (fun _ h9 => h9) rfl dX2_speedOr_54 ?_
      refine lv_iconst (v := (0 : Int32)) hx hb dX2_speedOr_57 (by decide) ?_
      obtain ⟨q_58, hq_58, hF⟩ := bindE hF
      have hPc := hP.sub (ws' := [(a_positions, .inl (cI, 61, .inl v_positions))]) [2] rfl
      refine vp_callSi (va_Run.run (va_runSN (As := [.ref a_positions, .int (0 : Int32)]) (rest := [.int q_50, .int (100 : Int32)]) ⟨hx, hb, hml, hown, hts⟩ (c_X3_at l dC dI cI cZ cO a_positions 61 (0 : Int32) v_positions q_58 hq_58) ⟨(va_cnB 2 hts gX2_speedOr_X3_at_n26 rfl rfl rfl (NW_X2_26 hN) (hts (.initialized RX3) (by decide +kernel)) (by decide +kernel) ⟨Nat.le_of_ble_eq_true rfl, Nat.le_of_ble_eq_true rfl⟩), hts (.static yX3_at) (by decide +kernel), trivial⟩ ⟨fb_rd, pre_rd hPc hK hN⟩ rfl rfl hl.1 rfl (lv_room (Nat.le_of_ble_eq_true rfl)) dX2_speedOr_58 ⟨Nat.zero_le _, Nat.zero_le _⟩)) (fun z_58 hz_58 => ?_)
      subst hz_58
      refine lv_isub hx hb dX2_speedOr_61 ?_
      refine lv_imul hx hb dX2_speedOr_62 ?_
      refine lv_iload_n hx hb dX2_speedOr_63 rfl (lv_at hl 0 rfl) ?_
      by_cases b_64 : ((q_10 - q_18) = (0 : Int32))
      · exact noneE ((if_pos b_64).symm.trans hF)
      have hF := (if_neg b_64).symm.trans hF
      refine lv_idiv hx hb dX2_speedOr_64 b_64 ?_
      have hF : some (((100 : Int32) * (q_50 - q_58)) / (q_10 - q_18)) = some r := hF
      cases hF
      subst hQ
      exact W.iret hx hb hr (fun t ht hW => ⟨_, rfl, rfl, ht⟩) (fun q hq => absurd hq List.not_mem_nil) dX2_speedOr_65
    · have hF := (if_neg c_33).symm.trans hF
      refine lv_iload_n hx hb dX2_speedOr_36 rfl (lv_at hl 2 rfl) ?_
      have hF : some p1 = some r := hF
      cases hF
      subst hQ
      exact W.iret hx hb hr (fun t ht hW => ⟨_, rfl, rfl, ht⟩) (fun q hq => absurd hq List.not_mem_nil) dX2_speedOr_37
