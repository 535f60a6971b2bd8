def f_X4_fails (p1 : Int32) (p2 : Int32) (v_wrongKind : Int32) (v_wrongPlace : Int32) : Option (Int32 × Int32) :=
  some (p1, p2)
def rm_X4_fails : Room := { frames := 0, cells := 0, slots := 0, locals := 0 }
set_option maxHeartbeats 4000000 in
set_option maxRecDepth 100000 in
theorem c_X4_fails (l : Launch) (dC : Nat → ClassId) (dI : Nat → Nat → Nat) (cI cZ cO : ClassId) (aM a_w a_past a_images a_text a_rowOf a_readLetter a_readCue a_readPassage a_held : Nat) (sz : Nat) (p1 : Int32) (p2 : Int32) (v_w : (Nat → Int32)) (v_past : (Nat → Int32)) (v_pastMany : Int32) (v_images : (Nat → Int32)) (v_filled : Int32) (v_text : (Nat → Int32)) (v_length : Int32) (v_faultKind : Int32) (v_faultPlace : Int32) (v_rowOf : (Nat → Int32)) (v_rows : Int32) (v_wrongKind : Int32) (v_wrongPlace : Int32) (v_readWords : Int32) (v_readPassages : Int32) (v_readLetter : (Nat → Int32)) (v_readCue : (Nat → Int32)) (v_readPassage : (Nat → Int32)) (v_held : (Nat → Int32)) (o_wrongKind : Int32) (o_wrongPlace : Int32) (hF : f_X4_fails p1 p2 v_wrongKind v_wrongPlace = some (o_wrongKind, o_wrongPlace)) : Met l yX4_fails wsX4_fails rm_X4_fails (va_Pc [.ref aM, .int p1, .int p2] (wrW dC dI cI cZ cO sz [(aM, .inr (4, [.ref a_w, .ref a_past, .int v_pastMany, .ref a_images, .int v_filled, .ref a_text, .int v_length, .int v_faultKind, .int v_faultPlace, .ref a_rowOf, .int v_rows, .int v_wrongKind, .int v_wrongPlace, .int v_readWords, .int v_readPassages, .ref a_readLetter, .ref a_readCue, .ref a_readPassage, .ref a_held])), (a_w, .inl (cI, 510, .inl v_w)), (a_past, .inl (cI, 4080, .inl v_past)), (a_images, .inl (cI, 1020, .inl v_images)), (a_text, .inl (cI, 140, .inl v_text)), (a_rowOf, .inl (cI, 120, .inl v_rowOf)), (a_readLetter, .inl (cI, 120, .inl v_readLetter)), (a_readCue, .inl (cI, 120, .inl v_readCue)), (a_readPassage, .inl (cI, 120, .inl v_readPassage)), (a_held, .inl (cI, 510, .inl v_held))])) (va_Qv (fun (_ : Unit) => True) (wrE dC dI [(aM, .inr (4, [.ref a_w, .ref a_past, .int v_pastMany, .ref a_images, .int v_filled, .ref a_text, .int v_length, .int v_faultKind, .int v_faultPlace, .ref a_rowOf, .int v_rows, .int v_wrongKind, .int v_wrongPlace, .int v_readWords, .int v_readPassages, .ref a_readLetter, .ref a_readCue, .ref a_readPassage, .ref a_held])), (a_w, .inl (cI, 510, .inl v_w)), (a_past, .inl (cI, 4080, .inl v_past)), (a_images, .inl (cI, 1020, .inl v_images)), (a_text, .inl (cI, 140, .inl v_text)), (a_rowOf, .inl (cI, 120, .inl v_rowOf)), (a_readLetter, .inl (cI, 120, .inl v_readLetter)), (a_readCue, .inl (cI, 120, .inl v_readCue)), (a_readPassage, .inl (cI, 120, .inl v_readPassage)), (a_held, .inl (cI, 510, .inl v_held))] sz [(aM, .inr (4, [.ref a_w, .ref a_past, .int v_pastMany, .ref a_images, .int v_filled, .ref a_text, .int v_length, .int v_faultKind, .int v_faultPlace, .ref a_rowOf, .int v_rows, .int o_wrongKind, .int o_wrongPlace, .int v_readWords, .int v_readPassages, .ref a_readLetter, .ref a_readCue, .ref a_readPassage, .ref a_held])), (a_w, .inl (cI, 510, .inl v_w)), (a_past, .inl (cI, 4080, .inl v_past)), (a_images, .inl (cI, 1020, .inl v_images)), (a_text, .inl (cI, 140, .inl v_text)), (a_rowOf, .inl (cI, 120, .inl v_rowOf)), (a_readLetter, .inl (cI, 120, .inl v_readLetter)), (a_readCue, .inl (cI, 120, .inl v_readCue)), (a_readPassage, .inl (cI, 120, .inl v_readPassage)), (a_held, .inl (cI, 510, .inl v_held))]) (va_A [(aM, .inr (4, [.ref a_w, .ref a_past, .int v_pastMany, .ref a_images, .int v_filled, .ref a_text, .int v_length, .int v_faultKind, .int v_faultPlace, .ref a_rowOf, .int v_rows, .int v_wrongKind, .int v_wrongPlace, .int v_readWords, .int v_readPassages, .ref a_readLetter, .ref a_readCue, .ref a_readPassage, .ref a_held])), (a_w, .inl (cI, 510, .inl v_w)), (a_past, .inl (cI, 4080, .inl v_past)), (a_images, .inl (cI, 1020, .inl v_images)), (a_text, .inl (cI, 140, .inl v_text)), (a_rowOf, .inl (cI, 120, .inl v_rowOf)), (a_readLetter, .inl (cI, 120, .inl v_readLetter)), (a_readCue, .inl (cI, 120, .inl v_readCue)), (a_readPassage, .inl (cI, 120, .inl v_readPassage)), (a_held, .inl (cI, 510, .inl v_held))] sz)) 0 0 (va_A [(aM, .inr (4, [.ref a_w, .ref a_past, .int v_pastMany, .ref a_images, .int v_filled, .ref a_text, .int v_length, .int v_faultKind, .int v_faultPlace, .ref a_rowOf, .int v_rows, .int v_wrongKind, .int v_wrongPlace, .int v_readWords, .int v_readPassages, .ref a_readLetter, .ref a_readCue, .ref a_readPassage, .ref a_held])), (a_w, .inl (cI, 510, .inl v_w)), (a_past, .inl (cI, 4080, .inl v_past)), (a_images, .inl (cI, 1020, .inl v_images)), (a_text, .inl (cI, 140, .inl v_text)), (a_rowOf, .inl (cI, 120, .inl v_rowOf)), (a_readLetter, .inl (cI, 120, .inl v_readLetter)), (a_readCue, .inl (cI, 120, .inl v_readCue)), (a_readPassage, .inl (cI, 120, .inl v_readPassage)), (a_held, .inl (cI, 510, .inl v_held))] sz) := by
  refine Met.ofW (cc := cX4_fails) (maxL := 3) (ret := none) (by decide) rfl ?_
  intro p e s m args below meth c s₁ B hml hv
  obtain ⟨rfl, hsz, hP, hK, hN, hD0⟩ := hv
  have hx := B.exec
  have hb := B.bytes
  have hr := B.returns
  have hts := atoms_spec (ws := wsX4_fails) B.pre
  have hown : s.vm.findClass RX4 = some m.cls := findClass_of_methodNamed B.named
  have hlocks := B.notSynchronized
  subst hsz
  have hD := hD0.self (sz := s.heap.size)
  obtain ⟨Q, hQ⟩ : ∃ Q, Q = MQ below (va_Qv (fun (_ : Unit) => True) (wrE dC dI [(aM, .inr (4, [.ref a_w, .ref a_past, .int v_pastMany, .ref a_images, .int v_filled, .ref a_text, .int v_length, .int v_faultKind, .int v_faultPlace, .ref a_rowOf, .int v_rows, .int v_wrongKind, .int v_wrongPlace, .int v_readWords, .int v_readPassages, .ref a_readLetter, .ref a_readCue, .ref a_readPassage, .ref a_held])), (a_w, .inl (cI, 510, .inl v_w)), (a_past, .inl (cI, 4080, .inl v_past)), (a_images, .inl (cI, 1020, .inl v_images)), (a_text, .inl (cI, 140, .inl v_text)), (a_rowOf, .inl (cI, 120, .inl v_rowOf)), (a_readLetter, .inl (cI, 120, .inl v_readLetter)), (a_readCue, .inl (cI, 120, .inl v_readCue)), (a_readPassage, .inl (cI, 120, .inl v_readPassage)), (a_held, .inl (cI, 510, .inl v_held))] s.heap.size [(aM, .inr (4, [.ref a_w, .ref a_past, .int v_pastMany, .ref a_images, .int v_filled, .ref a_text, .int v_length, .int v_faultKind, .int v_faultPlace, .ref a_rowOf, .int v_rows, .int o_wrongKind, .int o_wrongPlace, .int v_readWords, .int v_readPassages, .ref a_readLetter, .ref a_readCue, .ref a_readPassage, .ref a_held])), (a_w, .inl (cI, 510, .inl v_w)), (a_past, .inl (cI, 4080, .inl v_past)), (a_images, .inl (cI, 1020, .inl v_images)), (a_text, .inl (cI, 140, .inl v_text)), (a_rowOf, .inl (cI, 120, .inl v_rowOf)), (a_readLetter, .inl (cI, 120, .inl v_readLetter)), (a_readCue, .inl (cI, 120, .inl v_readCue)), (a_readPassage, .inl (cI, 120, .inl v_readPassage)), (a_held, .inl (cI, 510, .inl v_held))]) (va_A [(aM, .inr (4, [.ref a_w, .ref a_past, .int v_pastMany, .ref a_images, .int v_filled, .ref a_text, .int v_length, .int v_faultKind, .int v_faultPlace, .ref a_rowOf, .int v_rows, .int v_wrongKind, .int v_wrongPlace, .int v_readWords, .int v_readPassages, .ref a_readLetter, .ref a_readCue, .ref a_readPassage, .ref a_held])), (a_w, .inl (cI, 510, .inl v_w)), (a_past, .inl (cI, 4080, .inl v_past)), (a_images, .inl (cI, 1020, .inl v_images)), (a_text, .inl (cI, 140, .inl v_text)), (a_rowOf, .inl (cI, 120, .inl v_rowOf)), (a_readLetter, .inl (cI, 120, .inl v_readLetter)), (a_readCue, .inl (cI, 120, .inl v_readCue)), (a_readPassage, .inl (cI, 120, .inl v_readPassage)), (a_held, .inl (cI, 510, .inl v_held))] s.heap.size)) ([.ref aM, .int p1, .int p2] : List Value).toArray s 0 0 (va_A [(aM, .inr (4, [.ref a_w, .ref a_past, .int v_pastMany, .ref a_images, .int v_filled, .ref a_text, .int v_length, .int v_faultKind, .int v_faultPlace, .ref a_rowOf, .int v_rows, .int v_wrongKind, .int v_wrongPlace, .int v_readWords, .int v_readPassages, .ref a_readLetter, .ref a_readCue, .ref a_readPassage, .ref a_held])), (a_w, .inl (cI, 510, .inl v_w)), (a_past, .inl (cI, 4080, .inl v_past)), (a_images, .inl (cI, 1020, .inl v_images)), (a_text, .inl (cI, 140, .inl v_text)), (a_rowOf, .inl (cI, 120, .inl v_rowOf)), (a_readLetter, .inl (cI, 120, .inl v_readLetter)), (a_readCue, .inl (cI, 120, .inl v_readCue)), (a_readPassage, .inl (cI, 120, .inl v_readPassage)), (a_held, .inl (cI, 510, .inl v_held))] s.heap.size) := ⟨_, rfl⟩
  rw [← hQ]
  obtain ⟨A, hAe⟩ : ∃ A, A = va_A [(aM, .inr (4, [.ref a_w, .ref a_past, .int v_pastMany, .ref a_images, .int v_filled, .ref a_text, .int v_length, .int v_faultKind, .int v_faultPlace, .ref a_rowOf, .int v_rows, .int v_wrongKind, .int v_wrongPlace, .int v_readWords, .int v_readPassages, .ref a_readLetter, .ref a_readCue, .ref a_readPassage, .ref a_held])), (a_w, .inl (cI, 510, .inl v_w)), (a_past, .inl (cI, 4080, .inl v_past)), (a_images, .inl (cI, 1020, .inl v_images)), (a_text, .inl (cI, 140, .inl v_text)), (a_rowOf, .inl (cI, 120, .inl v_rowOf)), (a_readLetter, .inl (cI, 120, .inl v_readLetter)), (a_readCue, .inl (cI, 120, .inl v_readCue)), (a_readPassage, .inl (cI, 120, .inl v_readPassage)), (a_held, .inl (cI, 510, .inl v_held))] s.heap.size := ⟨_, rfl⟩
  rw [← hAe] at hD
  have hA : ∀ q : Nat, s.heap.size ≤ q → A q := fun q h => by rw [hAe]; exact Or.inr h
  obtain ⟨H, hH⟩ : ∃ H, H = s.heap := ⟨_, rfl⟩
  have hS : va_S A s.heap H [] := by rw [hH]; exact va_S.rf
  rw [← hH] at hP
  rw [← hH]
  have fl100 := hts (.fieldLink RX4 100 "TeleprompterModel" "wrongKind" "I") (by decide +kernel)
  have fl103 := hts (.fieldLink RX4 103 "TeleprompterModel" "wrongPlace" "I") (by decide +kernel)
  have inX4 : ∀ w ∈ u_ws RX4 TX4 19, w ∈ wsX4_fails := by decide +kernel
  have hl := lv_entry ([.ref aM, .int p1, .int p2]) (n := 3) (Nat.le_of_ble_eq_true rfl)
  rw [lg_entry_eq]
  generalize (lg_sl ([.ref aM, .int p1, .int p2]) ++ List.replicate (3 - (lg_sl ([.ref aM, .int p1, .int p2])).length) Slot.unset).toArray = ls at hl ⊢
  have hl : lv_has ls 3 [(0, .ref aM), (1, .int p1), (2, .int p2)] := hl
  unfold f_X4_fails at hF
  refine lv_aload_n hx hb dX4_fails_0 rfl (lv_at hl 0 rfl) ?_
  refine lv_iload_n hx hb dX4_fails_1 rfl (lv_at hl 1 rfl) ?_
  refine va_put (D := (dC, dI)) (ci := 4) (v := .int p1) (ty := .int) (C := RX4) (T := TX4) (N := 19) hx hb hts inX4 tyX4 tyX4_ok nmX4 hown hK hP hD hS 0 rfl rfl 11 (by decide) fl100 (fun _ h9 => h9) rfl (by decide +kernel) rfl rfl (Nat.le_of_ble_eq_true rfl) dX4_fails_2 (fun H locs hP hD hS => ?_)
  have hP : va_P (dC, dI) vwCl [(aM, .inr (4, [.ref a_w, .ref a_past, .int v_pastMany, .ref a_images, .int v_filled, .ref a_text, .int v_length, .int v_faultKind, .int v_faultPlace, .ref a_rowOf, .int v_rows, .int p1, .int v_wrongPlace, .int v_readWords, .int v_readPassages, .ref a_readLetter, .ref a_readCue, .ref a_readPassage, .ref a_held])), (a_w, .inl (cI, 510, .inl v_w)), (a_past, .inl (cI, 4080, .inl v_past)), (a_images, .inl (cI, 1020, .inl v_images)), (a_text, .inl (cI, 140, .inl v_text)), (a_rowOf, .inl (cI, 120, .inl v_rowOf)), (a_readLetter, .inl (cI, 120, .inl v_readLetter)), (a_readCue, .inl (cI, 120, .inl v_readCue)), (a_readPassage, .inl (cI, 120, .inl v_readPassage)), (a_held, .inl (cI, 510, .inl v_held))] H := hP
  have hD : va_D A [(aM, .inr (4, [.ref a_w, .ref a_past, .int v_pastMany, .ref a_images, .int v_filled, .ref a_text, .int v_length, .int v_faultKind, .int v_faultPlace, .ref a_rowOf, .int v_rows, .int p1, .int v_wrongPlace, .int v_readWords, .int v_readPassages, .ref a_readLetter, .ref a_readCue, .ref a_readPassage, .ref a_held])), (a_w, .inl (cI, 510, .inl v_w)), (a_past, .inl (cI, 4080, .inl v_past)), (a_images, .inl (cI, 1020, .inl v_images)), (a_text, .inl (cI, 140, .inl v_text)), (a_rowOf, .inl (cI, 120, .inl v_rowOf)), (a_readLetter, .inl (cI, 120, .inl v_readLetter)), (a_readCue, .inl (cI, 120, .inl v_readCue)), (a_readPassage, .inl (cI, 120, .inl v_readPassage)), (a_held, .inl (cI, 510, .inl v_held))] := hD
  refine lv_aload_n hx hb dX4_fails_5 rfl (lv_at hl 0 rfl) ?_
  refine lv_iload_n hx hb dX4_fails_6 rfl (lv_at hl 2 rfl) ?_
  refine va_put (D := (dC, dI)) (ci := 4) (v := .int p2) (ty := .int) (C := RX4) (T := TX4) (N := 19) hx hb hts inX4 tyX4 tyX4_ok nmX4 hown hK hP hD hS 0 rfl rfl 12 (by decide) fl103 (fun _ h9 => h9) rfl (by decide +kernel) rfl rfl (Nat.le_of_ble_eq_true rfl) dX4_fails_7 (fun H locs hP hD hS => ?_)
  have hP : va_P (dC, dI) vwCl [(aM, .inr (4, [.ref a_w, .ref a_past, .int v_pastMany, .ref a_images, .int v_filled, .ref a_text, .int v_length, .int v_faultKind, .int v_faultPlace, .ref a_rowOf, .int v_rows, .int p1, .int p2, .int v_readWords, .int v_readPassages, .ref a_readLetter, .ref a_readCue, .ref a_readPassage, .ref a_held])), (a_w, .inl (cI, 510, .inl v_w)), (a_past, .inl (cI, 4080, .inl v_past)), (a_images, .inl (cI, 1020, .inl v_images)), (a_text, .inl (cI, 140, .inl v_text)), (a_rowOf, .inl (cI, 120, .inl v_rowOf)), (a_readLetter, .inl (cI, 120, .inl v_readLetter)), (a_readCue, .inl (cI, 120, .inl v_readCue)), (a_readPassage, .inl (cI, 120, .inl v_readPassage)), (a_held, .inl (cI, 510, .inl v_held))] H := hP
  have hD : va_D A [(aM, .inr (4, [.ref a_w, .ref a_past, .int v_pastMany, .ref a_images, .int v_filled, .ref a_text, .int v_length, .int v_faultKind, .int v_faultPlace, .ref a_rowOf, .int v_rows, .int p1, .int p2, .int v_readWords, .int v_readPassages, .ref a_readLetter, .ref a_readCue, .ref a_readPassage, .ref a_held])), (a_w, .inl (cI, 510, .inl v_w)), (a_past, .inl (cI, 4080, .inl v_past)), (a_images, .inl (cI, 1020, .inl v_images)), (a_text, .inl (cI, 140, .inl v_text)), (a_rowOf, .inl (cI, 120, .inl v_rowOf)), (a_readLetter, .inl (cI, 120, .inl v_readLetter)), (a_readCue, .inl (cI, 120, .inl v_readCue)), (a_readPassage, .inl (cI, 120, .inl v_readPassage)), (a_held, .inl (cI, 510, .inl v_held))] := hD
  have hF : some (p1, p2) = some (o_wrongKind, o_wrongPlace) := hF
  have hP9 := hP
  have hD9 := hD
  cases hF
  subst hQ
  subst hAe
  exact W.vret hx hb hr (fun t ht hW => ⟨⟨(), rfl, trivial, ⟨by rw [ht]; exact hP9, hD9⟩⟩, hS.F ht⟩) hS.2.2 dX4_fails_10
def f_X4_readWord (p1 : Int32) (v_text : (Nat → Int32)) (v_wrongKind : Int32) (v_wrongPlace : Int32) (v_readWords : Int32) (v_readPassages : Int32) (v_readLetter : (Nat → Int32)) (v_readCue : (Nat → Int32)) (v_readPassage : (Nat → Int32)) : Option (Int32 × Int32 × Int32 × (Nat → Int32) × (Nat → Int32) × (Nat → Int32)) :=
  if v_readWords = (120 : Int32) then
    (f_X4_fails (4 : Int32) p1 v_wrongKind v_wrongPlace).bind fun q12 =>
    some (q12.1, q12.2, v_readWords, v_readLetter, v_readCue, v_readPassage)
  else
    if p1 < 0 ∨ 140 ≤ p1.toNatClampNeg then none else
    if v_readWords < 0 ∨ 120 ≤ v_readWords.toNatClampNeg then none else
    (some (upd v_readLetter v_readWords.toNatClampNeg (v_text p1.toNatClampNeg))).bind fun a30 =>
    if v_readWords < 0 ∨ 120 ≤ v_readWords.toNatClampNeg then none else
    (some (upd v_readCue v_readWords.toNatClampNeg (0 : Int32))).bind fun a40 =>
    if v_readWords < 0 ∨ 120 ≤ v_readWords.toNatClampNeg then none else
    (some (upd v_readPassage v_readWords.toNatClampNeg v_readPassages)).bind fun a53 =>
    some (v_wrongKind, v_wrongPlace, (v_readWords + (1 : Int32)), a30, a40, a53)
def rm_X4_readWord : Room := { frames := 1, cells := 0, slots := 0, locals := 22 }
set_option maxHeartbeats 4000000 in
set_option maxRecDepth 100000 in
theorem c_X4_readWord (l : Launch) (dC : Nat → ClassId) (dI : Nat → Nat → Nat) (cI cZ cO : ClassId) (aM a_w a_past a_images a_text a_rowOf a_readLetter a_readCue a_readPassage a_held : Nat) (sz : Nat) (p1 : Int32) (v_w : (Nat → Int32)) (v_past : (Nat → Int32)) (v_pastMany : Int32) (v_images : (Nat → Int32)) (v_filled : Int32) (v_text : (Nat → Int32)) (v_length : Int32) (v_faultKind : Int32) (v_faultPlace : Int32) (v_rowOf : (Nat → Int32)) (v_rows : Int32) (v_wrongKind : Int32) (v_wrongPlace : Int32) (v_readWords : Int32) (v_readPassages : Int32) (v_readLetter : (Nat → Int32)) (v_readCue : (Nat → Int32)) (v_readPassage : (Nat → Int32)) (v_held : (Nat → Int32)) (o_wrongKind : Int32) (o_wrongPlace : Int32) (o_readWords : Int32) (o_readLetter : (Nat → Int32)) (o_readCue : (Nat → Int32)) (o_readPassage : (Nat → Int32)) (hF : f_X4_readWord p1 v_text v_wrongKind v_wrongPlace v_readWords v_readPassages v_readLetter v_readCue v_readPassage = some (o_wrongKind, o_wrongPlace, o_readWords, o_readLetter, o_readCue, o_readPassage)) : Met l yX4_readWord wsX4_readWord rm_X4_readWord (va_Pc [.ref aM, .int p1] (wrW dC dI cI cZ cO sz [(aM, .inr (4, [.ref a_w, .ref a_past, .int v_pastMany, .ref a_images, .int v_filled, .ref a_text, .int v_length, .int v_faultKind, .int v_faultPlace, .ref a_rowOf, .int v_rows, .int v_wrongKind, .int v_wrongPlace, .int v_readWords, .int v_readPassages, .ref a_readLetter, .ref a_readCue, .ref a_readPassage, .ref a_held])), (a_w, .inl (cI, 510, .inl v_w)), (a_past, .inl (cI, 4080, .inl v_past)), (a_images, .inl (cI, 1020, .inl v_images)), (a_text, .inl (cI, 140, .inl v_text)), (a_rowOf, .inl (cI, 120, .inl v_rowOf)), (a_readLetter, .inl (cI, 120, .inl v_readLetter)), (a_readCue, .inl (cI, 120, .inl v_readCue)), (a_readPassage, .inl (cI, 120, .inl v_readPassage)), (a_held, .inl (cI, 510, .inl v_held))])) (va_Qv (fun (_ : Unit) => True) (wrE dC dI [(aM, .inr (4, [.ref a_w, .ref a_past, .int v_pastMany, .ref a_images, .int v_filled, .ref a_text, .int v_length, .int v_faultKind, .int v_faultPlace, .ref a_rowOf, .int v_rows, .int v_wrongKind, .int v_wrongPlace, .int v_readWords, .int v_readPassages, .ref a_readLetter, .ref a_readCue, .ref a_readPassage, .ref a_held])), (a_w, .inl (cI, 510, .inl v_w)), (a_past, .inl (cI, 4080, .inl v_past)), (a_images, .inl (cI, 1020, .inl v_images)), (a_text, .inl (cI, 140, .inl v_text)), (a_rowOf, .inl (cI, 120, .inl v_rowOf)), (a_readLetter, .inl (cI, 120, .inl v_readLetter)), (a_readCue, .inl (cI, 120, .inl v_readCue)), (a_readPassage, .inl (cI, 120, .inl v_readPassage)), (a_held, .inl (cI, 510, .inl v_held))] sz [(aM, .inr (4, [.ref a_w, .ref a_past, .int v_pastMany, .ref a_images, .int v_filled, .ref a_text, .int v_length, .int v_faultKind, .int v_faultPlace, .ref a_rowOf, .int v_rows, .int o_wrongKind, .int o_wrongPlace, .int o_readWords, .int v_readPassages, .ref a_readLetter, .ref a_readCue, .ref a_readPassage, .ref a_held])), (a_w, .inl (cI, 510, .inl v_w)), (a_past, .inl (cI, 4080, .inl v_past)), (a_images, .inl (cI, 1020, .inl v_images)), (a_text, .inl (cI, 140, .inl v_text)), (a_rowOf, .inl (cI, 120, .inl v_rowOf)), (a_readLetter, .inl (cI, 120, .inl o_readLetter)), (a_readCue, .inl (cI, 120, .inl o_readCue)), (a_readPassage, .inl (cI, 120, .inl o_readPassage)), (a_held, .inl (cI, 510, .inl v_held))]) (va_A [(aM, .inr (4, [.ref a_w, .ref a_past, .int v_pastMany, .ref a_images, .int v_filled, .ref a_text, .int v_length, .int v_faultKind, .int v_faultPlace, .ref a_rowOf, .int v_rows, .int v_wrongKind, .int v_wrongPlace, .int v_readWords, .int v_readPassages, .ref a_readLetter, .ref a_readCue, .ref a_readPassage, .ref a_held])), (a_w, .inl (cI, 510, .inl v_w)), (a_past, .inl (cI, 4080, .inl v_past)), (a_images, .inl (cI, 1020, .inl v_images)), (a_text, .inl (cI, 140, .inl v_text)), (a_rowOf, .inl (cI, 120, .inl v_rowOf)), (a_readLetter, .inl (cI, 120, .inl v_readLetter)), (a_readCue, .inl (cI, 120, .inl v_readCue)), (a_readPassage, .inl (cI, 120, .inl v_readPassage)), (a_held, .inl (cI, 510, .inl v_held))] sz)) 0 0 (va_A [(aM, .inr (4, [.ref a_w, .ref a_past, .int v_pastMany, .ref a_images, .int v_filled, .ref a_text, .int v_length, .int v_faultKind, .int v_faultPlace, .ref a_rowOf, .int v_rows, .int v_wrongKind, .int v_wrongPlace, .int v_readWords, .int v_readPassages, .ref a_readLetter, .ref a_readCue, .ref a_readPassage, .ref a_held])), (a_w, .inl (cI, 510, .inl v_w)), (a_past, .inl (cI, 4080, .inl v_past)), (a_images, .inl (cI, 1020, .inl v_images)), (a_text, .inl (cI, 140, .inl v_text)), (a_rowOf, .inl (cI, 120, .inl v_rowOf)), (a_readLetter, .inl (cI, 120, .inl v_readLetter)), (a_readCue, .inl (cI, 120, .inl v_readCue)), (a_readPassage, .inl (cI, 120, .inl v_readPassage)), (a_held, .inl (cI, 510, .inl v_held))] sz) := by
  refine Met.ofW (cc := cX4_readWord) (maxL := 2) (ret := none) (by decide) rfl ?_
  intro p e s m args below meth c s₁ B hml hv
  obtain ⟨rfl, hsz, hP, hK, hN, hD0⟩ := hv
  have hx := B.exec
  have hb := B.bytes
  have hr := B.returns
  have hts := atoms_spec (ws := wsX4_readWord) B.pre
  have hown : s.vm.findClass RX4 = some m.cls := findClass_of_methodNamed B.named
  have hlocks := B.notSynchronized
  subst hsz
  have hD := hD0.self (sz := s.heap.size)
  obtain ⟨Q, hQ⟩ : ∃ Q, Q = MQ below (va_Qv (fun (_ : Unit) => True) (wrE dC dI [(aM, .inr (4, [.ref a_w, .ref a_past, .int v_pastMany, .ref a_images, .int v_filled, .ref a_text, .int v_length, .int v_faultKind, .int v_faultPlace, .ref a_rowOf, .int v_rows, .int v_wrongKind, .int v_wrongPlace, .int v_readWords, .int v_readPassages, .ref a_readLetter, .ref a_readCue, .ref a_readPassage, .ref a_held])), (a_w, .inl (cI, 510, .inl v_w)), (a_past, .inl (cI, 4080, .inl v_past)), (a_images, .inl (cI, 1020, .inl v_images)), (a_text, .inl (cI, 140, .inl v_text)), (a_rowOf, .inl (cI, 120, .inl v_rowOf)), (a_readLetter, .inl (cI, 120, .inl v_readLetter)), (a_readCue, .inl (cI, 120, .inl v_readCue)), (a_readPassage, .inl (cI, 120, .inl v_readPassage)), (a_held, .inl (cI, 510, .inl v_held))] s.heap.size [(aM, .inr (4, [.ref a_w, .ref a_past, .int v_pastMany, .ref a_images, .int v_filled, .ref a_text, .int v_length, .int v_faultKind, .int v_faultPlace, .ref a_rowOf, .int v_rows, .int o_wrongKind, .int o_wrongPlace, .int o_readWords, .int v_readPassages, .ref a_readLetter, .ref a_readCue, .ref a_readPassage, .ref a_held])), (a_w, .inl (cI, 510, .inl v_w)), (a_past, .inl (cI, 4080, .inl v_past)), (a_images, .inl (cI, 1020, .inl v_images)), (a_text, .inl (cI, 140, .inl v_text)), (a_rowOf, .inl (cI, 120, .inl v_rowOf)), (a_readLetter, .inl (cI, 120, .inl o_readLetter)), (a_readCue, .inl (cI, 120, .inl o_readCue)), (a_readPassage, .inl (cI, 120, .inl o_readPassage)), (a_held, .inl (cI, 510, .inl v_held))]) (va_A [(aM, .inr (4, [.ref a_w, .ref a_past, .int v_pastMany, .ref a_images, .int v_filled, .ref a_text, .int v_length, .int v_faultKind, .int v_faultPlace, .ref a_rowOf, .int v_rows, .int v_wrongKind, .int v_wrongPlace, .int v_readWords, .int v_readPassages, .ref a_readLetter, .ref a_readCue, .ref a_readPassage, .ref a_held])), (a_w, .inl (cI, 510, .inl v_w)), (a_past, .inl (cI, 4080, .inl v_past)), (a_images, .inl (cI, 1020, .inl v_images)), (a_text, .inl (cI, 140, .inl v_text)), (a_rowOf, .inl (cI, 120, .inl v_rowOf)), (a_readLetter, .inl (cI, 120, .inl v_readLetter)), (a_readCue, .inl (cI, 120, .inl v_readCue)), (a_readPassage, .inl (cI, 120, .inl v_readPassage)), (a_held, .inl (cI, 510, .inl v_held))] s.heap.size)) ([.ref aM, .int p1] : List Value).toArray s 0 0 (va_A [(aM, .inr (4, [.ref a_w, .ref a_past, .int v_pastMany, .ref a_images, .int v_filled, .ref a_text, .int v_length, .int v_faultKind, .int v_faultPlace, .ref a_rowOf, .int v_rows, .int v_wrongKind, .int v_wrongPlace, .int v_readWords, .int v_readPassages, .ref a_readLetter, .ref a_readCue, .ref a_readPassage, .ref a_held])), (a_w, .inl (cI, 510, .inl v_w)), (a_past, .inl (cI, 4080, .inl v_past)), (a_images, .inl (cI, 1020, .inl v_images)), (a_text, .inl (cI, 140, .inl v_text)), (a_rowOf, .inl (cI, 120, .inl v_rowOf)), (a_readLetter, .inl (cI, 120, .inl v_readLetter)), (a_readCue, .inl (cI, 120, .inl v_readCue)), (a_readPassage, .inl (cI, 120, .inl v_readPassage)), (a_held, .inl (cI, 510, .inl v_held))] s.heap.size) := ⟨_, rfl⟩
  rw [← hQ]
  obtain ⟨A, hAe⟩ : ∃ A, A = va_A [(aM, .inr (4, [.ref a_w, .ref a_past, .int v_pastMany, .ref a_images, .int v_filled, .ref a_text, .int v_length, .int v_faultKind, .int v_faultPlace, .ref a_rowOf, .int v_rows, .int v_wrongKind, .int v_wrongPlace, .int v_readWords, .int v_readPassages, .ref a_readLetter, .ref a_readCue, .ref a_readPassage, .ref a_held])), (a_w, .inl (cI, 510, .inl v_w)), (a_past, .inl (cI, 4080, .inl v_past)), (a_images, .inl (cI, 1020, .inl v_images)), (a_text, .inl (cI, 140, .inl v_text)), (a_rowOf, .inl (cI, 120, .inl v_rowOf)), (a_readLetter, .inl (cI, 120, .inl v_readLetter)), (a_readCue, .inl (cI, 120, .inl v_readCue)), (a_readPassage, .inl (cI, 120, .inl v_readPassage)), (a_held, .inl (cI, 510, .inl v_held))] s.heap.size := ⟨_, rfl⟩
  rw [← hAe] at hD
  have hA : ∀ q : Nat, s.heap.size ≤ q → A q := fun q h => by rw [hAe]; exact Or.inr h
  obtain ⟨H, hH⟩ : ∃ H, H = s.heap := ⟨_, rfl⟩
  have hS : va_S A s.heap H [] := by rw [hH]; exact va_S.rf
  rw [← hH] at hP
  rw [← hH]
  have fl106 := hts (.fieldLink RX4 106 "TeleprompterModel" "readWords" "I") (by decide +kernel)
  have fl32 := hts (.fieldLink RX4 32 "TeleprompterModel" "readLetter" "[I") (by decide +kernel)
  have fl19 := hts (.fieldLink RX4 19 "TeleprompterModel" "text" "[I") (by decide +kernel)
  have fl35 := hts (.fieldLink RX4 35 "TeleprompterModel" "readCue" "[I") (by decide +kernel)
  have fl38 := hts (.fieldLink RX4 38 "TeleprompterModel" "readPassage" "[I") (by decide +kernel)
  have fl113 := hts (.fieldLink RX4 113 "TeleprompterModel" "readPassages" "I") (by decide +kernel)
  have inX4 : ∀ w ∈ u_ws RX4 TX4 19, w ∈ wsX4_readWord := by decide +kernel
  have hl := lv_entry ([.ref aM, .int p1]) (n := 2) (Nat.le_of_ble_eq_true rfl)
  rw [lg_entry_eq]
  generalize (lg_sl ([.ref aM, .int p1]) ++ List.replicate (2 - (lg_sl ([.ref aM, .int p1])).length) Slot.unset).toArray = ls at hl ⊢
  have hl : lv_has ls 2 [(0, .ref aM), (1, .int p1)] := hl
  unfold f_X4_readWord at hF
  refine lv_aload_n hx hb dX4_readWord_0 rfl (lv_at hl 0 rfl) ?_
  refine va_get (D := (dC, dI)) (ci := 4) (v := .int v_readWords) (C := RX4) (T := TX4) (N := 19) hx hb hts inX4 hown hK hP 0 rfl rfl 13 (by decide) fl106 (fun _ h9 => h9) rfl dX4_readWord_1 ?_
  refine lv_bipush (v := (120 : Int32)) hx hb dX4_readWord_4 (by decide) ?_
  refine lv_icmp_ne (tgt := 16) hx hb dX4_readWord_6 (by decide) (fun c_6 => ?_) (fun c_6 => ?_)
  · have hF := (if_neg c_6).symm.trans hF
    refine lv_aload_n hx hb dX4_readWord_16 rfl (lv_at hl 0 rfl) ?_
    refine va_get (D := (dC, dI)) (ci := 4) (v := .ref a_readLetter) (C := RX4) (T := TX4) (N := 19) hx hb hts inX4 hown hK hP 0 rfl rfl 15 (by decide) fl32 (fun _ h9 => h9) rfl dX4_readWord_17 ?_
    refine lv_aload_n hx hb dX4_readWord_20 rfl (lv_at hl 0 rfl) ?_
    refine va_get (D := (dC, dI)) (ci := 4) (v := .int v_readWords) (C := RX4) (T := TX4) (N := 19) hx hb hts inX4 hown hK hP 0 rfl rfl 13 (by decide) fl106 (fun _ h9 => h9) rfl dX4_readWord_21 ?_
    refine lv_aload_n hx hb dX4_readWord_24 rfl (lv_at hl 0 rfl) ?_
    refine va_get (D := (dC, dI)) (ci := 4) (v := .ref a_text) (C := RX4) (T := TX4) (N := 19) hx hb hts inX4 hown hK hP 0 rfl rfl 5 (by decide) fl19 (fun _ h9 => h9) rfl dX4_readWord_25 ?_
    refine lv_iload_n hx hb dX4_readWord_28 rfl (lv_at hl 1 rfl) ?_
    by_cases b_29 : (p1 < 0 ∨ 140 ≤ p1.toNatClampNeg)
    · exact noneE ((if_pos b_29).symm.trans hF)
    have hF := (if_neg b_29).symm.trans hF
    refine va_iald hx hb hK hP 4 0 rfl rfl b_29 dX4_readWord_29 ?_
    by_cases b_30 : (v_readWords < 0 ∨ 120 ≤ v_readWords.toNatClampNeg)
    · exact noneE ((if_pos b_30).symm.trans hF)
    have hF := (if_neg b_30).symm.trans hF
    refine va_iast hx hb hK hP hD hS 6 0 rfl rfl b_30 dX4_readWord_30 (fun H locs hP hD hS => ?_)
    have hP : va_P (dC, dI) vwCl [(aM, .inr (4, [.ref a_w, .ref a_past, .int v_pastMany, .ref a_images, .int v_filled, .ref a_text, .int v_length, .int v_faultKind, .int v_faultPlace, .ref a_rowOf, .int v_rows, .int v_wrongKind, .int v_wrongPlace, .int v_readWords, .int v_readPassages, .ref a_readLetter, .ref a_readCue, .ref a_readPassage, .ref a_held])), (a_w, .inl (cI, 510, .inl v_w)), (a_past, .inl (cI, 4080, .inl v_past)), (a_images, .inl (cI, 1020, .inl v_images)), (a_text, .inl (cI, 140, .inl v_text)), (a_rowOf, .inl (cI, 120, .inl v_rowOf)), (a_readLetter, .inl (cI, 120, .inl (upd v_readLetter v_readWords.toNatClampNeg (v_text p1.toNatClampNeg)))), (a_readCue, .inl (cI, 120, .inl v_readCue)), (a_readPassage, .inl (cI, 120, .inl v_readPassage)), (a_held, .inl (cI, 510, .inl v_held))] H := hP
    have hD : va_D A [(aM, .inr (4, [.ref a_w, .ref a_past, .int v_pastMany, .ref a_images, .int v_filled, .ref a_text, .int v_length, .int v_faultKind, .int v_faultPlace, .ref a_rowOf, .int v_rows, .int v_wrongKind, .int v_wrongPlace, .int v_readWords, .int v_readPassages, .ref a_readLetter, .ref a_readCue, .ref a_readPassage, .ref a_held])), (a_w, .inl (cI, 510, .inl v_w)), (a_past, .inl (cI, 4080, .inl v_past)), (a_images, .inl (cI, 1020, .inl v_images)), (a_text, .inl (cI, 140, .inl v_text)), (a_rowOf, .inl (cI, 120, .inl v_rowOf)), (a_readLetter, .inl (cI, 120, .inl (upd v_readLetter v_readWords.toNatClampNeg (v_text p1.toNatClampNeg)))), (a_readCue, .inl (cI, 120, .inl v_readCue)), (a_readPassage, .inl (cI, 120, .inl v_readPassage)), (a_held, .inl (cI, 510, .inl v_held))] := hD
    obtain ⟨a_30, ha_30, hF⟩ := bindE hF
    have ha_30 := Option.some.inj ha_30
    rw [ha_30] at hP hD
    refine lv_aload_n hx hb dX4_readWord_31 rfl (lv_at hl 0 rfl) ?_
    refine va_get (D := (dC, dI)) (ci := 4) (v := .ref a_readCue) (C := RX4) (T := TX4) (N := 19) hx hb hts inX4 hown hK hP 0 rfl rfl 16 (by decide) fl35 (fun _ h9 => h9) rfl dX4_readWord_32 ?_
    refine lv_aload_n hx hb dX4_readWord_35 rfl (lv_at hl 0 rfl) ?_
    refine va_get (D := (dC, dI)) (ci := 4) (v := .int v_readWords) (C := RX4) (T := TX4) (N := 19) hx hb hts inX4 hown hK hP 0 rfl rfl 13 (by decide) fl106 (fun _ h9 => h9) rfl dX4_readWord_36 ?_
    refine lv_iconst (v := (0 : Int32)) hx hb dX4_readWord_39 (by decide) ?_
    by_cases b_40 : (v_readWords < 0 ∨ 120 ≤ v_readWords.toNatClampNeg)
    · exact noneE ((if_pos b_40).symm.trans hF)
    have hF := (if_neg b_40).symm.trans hF
    refine va_iast hx hb hK hP hD hS 7 0 rfl rfl b_40 dX4_readWord_40 (fun H locs hP hD hS => ?_)
    have hP : va_P (dC, dI) vwCl [(aM, .inr (4, [.ref a_w, .ref a_past, .int v_pastMany, .ref a_images, .int v_filled, .ref a_text, .int v_length, .int v_faultKind, .int v_faultPlace, .ref a_rowOf, .int v_rows, .int v_wrongKind, .int v_wrongPlace, .int v_readWords, .int v_readPassages, .ref a_readLetter, .ref a_readCue, .ref a_readPassage, .ref a_held])), (a_w, .inl (cI, 510, .inl v_w)), (a_past, .inl (cI, 4080, .inl v_past)), (a_images, .inl (cI, 1020, .inl v_images)), (a_text, .inl (cI, 140, .inl v_text)), (a_rowOf, .inl (cI, 120, .inl v_rowOf)), (a_readLetter, .inl (cI, 120, .inl a_30)), (a_readCue, .inl (cI, 120, .inl (upd v_readCue v_readWords.toNatClampNeg (0 : Int32)))), (a_readPassage, .inl (cI, 120, .inl v_readPassage)), (a_held, .inl (cI, 510, .inl v_held))] H := hP
    have hD : va_D A [(aM, .inr (4, [.ref a_w, .ref a_past, .int v_pastMany, .ref a_images, .int v_filled, .ref a_text, .int v_length, .int v_faultKind, .int v_faultPlace, .ref a_rowOf, .int v_rows, .int v_wrongKind, .int v_wrongPlace, .int v_readWords, .int v_readPassages, .ref a_readLetter, .ref a_readCue, .ref a_readPassage, .ref a_held])), (a_w, .inl (cI, 510, .inl v_w)), (a_past, .inl (cI, 4080, .inl v_past)), (a_images, .inl (cI, 1020, .inl v_images)), (a_text, .inl (cI, 140, .inl v_text)), (a_rowOf, .inl (cI, 120, .inl v_rowOf)), (a_readLetter, .inl (cI, 120, .inl a_30)), (a_readCue, .inl (cI, 120, .inl (upd v_readCue v_readWords.toNatClampNeg (0 : Int32)))), (a_readPassage, .inl (cI, 120, .inl v_readPassage)), (a_held, .inl (cI, 510, .inl v_held))] := hD
    obtain ⟨a_40, ha_40, hF⟩ := bindE hF
    have ha_40 := Option.some.inj ha_40
    rw [ha_40] at hP hD
    refine lv_aload_n hx hb dX4_readWord_41 rfl (lv_at hl 0 rfl) ?_
    refine va_get (D := (dC, dI)) (ci := 4) (v := .ref a_readPassage) (C := RX4) (T := TX4) (N := 19) hx hb hts inX4 hown hK hP 0 rfl rfl 17 (by decide) fl38 (fun _ h9 => h9) rfl dX4_readWord_42 ?_
    refine lv_aload_n hx hb dX4_readWord_45 rfl (lv_at hl 0 rfl) ?_
    refine va_get (D := (dC, dI)) (ci := 4) (v := .int v_readWords) (C := RX4) (T := TX4) (N := 19) hx hb hts inX4 hown hK hP 0 rfl rfl 13 (by decide) fl106 (fun _ h9 => h9) rfl dX4_readWord_46 ?_
    refine lv_aload_n hx hb dX4_readWord_49 rfl (lv_at hl 0 rfl) ?_
    refine va_get (D := (dC, dI)) (ci := 4) (v := .int v_readPassages) (C := RX4) (T := TX4) (N := 19) hx hb hts inX4 hown hK hP 0 rfl rfl 14 (by decide) fl113 (fun _ h9 => h9) rfl dX4_readWord_50 ?_
    by_cases b_53 : (v_readWords < 0 ∨ 120 ≤ v_readWords.toNatClampNeg)
    · exact noneE ((if_pos b_53).symm.trans hF)
    have hF := (if_neg b_53).symm.trans hF
    refine va_iast hx hb hK hP hD hS 8 0 rfl rfl b_53 dX4_readWord_53 (fun H locs hP hD hS => ?_)
    have hP : va_P (dC, dI) vwCl [(aM, .inr (4, [.ref a_w, .ref a_past, .int v_pastMany, .ref a_images, .int v_filled, .ref a_text, .int v_length, .int v_faultKind, .int v_faultPlace, .ref a_rowOf, .int v_rows, .int v_wrongKind, .int v_wrongPlace, .int v_readWords, .int v_readPassages, .ref a_readLetter, .ref a_readCue, .ref a_readPassage, .ref a_held])), (a_w, .inl (cI, 510, .inl v_w)), (a_past, .inl (cI, 4080, .inl v_past)), (a_images, .inl (cI, 1020, .inl v_images)), (a_text, .inl (cI, 140, .inl v_text)), (a_rowOf, .inl (cI, 120, .inl v_rowOf)), (a_readLetter, .inl (cI, 120, .inl a_30)), (a_readCue, .inl (cI, 120, .inl a_40)), (a_readPassage, .inl (cI, 120, .inl (upd v_readPassage v_readWords.toNatClampNeg v_readPassages))), (a_held, .inl (cI, 510, .inl v_held))] H := hP
    have hD : va_D A [(aM, .inr (4, [.ref a_w, .ref a_past, .int v_pastMany, .ref a_images, .int v_filled, .ref a_text, .int v_length, .int v_faultKind, .int v_faultPlace, .ref a_rowOf, .int v_rows, .int v_wrongKind, .int v_wrongPlace, .int v_readWords, .int v_readPassages, .ref a_readLetter, .ref a_readCue, .ref a_readPassage, .ref a_held])), (a_w, .inl (cI, 510, .inl v_w)), (a_past, .inl (cI, 4080, .inl v_past)), (a_images, .inl (cI, 1020, .inl v_images)), (a_text, .inl (cI, 140, .inl v_text)), (a_rowOf, .inl (cI, 120, .inl v_rowOf)), (a_readLetter, .inl (cI, 120, .inl a_30)), (a_readCue, .inl (cI, 120, .inl a_40)), (a_readPassage, .inl (cI, 120, .inl (upd v_readPassage v_readWords.toNatClampNeg v_readPassages))), (a_held, .inl (cI, 510, .inl v_held))] := hD
    obtain ⟨a_53, ha_53, hF⟩ := bindE hF
    have ha_53 := Option.some.inj ha_53
    rw [ha_53] at hP hD
    refine lv_aload_n hx hb dX4_readWord_54 rfl (lv_at hl 0 rfl) ?_
    refine lv_dup hx hb dX4_readWord_55 rfl ?_
    refine va_get (D := (dC, dI)) (ci := 4) (v := .int v_readWords) (C := RX4) (T := TX4) (N := 19) hx hb hts inX4 hown hK hP 0 rfl rfl 13 (by decide) fl106 (fun _ h9 => h9) rfl dX4_readWord_56 ?_
    refine lv_iconst (v := (1 : Int32)) hx hb dX4_readWord_59 (by decide) ?_
    refine lv_iadd hx hb dX4_readWord_60 ?_
    refine va_put (D := (dC, dI)) (ci := 4) (v := .int (v_readWords + (1 : Int32))) (ty := .int) (C := RX4) (T := TX4) (N := 19) hx hb hts inX4 tyX4 tyX4_ok nmX4 hown hK hP hD hS 0 rfl rfl 13 (by decide) fl106 (fun _ h9 => h9) rfl (by decide +kernel) rfl rfl (Nat.le_of_ble_eq_true rfl) dX4_readWord_61 (fun H locs hP hD hS => ?_)
    have hP : va_P (dC, dI) vwCl [(aM, .inr (4, [.ref a_w, .ref a_past, .int v_pastMany, .ref a_images, .int v_filled, .ref a_text, .int v_length, .int v_faultKind, .int v_faultPlace, .ref a_rowOf, .int v_rows, .int v_wrongKind, .int v_wrongPlace, .int (v_readWords + (1 : Int32)), .int v_readPassages, .ref a_readLetter, .ref a_readCue, .ref a_readPassage, .ref a_held])), (a_w, .inl (cI, 510, .inl v_w)), (a_past, .inl (cI, 4080, .inl v_past)), (a_images, .inl (cI, 1020, .inl v_images)), (a_text, .inl (cI, 140, .inl v_text)), (a_rowOf, .inl (cI, 120, .inl v_rowOf)), (a_readLetter, .inl (cI, 120, .inl a_30)), (a_readCue, .inl (cI, 120, .inl a_40)), (a_readPassage, .inl (cI, 120, .inl a_53)), (a_held, .inl (cI, 510, .inl v_held))] H := hP
    have hD : va_D A [(aM, .inr (4, [.ref a_w, .ref a_past, .int v_pastMany, .ref a_images, .int v_filled, .ref a_text, .int v_length, .int v_faultKind, .int v_faultPlace, .ref a_rowOf, .int v_rows, .int v_wrongKind, .int v_wrongPlace, .int (v_readWords + (1 : Int32)), .int v_readPassages, .ref a_readLetter, .ref a_readCue, .ref a_readPassage, .ref a_held])), (a_w, .inl (cI, 510, .inl v_w)), (a_past, .inl (cI, 4080, .inl v_past)), (a_images, .inl (cI, 1020, .inl v_images)), (a_text, .inl (cI, 140, .inl v_text)), (a_rowOf, .inl (cI, 120, .inl v_rowOf)), (a_readLetter, .inl (cI, 120, .inl a_30)), (a_readCue, .inl (cI, 120, .inl a_40)), (a_readPassage, .inl (cI, 120, .inl a_53)), (a_held, .inl (cI, 510, .inl v_held))] := hD
    have hF : some (v_wrongKind, v_wrongPlace, (v_readWords + (1 : Int32)), a_30, a_40, a_53) = some (o_wrongKind, o_wrongPlace, o_readWords, o_readLetter, o_readCue, o_readPassage) := hF
    have hP9 := hP
    have hD9 := hD
    cases hF
    subst hQ
    subst hAe
    exact W.vret hx hb hr (fun t ht hW => ⟨⟨(), rfl, trivial, ⟨by rw [ht]; exact hP9, hD9⟩⟩, hS.F ht⟩) hS.2.2 dX4_readWord_64
  · have hF := (if_pos c_6).symm.trans hF
    refine lv_aload_n hx hb dX4_readWord_9 rfl (lv_at hl 0 rfl) ?_
    refine lv_iconst (v := (4 : Int32)) hx hb dX4_readWord_10 (by decide) ?_
    refine lv_iload_n hx hb dX4_readWord_11 rfl (lv_at hl 1 rfl) ?_
    obtain ⟨q_12, hq_12, hF⟩ := bindE hF
    obtain ⟨u_12_wrongKind, u_12_wrongPlace⟩ := q_12
    have hPc := hP
    have hDc := hD
    have hFc := va_free (wc := [(aM, .inr (4, [.ref a_w, .ref a_past, .int v_pastMany, .ref a_images, .int v_filled, .ref a_text, .int v_length, .int v_faultKind, .int v_faultPlace, .ref a_rowOf, .int v_rows, .int v_wrongKind, .int v_wrongPlace, .int v_readWords, .int v_readPassages, .ref a_readLetter, .ref a_readCue, .ref a_readPassage, .ref a_held])), (a_w, .inl (cI, 510, .inl v_w)), (a_past, .inl (cI, 4080, .inl v_past)), (a_images, .inl (cI, 1020, .inl v_images)), (a_text, .inl (cI, 140, .inl v_text)), (a_rowOf, .inl (cI, 120, .inl v_rowOf)), (a_readLetter, .inl (cI, 120, .inl v_readLetter)), (a_readCue, .inl (cI, 120, .inl v_readCue)), (a_readPassage, .inl (cI, 120, .inl v_readPassage)), (a_held, .inl (cI, 510, .inl v_held))]) hD hS hA [0, 1, 2, 3, 4, 5, 6, 7, 8, 9] rfl
    refine va_callv (va_runV (As := [.int (4 : Int32), .int p1]) (rest := []) ⟨hx, hb, hml, hown, hts⟩ (c_X4_fails l dC dI cI cZ cO aM a_w a_past a_images a_text a_rowOf a_readLetter a_readCue a_readPassage a_held H.size (4 : Int32) p1 v_w v_past v_pastMany v_images v_filled v_text v_length v_faultKind v_faultPlace v_rowOf v_rows v_wrongKind v_wrongPlace v_readWords v_readPassages v_readLetter v_readCue v_readPassage v_held u_12_wrongKind u_12_wrongPlace hq_12) (cwV 2 hts gX4_readWord_X4_fails rfl rfl rfl (by decide +kernel) ⟨Nat.le_of_ble_eq_true rfl, Nat.le_of_ble_eq_true rfl⟩) ⟨fb_wr, va_recv hK hPc (ci := 4) (q0 := 0) rfl rfl, pre_wr hPc hK hN hDc⟩ rfl rfl hl.1 rfl (lv_room (Nat.le_of_ble_eq_true rfl)) dX4_readWord_12 ⟨Nat.zero_le _, Nat.zero_le _⟩) hS (fun q _ h => hFc q h) hFc (fun _ t H1 locs ht hvm hw hB hz1 hk1 hS => ?_)
    obtain ⟨hP1, hD1⟩ := hB
    rw [ht] at hP1
    obtain ⟨hP, hD⟩ := va_join (wr := []) (w1 := [(aM, .inr (4, [.ref a_w, .ref a_past, .int v_pastMany, .ref a_images, .int v_filled, .ref a_text, .int v_length, .int v_faultKind, .int v_faultPlace, .ref a_rowOf, .int v_rows, .int u_12_wrongKind, .int u_12_wrongPlace, .int v_readWords, .int v_readPassages, .ref a_readLetter, .ref a_readCue, .ref a_readPassage, .ref a_held])), (a_w, .inl (cI, 510, .inl v_w)), (a_past, .inl (cI, 4080, .inl v_past)), (a_images, .inl (cI, 1020, .inl v_images)), (a_text, .inl (cI, 140, .inl v_text)), (a_rowOf, .inl (cI, 120, .inl v_rowOf)), (a_readLetter, .inl (cI, 120, .inl v_readLetter)), (a_readCue, .inl (cI, 120, .inl v_readCue)), (a_readPassage, .inl (cI, 120, .inl v_readPassage)), (a_held, .inl (cI, 510, .inl v_held))]) hP hD [0, 1, 2, 3, 4, 5, 6, 7, 8, 9] [] rfl rfl (by decide) (by decide) hk1 hFc hP1 hD1
    generalize H1 = H at hP hS ⊢
    have hP : va_P (dC, dI) vwCl [(aM, .inr (4, [.ref a_w, .ref a_past, .int v_pastMany, .ref a_images, .int v_filled, .ref a_text, .int v_length, .int v_faultKind, .int v_faultPlace, .ref a_rowOf, .int v_rows, .int u_12_wrongKind, .int u_12_wrongPlace, .int v_readWords, .int v_readPassages, .ref a_readLetter, .ref a_readCue, .ref a_readPassage, .ref a_held])), (a_w, .inl (cI, 510, .inl v_w)), (a_past, .inl (cI, 4080, .inl v_past)), (a_images, .inl (cI, 1020, .inl v_images)), (a_text, .inl (cI, 140, .inl v_text)), (a_rowOf, .inl (cI, 120, .inl v_rowOf)), (a_readLetter, .inl (cI, 120, .inl v_readLetter)), (a_readCue, .inl (cI, 120, .inl v_readCue)), (a_readPassage, .inl (cI, 120, .inl v_readPassage)), (a_held, .inl (cI, 510, .inl v_held))] H := hP
    have hD : va_D A [(aM, .inr (4, [.ref a_w, .ref a_past, .int v_pastMany, .ref a_images, .int v_filled, .ref a_text, .int v_length, .int v_faultKind, .int v_faultPlace, .ref a_rowOf, .int v_rows, .int u_12_wrongKind, .int u_12_wrongPlace, .int v_readWords, .int v_readPassages, .ref a_readLetter, .ref a_readCue, .ref a_readPassage, .ref a_held])), (a_w, .inl (cI, 510, .inl v_w)), (a_past, .inl (cI, 4080, .inl v_past)), (a_images, .inl (cI, 1020, .inl v_images)), (a_text, .inl (cI, 140, .inl v_text)), (a_rowOf, .inl (cI, 120, .inl v_rowOf)), (a_readLetter, .inl (cI, 120, .inl v_readLetter)), (a_readCue, .inl (cI, 120, .inl v_readCue)), (a_readPassage, .inl (cI, 120, .inl v_readPassage)), (a_held, .inl (cI, 510, .inl v_held))] := hD
    have hF : some (u_12_wrongKind, u_12_wrongPlace, v_readWords, v_readLetter, v_readCue, v_readPassage) = some (o_wrongKind, o_wrongPlace, o_readWords, o_readLetter, o_readCue, o_readPassage) := hF
    have hP9 := hP
    have hD9 := hD
    cases hF
    subst hQ
    subst hAe
    exact W.vret hx hb hr (fun t ht hW => ⟨⟨(), rfl, trivial, ⟨by rw [ht]; exact hP9, hD9⟩⟩, hS.F ht⟩) hS.2.2 dX4_readWord_15
def f_X4_readByte_61 (x1 : Int32) (v_wrongKind : Int32) (v_wrongPlace : Int32) (v_readWords : Int32) (v_readPassages : Int32) (v_readLetter : (Nat → Int32)) (v_readCue : (Nat → Int32)) (v_readPassage : (Nat → Int32)) : Option (Int32 × Int32 × Int32 × Int32 × (Nat → Int32) × (Nat → Int32) × (Nat → Int32)) :=
  (f_X4_fails (2 : Int32) x1 v_wrongKind v_wrongPlace).bind fun q64 =>
    some (q64.1, q64.2, v_readWords, v_readPassages, v_readLetter, v_readCue, v_readPassage)
def f_X4_readByte (p1 : Int32) (v_text : (Nat → Int32)) (v_wrongKind : Int32) (v_wrongPlace : Int32) (v_readWords : Int32) (v_readPassages : Int32) (v_readLetter : (Nat → Int32)) (v_readCue : (Nat → Int32)) (v_readPassage : (Nat → Int32)) : Option (Int32 × Int32 × Int32 × Int32 × (Nat → Int32) × (Nat → Int32) × (Nat → Int32)) :=
  if p1 < 0 ∨ 140 ≤ p1.toNatClampNeg then none else
  (f_X4_isLetter (v_text p1.toNatClampNeg)).bind fun q8 =>
  if q8 = (0 : Int32) then
    if (v_text p1.toNatClampNeg) = (47 : Int32) then
      if p1 ≤ (0 : Int32) then
        f_X4_readByte_61 p1 v_wrongKind v_wrongPlace v_readWords v_readPassages v_readLetter v_readCue v_readPassage
      else
        if (p1 - (1 : Int32)) < 0 ∨ 140 ≤ ((p1 - (1 : Int32))).toNatClampNeg then none else
        (f_X4_isLetter (v_text (((p1 - (1 : Int32))).toNatClampNeg))).bind fun q40 =>
        if q40 = (0 : Int32) then
          f_X4_readByte_61 p1 v_wrongKind v_wrongPlace v_readWords v_readPassages v_readLetter v_readCue v_readPassage
        else
          if (v_readWords - (1 : Int32)) < 0 ∨ 120 ≤ ((v_readWords - (1 : Int32))).toNatClampNeg then none else
          some (v_wrongKind, v_wrongPlace, v_readWords, v_readPassages, v_readLetter, (upd v_readCue (((v_readWords - (1 : Int32))).toNatClampNeg) (1 : Int32)), v_readPassage)
    else
      if (v_text p1.toNatClampNeg) = (124 : Int32) then
        (f_X4_hasWord v_readWords v_readPassages v_readPassage).bind fun q77 =>
        if q77 = (0 : Int32) then
          (f_X4_fails (3 : Int32) p1 v_wrongKind v_wrongPlace).bind fun q99 =>
          some (q99.1, q99.2, v_readWords, v_readPassages, v_readLetter, v_readCue, v_readPassage)
        else
          some (v_wrongKind, v_wrongPlace, v_readWords, (v_readPassages + (1 : Int32)), v_readLetter, v_readCue, v_readPassage)
      else
        if (v_text p1.toNatClampNeg) = (32 : Int32) then
          some (v_wrongKind, v_wrongPlace, v_readWords, v_readPassages, v_readLetter, v_readCue, v_readPassage)
        else
          (f_X4_fails (1 : Int32) p1 v_wrongKind v_wrongPlace).bind fun q114 =>
          some (q114.1, q114.2, v_readWords, v_readPassages, v_readLetter, v_readCue, v_readPassage)
  else
    (f_X4_readWord p1 v_text v_wrongKind v_wrongPlace v_readWords v_readPassages v_readLetter v_readCue v_readPassage).bind fun q16 =>
    some (q16.1, q16.2.1, q16.2.2.1, v_readPassages, q16.2.2.2.1, q16.2.2.2.2.1, q16.2.2.2.2.2)
def rm_X4_readByte : Room := { frames := 2, cells := 0, slots := 0, locals := 43 }
set_option maxHeartbeats 4000000 in
set_option maxRecDepth 100000 in
theorem c_X4_readByte (l : Launch) (dC : Nat → ClassId) (dI : Nat → Nat → Nat) (cI cZ cO : ClassId) (aM a_w a_past a_images a_text a_rowOf a_readLetter a_readCue a_readPassage a_held : Nat) (sz : Nat) (p1 : Int32) (v_w : (Nat → Int32)) (v_past : (Nat → Int32)) (v_pastMany : Int32) (v_images : (Nat → Int32)) (v_filled : Int32) (v_text : (Nat → Int32)) (v_length : Int32) (v_faultKind : Int32) (v_faultPlace : Int32) (v_rowOf : (Nat → Int32)) (v_rows : Int32) (v_wrongKind : Int32) (v_wrongPlace : Int32) (v_readWords : Int32) (v_readPassages : Int32) (v_readLetter : (Nat → Int32)) (v_readCue : (Nat → Int32)) (v_readPassage : (Nat → Int32)) (v_held : (Nat → Int32)) (o_wrongKind : Int32) (o_wrongPlace : Int32) (o_readWords : Int32) (o_readPassages : Int32) (o_readLetter : (Nat → Int32)) (o_readCue : (Nat → Int32)) (o_readPassage : (Nat → Int32)) (hF : f_X4_readByte p1 v_text v_wrongKind v_wrongPlace v_readWords v_readPassages v_readLetter v_readCue v_readPassage = some (o_wrongKind, o_wrongPlace, o_readWords, o_readPassages, o_readLetter, o_readCue, o_readPassage)) : Met l yX4_readByte wsX4_readByte rm_X4_readByte (va_Pc [.ref aM, .int p1] (wrW dC dI cI cZ cO sz [(aM, .inr (4, [.ref a_w, .ref a_past, .int v_pastMany, .ref a_images, .int v_filled, .ref a_text, .int v_length, .int v_faultKind, .int v_faultPlace, .ref a_rowOf, .int v_rows, .int v_wrongKind, .int v_wrongPlace, .int v_readWords, .int v_readPassages, .ref a_readLetter, .ref a_readCue, .ref a_readPassage, .ref a_held])), (a_w, .inl (cI, 510, .inl v_w)), (a_past, .inl (cI, 4080, .inl v_past)), (a_images, .inl (cI, 1020, .inl v_images)), (a_text, .inl (cI, 140, .inl v_text)), (a_rowOf, .inl (cI, 120, .inl v_rowOf)), (a_readLetter, .inl (cI, 120, .inl v_readLetter)), (a_readCue, .inl (cI, 120, .inl v_readCue)), (a_readPassage, .inl (cI, 120, .inl v_readPassage)), (a_held, .inl (cI, 510, .inl v_held))])) (va_Qv (fun (_ : Unit) => True) (wrE dC dI [(aM, .inr (4, [.ref a_w, .ref a_past, .int v_pastMany, .ref a_images, .int v_filled, .ref a_text, .int v_length, .int v_faultKind, .int v_faultPlace, .ref a_rowOf, .int v_rows, .int v_wrongKind, .int v_wrongPlace, .int v_readWords, .int v_readPassages, .ref a_readLetter, .ref a_readCue, .ref a_readPassage, .ref a_held])), (a_w, .inl (cI, 510, .inl v_w)), (a_past, .inl (cI, 4080, .inl v_past)), (a_images, .inl (cI, 1020, .inl v_images)), (a_text, .inl (cI, 140, .inl v_text)), (a_rowOf, .inl (cI, 120, .inl v_rowOf)), (a_readLetter, .inl (cI, 120, .inl v_readLetter)), (a_readCue, .inl (cI, 120, .inl v_readCue)), (a_readPassage, .inl (cI, 120, .inl v_readPassage)), (a_held, .inl (cI, 510, .inl v_held))] sz [(aM, .inr (4, [.ref a_w, .ref a_past, .int v_pastMany, .ref a_images, .int v_filled, .ref a_text, .int v_length, .int v_faultKind, .int v_faultPlace, .ref a_rowOf, .int v_rows, .int o_wrongKind, .int o_wrongPlace, .int o_readWords, .int o_readPassages, .ref a_readLetter, .ref a_readCue, .ref a_readPassage, .ref a_held])), (a_w, .inl (cI, 510, .inl v_w)), (a_past, .inl (cI, 4080, .inl v_past)), (a_images, .inl (cI, 1020, .inl v_images)), (a_text, .inl (cI, 140, .inl v_text)), (a_rowOf, .inl (cI, 120, .inl v_rowOf)), (a_readLetter, .inl (cI, 120, .inl o_readLetter)), (a_readCue, .inl (cI, 120, .inl o_readCue)), (a_readPassage, .inl (cI, 120, .inl o_readPassage)), (a_held, .inl (cI, 510, .inl v_held))]) (va_A [(aM, .inr (4, [.ref a_w, .ref a_past, .int v_pastMany, .ref a_images, .int v_filled, .ref a_text, .int v_length, .int v_faultKind, .int v_faultPlace, .ref a_rowOf, .int v_rows, .int v_wrongKind, .int v_wrongPlace, .int v_readWords, .int v_readPassages, .ref a_readLetter, .ref a_readCue, .ref a_readPassage, .ref a_held])), (a_w, .inl (cI, 510, .inl v_w)), (a_past, .inl (cI, 4080, .inl v_past)), (a_images, .inl (cI, 1020, .inl v_images)), (a_text, .inl (cI, 140, .inl v_text)), (a_rowOf, .inl (cI, 120, .inl v_rowOf)), (a_readLetter, .inl (cI, 120, .inl v_readLetter)), (a_readCue, .inl (cI, 120, .inl v_readCue)), (a_readPassage, .inl (cI, 120, .inl v_readPassage)), (a_held, .inl (cI, 510, .inl v_held))] sz)) 0 0 (va_A [(aM, .inr (4, [.ref a_w, .ref a_past, .int v_pastMany, .ref a_images, .int v_filled, .ref a_text, .int v_length, .int v_faultKind, .int v_faultPlace, .ref a_rowOf, .int v_rows, .int v_wrongKind, .int v_wrongPlace, .int v_readWords, .int v_readPassages, .ref a_readLetter, .ref a_readCue, .ref a_readPassage, .ref a_held])), (a_w, .inl (cI, 510, .inl v_w)), (a_past, .inl (cI, 4080, .inl v_past)), (a_images, .inl (cI, 1020, .inl v_images)), (a_text, .inl (cI, 140, .inl v_text)), (a_rowOf, .inl (cI, 120, .inl v_rowOf)), (a_readLetter, .inl (cI, 120, .inl v_readLetter)), (a_readCue, .inl (cI, 120, .inl v_readCue)), (a_readPassage, .inl (cI, 120, .inl v_readPassage)), (a_held, .inl (cI, 510, .inl v_held))] sz) := by
  refine Met.ofW (cc := cX4_readByte) (maxL := 3) (ret := none) (by decide) rfl ?_
  intro p e s m args below meth c s₁ B hml hv
  obtain ⟨rfl, hsz, hP, hK, hN, hD0⟩ := hv
  have hx := B.exec
  have hb := B.bytes
  have hr := B.returns
  have hts := atoms_spec (ws := wsX4_readByte) B.pre
  have hown : s.vm.findClass RX4 = some m.cls := findClass_of_methodNamed B.named
  have hlocks := B.notSynchronized
  subst hsz
  have hD := hD0.self (sz := s.heap.size)
  obtain ⟨Q, hQ⟩ : ∃ Q, Q = MQ below (va_Qv (fun (_ : Unit) => True) (wrE dC dI [(aM, .inr (4, [.ref a_w, .ref a_past, .int v_pastMany, .ref a_images, .int v_filled, .ref a_text, .int v_length, .int v_faultKind, .int v_faultPlace, .ref a_rowOf, .int v_rows, .int v_wrongKind, .int v_wrongPlace, .int v_readWords, .int v_readPassages, .ref a_readLetter, .ref a_readCue, .ref a_readPassage, .ref a_held])), (a_w, .inl (cI, 510, .inl v_w)), (a_past, .inl (cI, 4080, .inl v_past)), (a_images, .inl (cI, 1020, .inl v_images)), (a_text, .inl (cI, 140, .inl v_text)), (a_rowOf, .inl (cI, 120, .inl v_rowOf)), (a_readLetter, .inl (cI, 120, .inl v_readLetter)), (a_readCue, .inl (cI, 120, .inl v_readCue)), (a_readPassage, .inl (cI, 120, .inl v_readPassage)), (a_held, .inl (cI, 510, .inl v_held))] s.heap.size [(aM, .inr (4, [.ref a_w, .ref a_past, .int v_pastMany, .ref a_images, .int v_filled, .ref a_text, .int v_length, .int v_faultKind, .int v_faultPlace, .ref a_rowOf, .int v_rows, .int o_wrongKind, .int o_wrongPlace, .int o_readWords, .int o_readPassages, .ref a_readLetter, .ref a_readCue, .ref a_readPassage, .ref a_held])), (a_w, .inl (cI, 510, .inl v_w)), (a_past, .inl (cI, 4080, .inl v_past)), (a_images, .inl (cI, 1020, .inl v_images)), (a_text, .inl (cI, 140, .inl v_text)), (a_rowOf, .inl (cI, 120, .inl v_rowOf)), (a_readLetter, .inl (cI, 120, .inl o_readLetter)), (a_readCue, .inl (cI, 120, .inl o_readCue)), (a_readPassage, .inl (cI, 120, .inl o_readPassage)), (a_held, .inl (cI, 510, .inl v_held))]) (va_A [(aM, .inr (4, [.ref a_w, .ref a_past, .int v_pastMany, .ref a_images, .int v_filled, .ref a_text, .int v_length, .int v_faultKind, .int v_faultPlace, .ref a_rowOf, .int v_rows, .int v_wrongKind, .int v_wrongPlace, .int v_readWords, .int v_readPassages, .ref a_readLetter, .ref a_readCue, .ref a_readPassage, .ref a_held])), (a_w, .inl (cI, 510, .inl v_w)), (a_past, .inl (cI, 4080, .inl v_past)), (a_images, .inl (cI, 1020, .inl v_images)), (a_text, .inl (cI, 140, .inl v_text)), (a_rowOf, .inl (cI, 120, .inl v_rowOf)), (a_readLetter, .inl (cI, 120, .inl v_readLetter)), (a_readCue, .inl (cI, 120, .inl v_readCue)), (a_readPassage, .inl (cI, 120, .inl v_readPassage)), (a_held, .inl (cI, 510, .inl v_held))] s.heap.size)) ([.ref aM, .int p1] : List Value).toArray s 0 0 (va_A [(aM, .inr (4, [.ref a_w, .ref a_past, .int v_pastMany, .ref a_images, .int v_filled, .ref a_text, .int v_length, .int v_faultKind, .int v_faultPlace, .ref a_rowOf, .int v_rows, .int v_wrongKind, .int v_wrongPlace, .int v_readWords, .int v_readPassages, .ref a_readLetter, .ref a_readCue, .ref a_readPassage, .ref a_held])), (a_w, .inl (cI, 510, .inl v_w)), (a_past, .inl (cI, 4080, .inl v_past)), (a_images, .inl (cI, 1020, .inl v_images)), (a_text, .inl (cI, 140, .inl v_text)), (a_rowOf, .inl (cI, 120, .inl v_rowOf)), (a_readLetter, .inl (cI, 120, .inl v_readLetter)), (a_readCue, .inl (cI, 120, .inl v_readCue)), (a_readPassage, .inl (cI, 120, .inl v_readPassage)), (a_held, .inl (cI, 510, .inl v_held))] s.heap.size) := ⟨_, rfl⟩
  rw [← hQ]
  obtain ⟨A, hAe⟩ : ∃ A, A = va_A [(aM, .inr (4, [.ref a_w, .ref a_past, .int v_pastMany, .ref a_images, .int v_filled, .ref a_text, .int v_length, .int v_faultKind, .int v_faultPlace, .ref a_rowOf, .int v_rows, .int v_wrongKind, .int v_wrongPlace, .int v_readWords, .int v_readPassages, .ref a_readLetter, .ref a_readCue, .ref a_readPassage, .ref a_held])), (a_w, .inl (cI, 510, .inl v_w)), (a_past, .inl (cI, 4080, .inl v_past)), (a_images, .inl (cI, 1020, .inl v_images)), (a_text, .inl (cI, 140, .inl v_text)), (a_rowOf, .inl (cI, 120, .inl v_rowOf)), (a_readLetter, .inl (cI, 120, .inl v_readLetter)), (a_readCue, .inl (cI, 120, .inl v_readCue)), (a_readPassage, .inl (cI, 120, .inl v_readPassage)), (a_held, .inl (cI, 510, .inl v_held))] s.heap.size := ⟨_, rfl⟩
  rw [← hAe] at hD
  have hA : ∀ q : Nat, s.heap.size ≤ q → A q := fun q h => by rw [hAe]; exact Or.inr h
  obtain ⟨H, hH⟩ : ∃ H, H = s.heap := ⟨_, rfl⟩
  have hS : va_S A s.heap H [] := by rw [hH]; exact va_S.rf
  rw [← hH] at hP
  rw [← hH]
  have fl19 := hts (.fieldLink RX4 19 "TeleprompterModel" "text" "[I") (by decide +kernel)
  have fl113 := hts (.fieldLink RX4 113 "TeleprompterModel" "readPassages" "I") (by decide +kernel)
  have fl35 := hts (.fieldLink RX4 35 "TeleprompterModel" "readCue" "[I") (by decide +kernel)
  have fl106 := hts (.fieldLink RX4 106 "TeleprompterModel" "readWords" "I") (by decide +kernel)
  have inX4 : ∀ w ∈ u_ws RX4 TX4 19, w ∈ wsX4_readByte := by decide +kernel
  have hl := lv_entry ([.ref aM, .int p1]) (n := 3) (Nat.le_of_ble_eq_true rfl)
  rw [lg_entry_eq]
  generalize (lg_sl ([.ref aM, .int p1]) ++ List.replicate (3 - (lg_sl ([.ref aM, .int p1])).length) Slot.unset).toArray = ls at hl ⊢
  have hl : lv_has ls 3 [(0, .ref aM), (1, .int p1)] := hl
  have B61 : ∀ (x1_61 : Int32) (v_wrongKind_61 : Int32) (v_wrongPlace_61 : Int32) (v_readWords_61 : Int32) (v_readPassages_61 : Int32) (v_readLetter_61 : (Nat → Int32)) (v_readCue_61 : (Nat → Int32)) (v_readPassage_61 : (Nat → Int32)), f_X4_readByte_61 x1_61 v_wrongKind_61 v_wrongPlace_61 v_readWords_61 v_readPassages_61 v_readLetter_61 v_readCue_61 v_readPassage_61 = some (o_wrongKind, o_wrongPlace, o_readWords, o_readPassages, o_readLetter, o_readCue, o_readPassage) → ∀ (H : Heap) (locs : List Loc), va_P (dC, dI) vwCl [(aM, .inr (4, [.ref a_w, .ref a_past, .int v_pastMany, .ref a_images, .int v_filled, .ref a_text, .int v_length, .int v_faultKind, .int v_faultPlace, .ref a_rowOf, .int v_rows, .int v_wrongKind_61, .int v_wrongPlace_61, .int v_readWords_61, .int v_readPassages_61, .ref a_readLetter, .ref a_readCue, .ref a_readPassage, .ref a_held])), (a_w, .inl (cI, 510, .inl v_w)), (a_past, .inl (cI, 4080, .inl v_past)), (a_images, .inl (cI, 1020, .inl v_images)), (a_text, .inl (cI, 140, .inl v_text)), (a_rowOf, .inl (cI, 120, .inl v_rowOf)), (a_readLetter, .inl (cI, 120, .inl v_readLetter_61)), (a_readCue, .inl (cI, 120, .inl v_readCue_61)), (a_readPassage, .inl (cI, 120, .inl v_readPassage_61)), (a_held, .inl (cI, 510, .inl v_held))] H → va_D A [(aM, .inr (4, [.ref a_w, .ref a_past, .int v_pastMany, .ref a_images, .int v_filled, .ref a_text, .int v_length, .int v_faultKind, .int v_faultPlace, .ref a_rowOf, .int v_rows, .int v_wrongKind_61, .int v_wrongPlace_61, .int v_readWords_61, .int v_readPassages_61, .ref a_readLetter, .ref a_readCue, .ref a_readPassage, .ref a_held])), (a_w, .inl (cI, 510, .inl v_w)), (a_past, .inl (cI, 4080, .inl v_past)), (a_images, .inl (cI, 1020, .inl v_images)), (a_text, .inl (cI, 140, .inl v_text)), (a_rowOf, .inl (cI, 120, .inl v_rowOf)), (a_readLetter, .inl (cI, 120, .inl v_readLetter_61)), (a_readCue, .inl (cI, 120, .inl v_readCue_61)), (a_readPassage, .inl (cI, 120, .inl v_readPassage_61)), (a_held, .inl (cI, 510, .inl v_held))] → va_S A s.heap H locs → ∀ ls : Array Slot, lv_has ls 3 [(0, .ref aM), (1, .int x1_61)] → W p l e (headSpec wsX4_readByte rm_X4_readByte).room s m ([.ref aM, .int p1] : List Value).toArray below meth c H locs 0 0 Q (F0 m 61 ls []) := by
    intro x1_61 v_wrongKind_61 v_wrongPlace_61 v_readWords_61 v_readPassages_61 v_readLetter_61 v_readCue_61 v_readPassage_61 hF H locs hP hD hS ls hl
    unfold f_X4_readByte_61 at hF
    refine lv_aload_n hx hb dX4_readByte_61 rfl (lv_at hl 0 rfl) ?_
    refine lv_iconst (v := (2 : Int32)) hx hb dX4_readByte_62 (by decide) ?_
    refine lv_iload_n hx hb dX4_readByte_63 rfl (lv_at hl 1 rfl) ?_
    obtain ⟨q_64, hq_64, hF⟩ := bindE hF
    obtain ⟨u_64_wrongKind, u_64_wrongPlace⟩ := q_64
    have hPc := hP
    have hDc := hD
    have hFc := va_free (wc := [(aM, .inr (4, [.ref a_w, .ref a_past, .int v_pastMany, .ref a_images, .int v_filled, .ref a_text, .int v_length, .int v_faultKind, .int v_faultPlace, .ref a_rowOf, .int v_rows, .int v_wrongKind_61, .int v_wrongPlace_61, .int v_readWords_61, .int v_readPassages_61, .ref a_readLetter, .ref a_readCue, .ref a_readPassage, .ref a_held])), (a_w, .inl (cI, 510, .inl v_w)), (a_past, .inl (cI, 4080, .inl v_past)), (a_images, .inl (cI, 1020, .inl v_images)), (a_text, .inl (cI, 140, .inl v_text)), (a_rowOf, .inl (cI, 120, .inl v_rowOf)), (a_readLetter, .inl (cI, 120, .inl v_readLetter_61)), (a_readCue, .inl (cI, 120, .inl v_readCue_61)), (a_readPassage, .inl (cI, 120, .inl v_readPassage_61)), (a_held, .inl (cI, 510, .inl v_held))]) hD hS hA [0, 1, 2, 3, 4, 5, 6, 7, 8, 9] rfl
    refine va_callv (va_runV (As := [.int (2 : Int32), .int x1_61]) (rest := []) ⟨hx, hb, hml, hown, hts⟩ (c_X4_fails l dC dI cI cZ cO aM a_w a_past a_images a_text a_rowOf a_readLetter a_readCue a_readPassage a_held H.size (2 : Int32) x1_61 v_w v_past v_pastMany v_images v_filled v_text v_length v_faultKind v_faultPlace v_rowOf v_rows v_wrongKind_61 v_wrongPlace_61 v_readWords_61 v_readPassages_61 v_readLetter_61 v_readCue_61 v_readPassage_61 v_held u_64_wrongKind u_64_wrongPlace hq_64) (cwV 2 hts gX4_readByte_X4_fails rfl rfl rfl (by decide +kernel) ⟨Nat.le_of_ble_eq_true rfl, Nat.le_of_ble_eq_true rfl⟩) ⟨fb_wr, va_recv hK hPc (ci := 4) (q0 := 0) rfl rfl, pre_wr hPc hK hN hDc⟩ rfl rfl hl.1 rfl (lv_room (Nat.le_of_ble_eq_true rfl)) dX4_readByte_64 ⟨Nat.zero_le _, Nat.zero_le _⟩) hS (fun q _ h => hFc q h) hFc (fun _ t H1 locs ht hvm hw hB hz1 hk1 hS => ?_)
    obtain ⟨hP1, hD1⟩ := hB
    rw [ht] at hP1
    obtain ⟨hP, hD⟩ := va_join (wr := []) (w1 := [(aM, .inr (4, [.ref a_w, .ref a_past, .int v_pastMany, .ref a_images, .int v_filled, .ref a_text, .int v_length, .int v_faultKind, .int v_faultPlace, .ref a_rowOf, .int v_rows, .int u_64_wrongKind, .int u_64_wrongPlace, .int v_readWords_61, .int v_readPassages_61, .ref a_readLetter, .ref a_readCue, .ref a_readPassage, .ref a_held])), (a_w, .inl (cI, 510, .inl v_w)), (a_past, .inl (cI, 4080, .inl v_past)), (a_images, .inl (cI, 1020, .inl v_images)), (a_text, .inl (cI, 140, .inl v_text)), (a_rowOf, .inl (cI, 120, .inl v_rowOf)), (a_readLetter, .inl (cI, 120, .inl v_readLetter_61)), (a_readCue, .inl (cI, 120, .inl v_readCue_61)), (a_readPassage, .inl (cI, 120, .inl v_readPassage_61)), (a_held, .inl (cI, 510, .inl v_held))]) hP hD [0, 1, 2, 3, 4, 5, 6, 7, 8, 9] [] rfl rfl (by decide) (by decide) hk1 hFc hP1 hD1
    generalize H1 = H at hP hS ⊢
    have hP : va_P (dC, dI) vwCl [(aM, .inr (4, [.ref a_w, .ref a_past, .int v_pastMany, .ref a_images, .int v_filled, .ref a_text, .int v_length, .int v_faultKind, .int v_faultPlace, .ref a_rowOf, .int v_rows, .int u_64_wrongKind, .int u_64_wrongPlace, .int v_readWords_61, .int v_readPassages_61, .ref a_readLetter, .ref a_readCue, .ref a_readPassage, .ref a_held])), (a_w, .inl (cI, 510, .inl v_w)), (a_past, .inl (cI, 4080, .inl v_past)), (a_images, .inl (cI, 1020, .inl v_images)), (a_text, .inl (cI, 140, .inl v_text)), (a_rowOf, .inl (cI, 120, .inl v_rowOf)), (a_readLetter, .inl (cI, 120, .inl v_readLetter_61)), (a_readCue, .inl (cI, 120, .inl v_readCue_61)), (a_readPassage, .inl (cI, 120, .inl v_readPassage_61)), (a_held, .inl (cI, 510, .inl v_held))] H := hP
    have hD : va_D A [(aM, .inr (4, [.ref a_w, .ref a_past, .int v_pastMany, .ref a_images, .int v_filled, .ref a_text, .int v_length, .int v_faultKind, .int v_faultPlace, .ref a_rowOf, .int v_rows, .int u_64_wrongKind, .int u_64_wrongPlace, .int v_readWords_61, .int v_readPassages_61, .ref a_readLetter, .ref a_readCue, .ref a_readPassage, .ref a_held])), (a_w, .inl (cI, 510, .inl v_w)), (a_past, .inl (cI, 4080, .inl v_past)), (a_images, .inl (cI, 1020, .inl v_images)), (a_text, .inl (cI, 140, .inl v_text)), (a_rowOf, .inl (cI, 120, .inl v_rowOf)), (a_readLetter, .inl (cI, 120, .inl v_readLetter_61)), (a_readCue, .inl (cI, 120, .inl v_readCue_61)), (a_readPassage, .inl (cI, 120, .inl v_readPassage_61)), (a_held, .inl (cI, 510, .inl v_held))] := hD
    refine lv_goto (tgt := 117) hx hb dX4_readByte_67 (by decide) ?_
    have hF : some (u_64_wrongKind, u_64_wrongPlace, v_readWords_61, v_readPassages_61, v_readLetter_61, v_readCue_61, v_readPassage_61) = some (o_wrongKind, o_wrongPlace, o_readWords, o_readPassages, o_readLetter, o_readCue, o_readPassage) := hF
    have hP9 := hP
    have hD9 := hD
    cases hF
    subst hQ
    subst hAe
    exact W.vret hx hb hr (fun t ht hW => ⟨⟨(), rfl, trivial, ⟨by rw [ht]; exact hP9, hD9⟩⟩, hS.F ht⟩) hS.2.2 dX4_readByte_117
  unfold f_X4_readByte at hF
  refine lv_aload_n hx hb dX4_readByte_0 rfl (lv_at hl 0 rfl) ?_
  refine va_get (D := (dC, dI)) (ci := 4) (v := .ref a_text) (C := RX4) (T := TX4) (N := 19) hx hb hts inX4 hown hK hP 0 rfl rfl 5 (by decide) fl19 (fun _ h9 => h9) rfl dX4_readByte_1 ?_
  refine lv_iload_n hx hb dX4_readByte_4 rfl (lv_at hl 1 rfl) ?_
  by_cases b_5 : (p1 < 0 ∨ 140 ≤ p1.toNatClampNeg)
  · exact noneE ((if_pos b_5).symm.trans hF)
  have hF := (if_neg b_5).symm.trans hF
  refine va_iald hx hb hK hP 4 0 rfl rfl b_5 dX4_readByte_5 ?_
  refine lv_istore_n (lv' := [(2, .int (v_text p1.toNatClampNeg)), (0, .ref aM), (1, .int p1)]) hx hb dX4_readByte_6 rfl hl (by decide) rfl (fun ls hl => ?_)
  refine lv_iload_n hx hb dX4_readByte_7 rfl (lv_at hl 0 rfl) ?_
  obtain ⟨q_8, hq_8, hF⟩ := bindE hF
  have hPc := hP.sub (ws' := []) [] rfl
  refine vp_callSi (va_Run.run (va_runS (As := [.int (v_text p1.toNatClampNeg)]) (rest := []) ⟨hx, hb, hml, hown, hts⟩ (c_X4_isLetter l dC dI cI cZ cO (v_text p1.toNatClampNeg) q_8 hq_8) (cwS 1 hts gX4_readByte_X4_isLetter rfl rfl rfl (by decide +kernel) ⟨Nat.le_of_ble_eq_true rfl, Nat.le_of_ble_eq_true rfl⟩) ⟨fb_rd, pre_rd hPc hK hN⟩ rfl rfl hl.1 rfl (lv_room (Nat.le_of_ble_eq_true rfl)) dX4_readByte_8 ⟨Nat.zero_le _, Nat.zero_le _⟩)) (fun z_8 hz_8 => ?_)
  subst hz_8
  refine lv_if_eq (tgt := 22) hx hb dX4_readByte_11 (by decide) (fun c_11 => ?_) (fun c_11 => ?_)
  · have hF := (if_pos c_11).symm.trans hF
    refine lv_iload_n hx hb dX4_readByte_22 rfl (lv_at hl 0 rfl) ?_
    refine lv_bipush (v := (47 : Int32)) hx hb dX4_readByte_23 (by decide) ?_
    refine lv_icmp_ne (tgt := 70) hx hb dX4_readByte_25 (by decide) (fun c_25 => ?_) (fun c_25 => ?_)
    · have hF := (if_neg c_25).symm.trans hF
      refine lv_iload_n hx hb dX4_readByte_70 rfl (lv_at hl 0 rfl) ?_
      refine lv_bipush (v := (124 : Int32)) hx hb dX4_readByte_71 (by decide) ?_
      refine lv_icmp_ne (tgt := 105) hx hb dX4_readByte_73 (by decide) (fun c_73 => ?_) (fun c_73 => ?_)
      · have hF := (if_neg c_73).symm.trans hF
        refine lv_iload_n hx hb dX4_readByte_105 rfl (lv_at hl 0 rfl) ?_
        refine lv_bipush (v := (32 : Int32)) hx hb dX4_readByte_106 (by decide) ?_
        refine lv_icmp_eq (tgt := 117) hx hb dX4_readByte_108 (by decide) (fun c_108 => ?_) (fun c_108 => ?_)
        · have hF := (if_pos c_108).symm.trans hF
          have hF : some (v_wrongKind, v_wrongPlace, v_readWords, v_readPassages, v_readLetter, v_readCue, v_readPassage) = some (o_wrongKind, o_wrongPlace, o_readWords, o_readPassages, o_readLetter, o_readCue, o_readPassage) := hF
          have hP9 := hP
          have hD9 := hD
          cases hF
          subst hQ
          subst hAe
          exact W.vret hx hb hr (fun t ht hW => ⟨⟨(), rfl, trivial, ⟨by rw [ht]; exact hP9, hD9⟩⟩, hS.F ht⟩) hS.2.2 dX4_readByte_117
        · have hF := (if_neg c_108).symm.trans hF
          refine lv_aload_n hx hb dX4_readByte_111 rfl (lv_at hl 1 rfl) ?_
          refine lv_iconst (v := (1 : Int32)) hx hb dX4_readByte_112 (by decide) ?_
          refine lv_iload_n hx hb dX4_readByte_113 rfl (lv_at hl 2 rfl) ?_
          obtain ⟨q_114, hq_114, hF⟩ := bindE hF
          obtain ⟨u_114_wrongKind, u_114_wrongPlace⟩ := q_114
          have hPc := hP
          have hDc := hD
          have hFc := va_free (wc := [(aM, .inr (4, [.ref a_w, .ref a_past, .int v_pastMany, .ref a_images, .int v_filled, .ref a_text, .int v_length, .int v_faultKind, .int v_faultPlace, .ref a_rowOf, .int v_rows, .int v_wrongKind, .int v_wrongPlace, .int v_readWords, .int v_readPassages, .ref a_readLetter, .ref a_readCue, .ref a_readPassage, .ref a_held])), (a_w, .inl (cI, 510, .inl v_w)), (a_past, .inl (cI, 4080, .inl v_past)), (a_images, .inl (cI, 1020, .inl v_images)), (a_text, .inl (cI, 140, .inl v_text)), (a_rowOf, .inl (cI, 120, .inl v_rowOf)), (a_readLetter, .inl (cI, 120, .inl v_readLetter)), (a_readCue, .inl (cI, 120, .inl v_readCue)), (a_readPassage, .inl (cI, 120, .inl v_readPassage)), (a_held, .inl (cI, 510, .inl v_held))]) hD hS hA [0, 1, 2, 3, 4, 5, 6, 7, 8, 9] rfl
          refine va_callv (va_runV (As := [.int (1 : Int32), .int p1]) (rest := []) ⟨hx, hb, hml, hown, hts⟩ (c_X4_fails l dC dI cI cZ cO aM a_w a_past a_images a_text a_rowOf a_readLetter a_readCue a_readPassage a_held H.size (1 : Int32) p1 v_w v_past v_pastMany v_images v_filled v_text v_length v_faultKind v_faultPlace v_rowOf v_rows v_wrongKind v_wrongPlace v_readWords v_readPassages v_readLetter v_readCue v_readPassage v_held u_114_wrongKind u_114_wrongPlace hq_114) (cwV 2 hts gX4_readByte_X4_fails rfl rfl rfl (by decide +kernel) ⟨Nat.le_of_ble_eq_true rfl, Nat.le_of_ble_eq_true rfl⟩) ⟨fb_wr, va_recv hK hPc (ci := 4) (q0 := 0) rfl rfl, pre_wr hPc hK hN hDc⟩ rfl rfl hl.1 rfl (lv_room (Nat.le_of_ble_eq_true rfl)) dX4_readByte_114 ⟨Nat.zero_le _, Nat.zero_le _⟩) hS (fun q _ h => hFc q h) hFc (fun _ t H1 locs ht hvm hw hB hz1 hk1 hS => ?_)
          obtain ⟨hP1, hD1⟩ := hB
          rw [ht] at hP1
          obtain ⟨hP, hD⟩ := va_join (wr := []) (w1 := [(aM, .inr (4, [.ref a_w, .ref a_past, .int v_pastMany, .ref a_images, .int v_filled, .ref a_text, .int v_length, .int v_faultKind, .int v_faultPlace, .ref a_rowOf, .int v_rows, .int u_114_wrongKind, .int u_114_wrongPlace, .int v_readWords, .int v_readPassages, .ref a_readLetter, .ref a_readCue, .ref a_readPassage, .ref a_held])), (a_w, .inl (cI, 510, .inl v_w)), (a_past, .inl (cI, 4080, .inl v_past)), (a_images, .inl (cI, 1020, .inl v_images)), (a_text, .inl (cI, 140, .inl v_text)), (a_rowOf, .inl (cI, 120, .inl v_rowOf)), (a_readLetter, .inl (cI, 120, .inl v_readLetter)), (a_readCue, .inl (cI, 120, .inl v_readCue)), (a_readPassage, .inl (cI, 120, .inl v_readPassage)), (a_held, .inl (cI, 510, .inl v_held))]) hP hD [0, 1, 2, 3, 4, 5, 6, 7, 8, 9] [] rfl rfl (by decide) (by decide) hk1 hFc hP1 hD1
          generalize H1 = H at hP hS ⊢
          have hP : va_P (dC, dI) vwCl [(aM, .inr (4, [.ref a_w, .ref a_past, .int v_pastMany, .ref a_images, .int v_filled, .ref a_text, .int v_length, .int v_faultKind, .int v_faultPlace, .ref a_rowOf, .int v_rows, .int u_114_wrongKind, .int u_114_wrongPlace, .int v_readWords, .int v_readPassages, .ref a_readLetter, .ref a_readCue, .ref a_readPassage, .ref a_held])), (a_w, .inl (cI, 510, .inl v_w)), (a_past, .inl (cI, 4080, .inl v_past)), (a_images, .inl (cI, 1020, .inl v_images)), (a_text, .inl (cI, 140, .inl v_text)), (a_rowOf, .inl (cI, 120, .inl v_rowOf)), (a_readLetter, .inl (cI, 120, .inl v_readLetter)), (a_readCue, .inl (cI, 120, .inl v_readCue)), (a_readPassage, .inl (cI, 120, .inl v_readPassage)), (a_held, .inl (cI, 510, .inl v_held))] H := hP
          have hD : va_D A [(aM, .inr (4, [.ref a_w, .ref a_past, .int v_pastMany, .ref a_images, .int v_filled, .ref a_text, .int v_length, .int v_faultKind, .int v_faultPlace, .ref a_rowOf, .int v_rows, .int u_114_wrongKind, .int u_114_wrongPlace, .int v_readWords, .int v_readPassages, .ref a_readLetter, .ref a_readCue, .ref a_readPassage, .ref a_held])), (a_w, .inl (cI, 510, .inl v_w)), (a_past, .inl (cI, 4080, .inl v_past)), (a_images, .inl (cI, 1020, .inl v_images)), (a_text, .inl (cI, 140, .inl v_text)), (a_rowOf, .inl (cI, 120, .inl v_rowOf)), (a_readLetter, .inl (cI, 120, .inl v_readLetter)), (a_readCue, .inl (cI, 120, .inl v_readCue)), (a_readPassage, .inl (cI, 120, .inl v_readPassage)), (a_held, .inl (cI, 510, .inl v_held))] := hD
          have hF : some (u_114_wrongKind, u_114_wrongPlace, v_readWords, v_readPassages, v_readLetter, v_readCue, v_readPassage) = some (o_wrongKind, o_wrongPlace, o_readWords, o_readPassages, o_readLetter, o_readCue, o_readPassage) := hF
          have hP9 := hP
          have hD9 := hD
          cases hF
          subst hQ
          subst hAe
          exact W.vret hx hb hr (fun t ht hW => ⟨⟨(), rfl, trivial, ⟨by rw [ht]; exact hP9, hD9⟩⟩, hS.F ht⟩) hS.2.2 dX4_readByte_117
      · have hF := (if_pos c_73).symm.trans hF
        refine lv_aload_n hx hb dX4_readByte_76 rfl (lv_at hl 1 rfl) ?_
        obtain ⟨q_77, hq_77, hF⟩ := bindE hF
        have hPc := hP
        refine vp_callSi (va_Run.run (va_runV (As := []) (rest := []) ⟨hx, hb, hml, hown, hts⟩ (c_X4_hasWord l dC dI cI cZ cO aM a_w a_past a_images a_text a_rowOf a_readLetter a_readCue a_readPassage a_held v_w v_past v_pastMany v_images v_filled v_text v_length v_faultKind v_faultPlace v_rowOf v_rows v_wrongKind v_wrongPlace v_readWords v_readPassages v_readLetter v_readCue v_readPassage v_held q_77 hq_77) (cwV 0 hts gX4_readByte_X4_hasWord rfl rfl rfl (by decide +kernel) ⟨Nat.le_of_ble_eq_true rfl, Nat.le_of_ble_eq_true rfl⟩) ⟨fb_rd, va_recv hK hPc (ci := 4) (q0 := 0) rfl rfl, pre_rd hPc hK hN⟩ rfl rfl hl.1 rfl (lv_room (Nat.le_of_ble_eq_true rfl)) dX4_readByte_77 ⟨Nat.zero_le _, Nat.zero_le _⟩)) (fun z_77 hz_77 => ?_)
        subst hz_77
        refine lv_if_eq (tgt := 96) hx hb dX4_readByte_80 (by decide) (fun c_80 => ?_) (fun c_80 => ?_)
        · have hF := (if_pos c_80).symm.trans hF
          refine lv_aload_n hx hb dX4_readByte_96 rfl (lv_at hl 1 rfl) ?_
          refine lv_iconst (v := (3 : Int32)) hx hb dX4_readByte_97 (by decide) ?_
          refine lv_iload_n hx hb dX4_readByte_98 rfl (lv_at hl 2 rfl) ?_
          obtain ⟨q_99, hq_99, hF⟩ := bindE hF
          obtain ⟨u_99_wrongKind, u_99_wrongPlace⟩ := q_99
          have hPc := hP
          have hDc := hD
          have hFc := va_free (wc := [(aM, .inr (4, [.ref a_w, .ref a_past, .int v_pastMany, .ref a_images, .int v_filled, .ref a_text, .int v_length, .int v_faultKind, .int v_faultPlace, .ref a_rowOf, .int v_rows, .int v_wrongKind, .int v_wrongPlace, .int v_readWords, .int v_readPassages, .ref a_readLetter, .ref a_readCue, .ref a_readPassage, .ref a_held])), (a_w, .inl (cI, 510, .inl v_w)), (a_past, .inl (cI, 4080, .inl v_past)), (a_images, .inl (cI, 1020, .inl v_images)), (a_text, .inl (cI, 140, .inl v_text)), (a_rowOf, .inl (cI, 120, .inl v_rowOf)), (a_readLetter, .inl (cI, 120, .inl v_readLetter)), (a_readCue, .inl (cI, 120, .inl v_readCue)), (a_readPassage, .inl (cI, 120, .inl v_readPassage)), (a_held, .inl (cI, 510, .inl v_held))]) hD hS hA [0, 1, 2, 3, 4, 5, 6, 7, 8, 9] rfl
          refine va_callv (va_runV (As := [.int (3 : Int32), .int p1]) (rest := []) ⟨hx, hb, hml, hown, hts⟩ (c_X4_fails l dC dI cI cZ cO aM a_w a_past a_images a_text a_rowOf a_readLetter a_readCue a_readPassage a_held H.size (3 : Int32) p1 v_w v_past v_pastMany v_images v_filled v_text v_length v_faultKind v_faultPlace v_rowOf v_rows v_wrongKind v_wrongPlace v_readWords v_readPassages v_readLetter v_readCue v_readPassage v_held u_99_wrongKind u_99_wrongPlace hq_99) (cwV 2 hts gX4_readByte_X4_fails rfl rfl rfl (by decide +kernel) ⟨Nat.le_of_ble_eq_true rfl, Nat.le_of_ble_eq_true rfl⟩) ⟨fb_wr, va_recv hK hPc (ci := 4) (q0 := 0) rfl rfl, pre_wr hPc hK hN hDc⟩ rfl rfl hl.1 rfl (lv_room (Nat.le_of_ble_eq_true rfl)) dX4_readByte_99 ⟨Nat.zero_le _, Nat.zero_le _⟩) hS (fun q _ h => hFc q h) hFc (fun _ t H1 locs ht hvm hw hB hz1 hk1 hS => ?_)
          obtain ⟨hP1, hD1⟩ := hB
          rw [ht] at hP1
          obtain ⟨hP, hD⟩ := va_join (wr := []) (w1 := [(aM, .inr (4, [.ref a_w, .ref a_past, .int v_pastMany, .ref a_images, .int v_filled, .ref a_text, .int v_length, .int v_faultKind, .int v_faultPlace, .ref a_rowOf, .int v_rows, .int u_99_wrongKind, .int u_99_wrongPlace, .int v_readWords, .int v_readPassages, .ref a_readLetter, .ref a_readCue, .ref a_readPassage, .ref a_held])), (a_w, .inl (cI, 510, .inl v_w)), (a_past, .inl (cI, 4080, .inl v_past)), (a_images, .inl (cI, 1020, .inl v_images)), (a_text, .inl (cI, 140, .inl v_text)), (a_rowOf, .inl (cI, 120, .inl v_rowOf)), (a_readLetter, .inl (cI, 120, .inl v_readLetter)), (a_readCue, .inl (cI, 120, .inl v_readCue)), (a_readPassage, .inl (cI, 120, .inl v_readPassage)), (a_held, .inl (cI, 510, .inl v_held))]) hP hD [0, 1, 2, 3, 4, 5, 6, 7, 8, 9] [] rfl rfl (by decide) (by decide) hk1 hFc hP1 hD1
          generalize H1 = H at hP hS ⊢
          have hP : va_P (dC, dI) vwCl [(aM, .inr (4, [.ref a_w, .ref a_past, .int v_pastMany, .ref a_images, .int v_filled, .ref a_text, .int v_length, .int v_faultKind, .int v_faultPlace, .ref a_rowOf, .int v_rows, .int u_99_wrongKind, .int u_99_wrongPlace, .int v_readWords, .int v_readPassages, .ref a_readLetter, .ref a_readCue, .ref a_readPassage, .ref a_held])), (a_w, .inl (cI, 510, .inl v_w)), (a_past, .inl (cI, 4080, .inl v_past)), (a_images, .inl (cI, 1020, .inl v_images)), (a_text, .inl (cI, 140, .inl v_text)), (a_rowOf, .inl (cI, 120, .inl v_rowOf)), (a_readLetter, .inl (cI, 120, .inl v_readLetter)), (a_readCue, .inl (cI, 120, .inl v_readCue)), (a_readPassage, .inl (cI, 120, .inl v_readPassage)), (a_held, .inl (cI, 510, .inl v_held))] H := hP
          have hD : va_D A [(aM, .inr (4, [.ref a_w, .ref a_past, .int v_pastMany, .ref a_images, .int v_filled, .ref a_text, .int v_length, .int v_faultKind, .int v_faultPlace, .ref a_rowOf, .int v_rows, .int u_99_wrongKind, .int u_99_wrongPlace, .int v_readWords, .int v_readPassages, .ref a_readLetter, .ref a_readCue, .ref a_readPassage, .ref a_held])), (a_w, .inl (cI, 510, .inl v_w)), (a_past, .inl (cI, 4080, .inl v_past)), (a_images, .inl (cI, 1020, .inl v_images)), (a_text, .inl (cI, 140, .inl v_text)), (a_rowOf, .inl (cI, 120, .inl v_rowOf)), (a_readLetter, .inl (cI, 120, .inl v_readLetter)), (a_readCue, .inl (cI, 120, .inl v_readCue)), (a_readPassage, .inl (cI, 120, .inl v_readPassage)), (a_held, .inl (cI, 510, .inl v_held))] := hD
          refine lv_goto (tgt := 117) hx hb dX4_readByte_102 (by decide) ?_
          have hF : some (u_99_wrongKind, u_99_wrongPlace, v_readWords, v_readPassages, v_readLetter, v_readCue, v_readPassage) = some (o_wrongKind, o_wrongPlace, o_readWords, o_readPassages, o_readLetter, o_readCue, o_readPassage) := hF
          have hP9 := hP
          have hD9 := hD
          cases hF
          subst hQ
          subst hAe
          exact W.vret hx hb hr (fun t ht hW => ⟨⟨(), rfl, trivial, ⟨by rw [ht]; exact hP9, hD9⟩⟩, hS.F ht⟩) hS.2.2 dX4_readByte_117
        · have hF := (if_neg c_80).symm.trans hF
          refine lv_aload_n hx hb dX4_readByte_83 rfl (lv_at hl 1 rfl) ?_
          refine lv_dup hx hb dX4_readByte_84 rfl ?_
          refine va_get (D := (dC, dI)) (ci := 4) (v := .int v_readPassages) (C := RX4) (T := TX4) (N := 19) hx hb hts inX4 hown hK hP 0 rfl rfl 14 (by decide) fl113 (fun _ h9 => h9) rfl dX4_readByte_85 ?_
          refine lv_iconst (v := (1 : Int32)) hx hb dX4_readByte_88 (by decide) ?_
          refine lv_iadd hx hb dX4_readByte_89 ?_
          refine va_put (D := (dC, dI)) (ci := 4) (v := .int (v_readPassages + (1 : Int32))) (ty := .int) (C := RX4) (T := TX4) (N := 19) hx hb hts inX4 tyX4 tyX4_ok nmX4 hown hK hP hD hS 0 rfl rfl 14 (by decide) fl113 (fun _ h9 => h9) rfl (by decide +kernel) rfl rfl (Nat.le_of_ble_eq_true rfl) dX4_readByte_90 (fun H locs hP hD hS => ?_)
          have hP : va_P (dC, dI) vwCl [(aM, .inr (4, [.ref a_w, .ref a_past, .int v_pastMany, .ref a_images, .int v_filled, .ref a_text, .int v_length, .int v_faultKind, .int v_faultPlace, .ref a_rowOf, .int v_rows, .int v_wrongKind, .int v_wrongPlace, .int v_readWords, .int (v_readPassages + (1 : Int32)), .ref a_readLetter, .ref a_readCue, .ref a_readPassage, .ref a_held])), (a_w, .inl (cI, 510, .inl v_w)), (a_past, .inl (cI, 4080, .inl v_past)), (a_images, .inl (cI, 1020, .inl v_images)), (a_text, .inl (cI, 140, .inl v_text)), (a_rowOf, .inl (cI, 120, .inl v_rowOf)), (a_readLetter, .inl (cI, 120, .inl v_readLetter)), (a_readCue, .inl (cI, 120, .inl v_readCue)), (a_readPassage, .inl (cI, 120, .inl v_readPassage)), (a_held, .inl (cI, 510, .inl v_held))] H := hP
          have hD : va_D A [(aM, .inr (4, [.ref a_w, .ref a_past, .int v_pastMany, .ref a_images, .int v_filled, .ref a_text, .int v_length, .int v_faultKind, .int v_faultPlace, .ref a_rowOf, .int v_rows, .int v_wrongKind, .int v_wrongPlace, .int v_readWords, .int (v_readPassages + (1 : Int32)), .ref a_readLetter, .ref a_readCue, .ref a_readPassage, .ref a_held])), (a_w, .inl (cI, 510, .inl v_w)), (a_past, .inl (cI, 4080, .inl v_past)), (a_images, .inl (cI, 1020, .inl v_images)), (a_text, .inl (cI, 140, .inl v_text)), (a_rowOf, .inl (cI, 120, .inl v_rowOf)), (a_readLetter, .inl (cI, 120, .inl v_readLetter)), (a_readCue, .inl (cI, 120, .inl v_readCue)), (a_readPassage, .inl (cI, 120, .inl v_readPassage)), (a_held, .inl (cI, 510, .inl v_held))] := hD
          refine lv_goto (tgt := 117) hx hb dX4_readByte_93 (by decide) ?_
          have hF : some (v_wrongKind, v_wrongPlace, v_readWords, (v_readPassages + (1 : Int32)), v_readLetter, v_readCue, v_readPassage) = some (o_wrongKind, o_wrongPlace, o_readWords, o_readPassages, o_readLetter, o_readCue, o_readPassage) := hF
          have hP9 := hP
          have hD9 := hD
          cases hF
          subst hQ
          subst hAe
          exact W.vret hx hb hr (fun t ht hW => ⟨⟨(), rfl, trivial, ⟨by rw [ht]; exact hP9, hD9⟩⟩, hS.F ht⟩) hS.2.2 dX4_readByte_117
    · have hF := (if_pos c_25).symm.trans hF
      refine lv_iload_n hx hb dX4_readByte_28 rfl (lv_at hl 2 rfl) ?_
      refine lv_if_le (tgt := 61) hx hb dX4_readByte_29 (by decide) (fun c_29 => ?_) (fun c_29 => ?_)
      · have hF := (if_pos c_29).symm.trans hF
        exact B61 p1 v_wrongKind v_wrongPlace v_readWords v_readPassages v_readLetter v_readCue v_readPassage hF _ _ hP hD hS _ (lv_sub hl [1, 2] rfl)
      · have hF := (if_neg c_29).symm.trans hF
        refine lv_aload_n hx hb dX4_readByte_32 rfl (lv_at hl 1 rfl) ?_
        refine va_get (D := (dC, dI)) (ci := 4) (v := .ref a_text) (C := RX4) (T := TX4) (N := 19) hx hb hts inX4 hown hK hP 0 rfl rfl 5 (by decide) fl19 (fun _ h9 => h9) rfl dX4_readByte_33 ?_
        refine lv_iload_n hx hb dX4_readByte_36 rfl (lv_at hl 2 rfl) ?_
        refine lv_iconst (v := (1 : Int32)) hx hb dX4_readByte_37 (by decide) ?_
        refine lv_isub hx hb dX4_readByte_38 ?_
        by_cases b_39 : ((p1 - (1 : Int32)) < 0 ∨ 140 ≤ ((p1 - (1 : Int32))).toNatClampNeg)
        · exact noneE ((if_pos b_39).symm.trans hF)
        have hF := (if_neg b_39).symm.trans hF
        refine va_iald hx hb hK hP 4 0 rfl rfl b_39 dX4_readByte_39 ?_
        obtain ⟨q_40, hq_40, hF⟩ := bindE hF
        have hPc := hP.sub (ws' := []) [] rfl
        refine vp_callSi (va_Run.run (va_runS (As := [.int (v_text (((p1 - (1 : Int32))).toNatClampNeg))]) (rest := []) ⟨hx, hb, hml, hown, hts⟩ (c_X4_isLetter l dC dI cI cZ cO (v_text (((p1 - (1 : Int32))).toNatClampNeg)) q_40 hq_40) (cwS 1 hts gX4_readByte_X4_isLetter rfl rfl rfl (by decide +kernel) ⟨Nat.le_of_ble_eq_true rfl, Nat.le_of_ble_eq_true rfl⟩) ⟨fb_rd, pre_rd hPc hK hN⟩ rfl rfl hl.1 rfl (lv_room (Nat.le_of_ble_eq_true rfl)) dX4_readByte_40 ⟨Nat.zero_le _, Nat.zero_le _⟩)) (fun z_40 hz_40 => ?_)
        subst hz_40
        refine lv_if_eq (tgt := 61) hx hb dX4_readByte_43 (by decide) (fun c_43 => ?_) (fun c_43 => ?_)
        · have hF := (if_pos c_43).symm.trans hF
          exact B61 p1 v_wrongKind v_wrongPlace v_readWords v_readPassages v_readLetter v_readCue v_readPassage hF _ _ hP hD hS _ (lv_sub hl [1, 2] rfl)
        · have hF := (if_neg c_43).symm.trans hF
          refine lv_aload_n hx hb dX4_readByte_46 rfl (lv_at hl 1 rfl) ?_
          refine va_get (D := (dC, dI)) (ci := 4) (v := .ref a_readCue) (C := RX4) (T := TX4) (N := 19) hx hb hts inX4 hown hK hP 0 rfl rfl 16 (by decide) fl35 (fun _ h9 => h9) rfl dX4_readByte_47 ?_
          refine lv_aload_n hx hb dX4_readByte_50 rfl (lv_at hl 1 rfl) ?_
          refine va_get (D := (dC, dI)) (ci := 4) (v := .int v_readWords) (C := RX4) (T := TX4) (N := 19) hx hb hts inX4 hown hK hP 0 rfl rfl 13 (by decide) fl106 (fun _ h9 => h9) rfl dX4_readByte_51 ?_
          refine lv_iconst (v := (1 : Int32)) hx hb dX4_readByte_54 (by decide) ?_
          refine lv_isub hx hb dX4_readByte_55 ?_
          refine lv_iconst (v := (1 : Int32)) hx hb dX4_readByte_56 (by decide) ?_
          by_cases b_57 : ((v_readWords - (1 : Int32)) < 0 ∨ 120 ≤ ((v_readWords - (1 : Int32))).toNatClampNeg)
          · exact noneE ((if_pos b_57).symm.trans hF)
          have hF := (if_neg b_57).symm.trans hF
          refine va_iast hx hb hK hP hD hS 7 0 rfl rfl b_57 dX4_readByte_57 (fun H locs hP hD hS => ?_)
          have hP : va_P (dC, dI) vwCl [(aM, .inr (4, [.ref a_w, .ref a_past, .int v_pastMany, .ref a_images, .int v_filled, .ref a_text, .int v_length, .int v_faultKind, .int v_faultPlace, .ref a_rowOf, .int v_rows, .int v_wrongKind, .int v_wrongPlace, .int v_readWords, .int v_readPassages, .ref a_readLetter, .ref a_readCue, .ref a_readPassage, .ref a_held])), (a_w, .inl (cI, 510, .inl v_w)), (a_past, .inl (cI, 4080, .inl v_past)), (a_images, .inl (cI, 1020, .inl v_images)), (a_text, .inl (cI, 140, .inl v_text)), (a_rowOf, .inl (cI, 120, .inl v_rowOf)), (a_readLetter, .inl (cI, 120, .inl v_readLetter)), (a_readCue, .inl (cI, 120, .inl (upd v_readCue (((v_readWords - (1 : Int32))).toNatClampNeg) (1 : Int32)))), (a_readPassage, .inl (cI, 120, .inl v_readPassage)), (a_held, .inl (cI, 510, .inl v_held))] H := hP
          have hD : va_D A [(aM, .inr (4, [.ref a_w, .ref a_past, .int v_pastMany, .ref a_images, .int v_filled, .ref a_text, .int v_length, .int v_faultKind, .int v_faultPlace, .ref a_rowOf, .int v_rows, .int v_wrongKind, .int v_wrongPlace, .int v_readWords, .int v_readPassages, .ref a_readLetter, .ref a_readCue, .ref a_readPassage, .ref a_held])), (a_w, .inl (cI, 510, .inl v_w)), (a_past, .inl (cI, 4080, .inl v_past)), (a_images, .inl (cI, 1020, .inl v_images)), (a_text, .inl (cI, 140, .inl v_text)), (a_rowOf, .inl (cI, 120, .inl v_rowOf)), (a_readLetter, .inl (cI, 120, .inl v_readLetter)), (a_readCue, .inl (cI, 120, .inl (upd v_readCue (((v_readWords - (1 : Int32))).toNatClampNeg) (1 : Int32)))), (a_readPassage, .inl (cI, 120, .inl v_readPassage)), (a_held, .inl (cI, 510, .inl v_held))] := hD
          refine lv_goto (tgt := 117) hx hb dX4_readByte_58 (by decide) ?_
          have hF : some (v_wrongKind, v_wrongPlace, v_readWords, v_readPassages, v_readLetter, (upd v_readCue (((v_readWords - (1 : Int32))).toNatClampNeg) (1 : Int32)), v_readPassage) = some (o_wrongKind, o_wrongPlace, o_readWords, o_readPassages, o_readLetter, o_readCue, o_readPassage) := hF
          have hP9 := hP
          have hD9 := hD
          cases hF
          subst hQ
          subst hAe
          exact W.vret hx hb hr (fun t ht hW => ⟨⟨(), rfl, trivial, ⟨by rw [ht]; exact hP9, hD9⟩⟩, hS.F ht⟩) hS.2.2 dX4_readByte_117
  · have hF := (if_neg c_11).symm.trans hF
    refine lv_aload_n hx hb dX4_readByte_14 rfl (lv_at hl 1 rfl) ?_
    refine lv_iload_n hx hb dX4_readByte_15 rfl (lv_at hl 2 rfl) ?_
    obtain ⟨q_16, hq_16, hF⟩ := bindE hF
    obtain ⟨u_16_wrongKind, u_16_wrongPlace, u_16_readWords, u_16_readLetter, u_16_readCue, u_16_readPassage⟩ := q_16
    have hPc := hP
    have hDc := hD
    have hFc := va_free (wc := [(aM, .inr (4, [.ref a_w, .ref a_past, .int v_pastMany, .ref a_images, .int v_filled, .ref a_text, .int v_length, .int v_faultKind, .int v_faultPlace, .ref a_rowOf, .int v_rows, .int v_wrongKind, .int v_wrongPlace, .int v_readWords, .int v_readPassages, .ref a_readLetter, .ref a_readCue, .ref a_readPassage, .ref a_held])), (a_w, .inl (cI, 510, .inl v_w)), (a_past, .inl (cI, 4080, .inl v_past)), (a_images, .inl (cI, 1020, .inl v_images)), (a_text, .inl (cI, 140, .inl v_text)), (a_rowOf, .inl (cI, 120, .inl v_rowOf)), (a_readLetter, .inl (cI, 120, .inl v_readLetter)), (a_readCue, .inl (cI, 120, .inl v_readCue)), (a_readPassage, .inl (cI, 120, .inl v_readPassage)), (a_held, .inl (cI, 510, .inl v_held))]) hD hS hA [0, 1, 2, 3, 4, 5, 6, 7, 8, 9] rfl
    refine va_callv (va_runV (As := [.int p1]) (rest := []) ⟨hx, hb, hml, hown, hts⟩ (c_X4_readWord l dC dI cI cZ cO aM a_w a_past a_images a_text a_rowOf a_readLetter a_readCue a_readPassage a_held H.size p1 v_w v_past v_pastMany v_images v_filled v_text v_length v_faultKind v_faultPlace v_rowOf v_rows v_wrongKind v_wrongPlace v_readWords v_readPassages v_readLetter v_readCue v_readPassage v_held u_16_wrongKind u_16_wrongPlace u_16_readWords u_16_readLetter u_16_readCue u_16_readPassage hq_16) (cwV 1 hts gX4_readByte_X4_readWord rfl rfl rfl (by decide +kernel) ⟨Nat.le_of_ble_eq_true rfl, Nat.le_of_ble_eq_true rfl⟩) ⟨fb_wr, va_recv hK hPc (ci := 4) (q0 := 0) rfl rfl, pre_wr hPc hK hN hDc⟩ rfl rfl hl.1 rfl (lv_room (Nat.le_of_ble_eq_true rfl)) dX4_readByte_16 ⟨Nat.zero_le _, Nat.zero_le _⟩) hS (fun q _ h => hFc q h) hFc (fun _ t H1 locs ht hvm hw hB hz1 hk1 hS => ?_)
    obtain ⟨hP1, hD1⟩ := hB
    rw [ht] at hP1
    obtain ⟨hP, hD⟩ := va_join (wr := []) (w1 := [(aM, .inr (4, [.ref a_w, .ref a_past, .int v_pastMany, .ref a_images, .int v_filled, .ref a_text, .int v_length, .int v_faultKind, .int v_faultPlace, .ref a_rowOf, .int v_rows, .int u_16_wrongKind, .int u_16_wrongPlace, .int u_16_readWords, .int v_readPassages, .ref a_readLetter, .ref a_readCue, .ref a_readPassage, .ref a_held])), (a_w, .inl (cI, 510, .inl v_w)), (a_past, .inl (cI, 4080, .inl v_past)), (a_images, .inl (cI, 1020, .inl v_images)), (a_text, .inl (cI, 140, .inl v_text)), (a_rowOf, .inl (cI, 120, .inl v_rowOf)), (a_readLetter, .inl (cI, 120, .inl u_16_readLetter)), (a_readCue, .inl (cI, 120, .inl u_16_readCue)), (a_readPassage, .inl (cI, 120, .inl u_16_readPassage)), (a_held, .inl (cI, 510, .inl v_held))]) hP hD [0, 1, 2, 3, 4, 5, 6, 7, 8, 9] [] rfl rfl (by decide) (by decide) hk1 hFc hP1 hD1
    generalize H1 = H at hP hS ⊢
    have hP : va_P (dC, dI) vwCl [(aM, .inr (4, [.ref a_w, .ref a_past, .int v_pastMany, .ref a_images, .int v_filled, .ref a_text, .int v_length, .int v_faultKind, .int v_faultPlace, .ref a_rowOf, .int v_rows, .int u_16_wrongKind, .int u_16_wrongPlace, .int u_16_readWords, .int v_readPassages, .ref a_readLetter, .ref a_readCue, .ref a_readPassage, .ref a_held])), (a_w, .inl (cI, 510, .inl v_w)), (a_past, .inl (cI, 4080, .inl v_past)), (a_images, .inl (cI, 1020, .inl v_images)), (a_text, .inl (cI, 140, .inl v_text)), (a_rowOf, .inl (cI, 120, .inl v_rowOf)), (a_readLetter, .inl (cI, 120, .inl u_16_readLetter)), (a_readCue, .inl (cI, 120, .inl u_16_readCue)), (a_readPassage, .inl (cI, 120, .inl u_16_readPassage)), (a_held, .inl (cI, 510, .inl v_held))] H := hP
    have hD : va_D A [(aM, .inr (4, [.ref a_w, .ref a_past, .int v_pastMany, .ref a_images, .int v_filled, .ref a_text, .int v_length, .int v_faultKind, .int v_faultPlace, .ref a_rowOf, .int v_rows, .int u_16_wrongKind, .int u_16_wrongPlace, .int u_16_readWords, .int v_readPassages, .ref a_readLetter, .ref a_readCue, .ref a_readPassage, .ref a_held])), (a_w, .inl (cI, 510, .inl v_w)), (a_past, .inl (cI, 4080, .inl v_past)), (a_images, .inl (cI, 1020, .inl v_images)), (a_text, .inl (cI, 140, .inl v_text)), (a_rowOf, .inl (cI, 120, .inl v_rowOf)), (a_readLetter, .inl (cI, 120, .inl u_16_readLetter)), (a_readCue, .inl (cI, 120, .inl u_16_readCue)), (a_readPassage, .inl (cI, 120, .inl u_16_readPassage)), (a_held, .inl (cI, 510, .inl v_held))] := hD
    refine lv_goto (tgt := 117) hx hb dX4_readByte_19 (by decide) ?_
    have hF : some (u_16_wrongKind, u_16_wrongPlace, u_16_readWords, v_readPassages, u_16_readLetter, u_16_readCue, u_16_readPassage) = some (o_wrongKind, o_wrongPlace, o_readWords, o_readPassages, o_readLetter, o_readCue, o_readPassage) := hF
    have hP9 := hP
    have hD9 := hD
    cases hF
    subst hQ
    subst hAe
    exact W.vret hx hb hr (fun t ht hW => ⟨⟨(), rfl, trivial, ⟨by rw [ht]; exact hP9, hD9⟩⟩, hS.F ht⟩) hS.2.2 dX4_readByte_117
def f_X4_readText_48 (v_length : Int32) (v_wrongKind : Int32) (v_wrongPlace : Int32) (v_readWords : Int32) (v_readPassages : Int32) (v_readLetter : (Nat → Int32)) (v_readCue : (Nat → Int32)) (v_readPassage : (Nat → Int32)) : Option (Int32 × Int32 × Int32 × Int32 × (Nat → Int32) × (Nat → Int32) × (Nat → Int32)) :=
  if v_wrongKind = (-9 : Int32) then
      (f_X4_hasWord v_readWords v_readPassages v_readPassage).bind fun q58 =>
      if q58 = (0 : Int32) then
        (f_X4_fails (5 : Int32) v_length v_wrongKind v_wrongPlace).bind fun q70 =>
        some (q70.1, q70.2, v_readWords, v_readPassages, v_readLetter, v_readCue, v_readPassage)
      else
        some (v_wrongKind, v_wrongPlace, v_readWords, v_readPassages, v_readLetter, v_readCue, v_readPassage)
    else
      some (v_wrongKind, v_wrongPlace, v_readWords, v_readPassages, v_readLetter, v_readCue, v_readPassage)
def f_X4_readText_20 (v_text : (Nat → Int32)) (v_length : Int32) : Nat → Int32 → Int32 → Int32 → Int32 → Int32 → (Nat → Int32) → (Nat → Int32) → (Nat → Int32) → Option (Int32 × Int32 × Int32 × Int32 × (Nat → Int32) × (Nat → Int32) × (Nat → Int32))
  | 0, _, _, _, _, _, _, _, _ => none
  | n + 1, x1, v_wrongKind, v_wrongPlace, v_readWords, v_readPassages, v_readLetter, v_readCue, v_readPassage =>
    if v_length ≤ x1 then
      f_X4_readText_48 v_length v_wrongKind v_wrongPlace v_readWords v_readPassages v_readLetter v_readCue v_readPassage
    else
      if v_wrongKind = (-9 : Int32) then
        (f_X4_readByte x1 v_text v_wrongKind v_wrongPlace v_readWords v_readPassages v_readLetter v_readCue v_readPassage).bind fun q39 =>
        f_X4_readText_20 v_text v_length n (x1 + 1) q39.1 q39.2.1 q39.2.2.1 q39.2.2.2.1 q39.2.2.2.2.1 q39.2.2.2.2.2.1 q39.2.2.2.2.2.2
      else
        f_X4_readText_48 v_length v_wrongKind v_wrongPlace v_readWords v_readPassages v_readLetter v_readCue v_readPassage
def f_X4_readText (v_text : (Nat → Int32)) (v_length : Int32) (v_wrongKind : Int32) (v_wrongPlace : Int32) (v_readWords : Int32) (v_readPassages : Int32) (v_readLetter : (Nat → Int32)) (v_readCue : (Nat → Int32)) (v_readPassage : (Nat → Int32)) : Option (Int32 × Int32 × Int32 × Int32 × (Nat → Int32) × (Nat → Int32) × (Nat → Int32)) :=
  (f_X4_fails (-9 : Int32) (-9 : Int32) v_wrongKind v_wrongPlace).bind fun q15 =>
  f_X4_readText_20 v_text v_length gas (0 : Int32) q15.1 q15.2 (0 : Int32) (0 : Int32) v_readLetter v_readCue v_readPassage
def rm_X4_readText : Room := { frames := 3, cells := 0, slots := 0, locals := 65 }
set_option maxHeartbeats 4000000 in
set_option maxRecDepth 100000 in
theorem c_X4_readText (l : Launch) (dC : Nat → ClassId) (dI : Nat → Nat → Nat) (cI cZ cO : ClassId) (aM a_w a_past a_images a_text a_rowOf a_readLetter a_readCue a_readPassage a_held : Nat) (sz : Nat) (v_w : (Nat → Int32)) (v_past : (Nat → Int32)) (v_pastMany : Int32) (v_images : (Nat → Int32)) (v_filled : Int32) (v_text : (Nat → Int32)) (v_length : Int32) (v_faultKind : Int32) (v_faultPlace : Int32) (v_rowOf : (Nat → Int32)) (v_rows : Int32) (v_wrongKind : Int32) (v_wrongPlace : Int32) (v_readWords : Int32) (v_readPassages : Int32) (v_readLetter : (Nat → Int32)) (v_readCue : (Nat → Int32)) (v_readPassage : (Nat → Int32)) (v_held : (Nat → Int32)) (o_wrongKind : Int32) (o_wrongPlace : Int32) (o_readWords : Int32) (o_readPassages : Int32) (o_readLetter : (Nat → Int32)) (o_readCue : (Nat → Int32)) (o_readPassage : (Nat → Int32)) (hF : f_X4_readText v_text v_length v_wrongKind v_wrongPlace v_readWords v_readPassages v_readLetter v_readCue v_readPassage = some (o_wrongKind, o_wrongPlace, o_readWords, o_readPassages, o_readLetter, o_readCue, o_readPassage)) : Met l yX4_readText wsX4_readText rm_X4_readText (va_Pc [.ref aM] (wrW dC dI cI cZ cO sz [(aM, .inr (4, [.ref a_w, .ref a_past, .int v_pastMany, .ref a_images, .int v_filled, .ref a_text, .int v_length, .int v_faultKind, .int v_faultPlace, .ref a_rowOf, .int v_rows, .int v_wrongKind, .int v_wrongPlace, .int v_readWords, .int v_readPassages, .ref a_readLetter, .ref a_readCue, .ref a_readPassage, .ref a_held])), (a_w, .inl (cI, 510, .inl v_w)), (a_past, .inl (cI, 4080, .inl v_past)), (a_images, .inl (cI, 1020, .inl v_images)), (a_text, .inl (cI, 140, .inl v_text)), (a_rowOf, .inl (cI, 120, .inl v_rowOf)), (a_readLetter, .inl (cI, 120, .inl v_readLetter)), (a_readCue, .inl (cI, 120, .inl v_readCue)), (a_readPassage, .inl (cI, 120, .inl v_readPassage)), (a_held, .inl (cI, 510, .inl v_held))])) (va_Qv (fun (_ : Unit) => True) (wrE dC dI [(aM, .inr (4, [.ref a_w, .ref a_past, .int v_pastMany, .ref a_images, .int v_filled, .ref a_text, .int v_length, .int v_faultKind, .int v_faultPlace, .ref a_rowOf, .int v_rows, .int v_wrongKind, .int v_wrongPlace, .int v_readWords, .int v_readPassages, .ref a_readLetter, .ref a_readCue, .ref a_readPassage, .ref a_held])), (a_w, .inl (cI, 510, .inl v_w)), (a_past, .inl (cI, 4080, .inl v_past)), (a_images, .inl (cI, 1020, .inl v_images)), (a_text, .inl (cI, 140, .inl v_text)), (a_rowOf, .inl (cI, 120, .inl v_rowOf)), (a_readLetter, .inl (cI, 120, .inl v_readLetter)), (a_readCue, .inl (cI, 120, .inl v_readCue)), (a_readPassage, .inl (cI, 120, .inl v_readPassage)), (a_held, .inl (cI, 510, .inl v_held))] sz [(aM, .inr (4, [.ref a_w, .ref a_past, .int v_pastMany, .ref a_images, .int v_filled, .ref a_text, .int v_length, .int v_faultKind, .int v_faultPlace, .ref a_rowOf, .int v_rows, .int o_wrongKind, .int o_wrongPlace, .int o_readWords, .int o_readPassages, .ref a_readLetter, .ref a_readCue, .ref a_readPassage, .ref a_held])), (a_w, .inl (cI, 510, .inl v_w)), (a_past, .inl (cI, 4080, .inl v_past)), (a_images, .inl (cI, 1020, .inl v_images)), (a_text, .inl (cI, 140, .inl v_text)), (a_rowOf, .inl (cI, 120, .inl v_rowOf)), (a_readLetter, .inl (cI, 120, .inl o_readLetter)), (a_readCue, .inl (cI, 120, .inl o_readCue)), (a_readPassage, .inl (cI, 120, .inl o_readPassage)), (a_held, .inl (cI, 510, .inl v_held))]) (va_A [(aM, .inr (4, [.ref a_w, .ref a_past, .int v_pastMany, .ref a_images, .int v_filled, .ref a_text, .int v_length, .int v_faultKind, .int v_faultPlace, .ref a_rowOf, .int v_rows, .int v_wrongKind, .int v_wrongPlace, .int v_readWords, .int v_readPassages, .ref a_readLetter, .ref a_readCue, .ref a_readPassage, .ref a_held])), (a_w, .inl (cI, 510, .inl v_w)), (a_past, .inl (cI, 4080, .inl v_past)), (a_images, .inl (cI, 1020, .inl v_images)), (a_text, .inl (cI, 140, .inl v_text)), (a_rowOf, .inl (cI, 120, .inl v_rowOf)), (a_readLetter, .inl (cI, 120, .inl v_readLetter)), (a_readCue, .inl (cI, 120, .inl v_readCue)), (a_readPassage, .inl (cI, 120, .inl v_readPassage)), (a_held, .inl (cI, 510, .inl v_held))] sz)) 0 0 (va_A [(aM, .inr (4, [.ref a_w, .ref a_past, .int v_pastMany, .ref a_images, .int v_filled, .ref a_text, .int v_length, .int v_faultKind, .int v_faultPlace, .ref a_rowOf, .int v_rows, .int v_wrongKind, .int v_wrongPlace, .int v_readWords, .int v_readPassages, .ref a_readLetter, .ref a_readCue, .ref a_readPassage, .ref a_held])), (a_w, .inl (cI, 510, .inl v_w)), (a_past, .inl (cI, 4080, .inl v_past)), (a_images, .inl (cI, 1020, .inl v_images)), (a_text, .inl (cI, 140, .inl v_text)), (a_rowOf, .inl (cI, 120, .inl v_rowOf)), (a_readLetter, .inl (cI, 120, .inl v_readLetter)), (a_readCue, .inl (cI, 120, .inl v_readCue)), (a_readPassage, .inl (cI, 120, .inl v_readPassage)), (a_held, .inl (cI, 510, .inl v_held))] sz) := by
  refine Met.ofW (cc := cX4_readText) (maxL := 2) (ret := none) (by decide) rfl ?_
  intro p e s m args below meth c s₁ B hml hv
  obtain ⟨rfl, hsz, hP, hK, hN, hD0⟩ := hv
  have hx := B.exec
  have hb := B.bytes
  have hr := B.returns
  have hts := atoms_spec (ws := wsX4_readText) B.pre
  have hown : s.vm.findClass RX4 = some m.cls := findClass_of_methodNamed B.named
  have hlocks := B.notSynchronized
  subst hsz
  have hD := hD0.self (sz := s.heap.size)
  obtain ⟨Q, hQ⟩ : ∃ Q, Q = MQ below (va_Qv (fun (_ : Unit) => True) (wrE dC dI [(aM, .inr (4, [.ref a_w, .ref a_past, .int v_pastMany, .ref a_images, .int v_filled, .ref a_text, .int v_length, .int v_faultKind, .int v_faultPlace, .ref a_rowOf, .int v_rows, .int v_wrongKind, .int v_wrongPlace, .int v_readWords, .int v_readPassages, .ref a_readLetter, .ref a_readCue, .ref a_readPassage, .ref a_held])), (a_w, .inl (cI, 510, .inl v_w)), (a_past, .inl (cI, 4080, .inl v_past)), (a_images, .inl (cI, 1020, .inl v_images)), (a_text, .inl (cI, 140, .inl v_text)), (a_rowOf, .inl (cI, 120, .inl v_rowOf)), (a_readLetter, .inl (cI, 120, .inl v_readLetter)), (a_readCue, .inl (cI, 120, .inl v_readCue)), (a_readPassage, .inl (cI, 120, .inl v_readPassage)), (a_held, .inl (cI, 510, .inl v_held))] s.heap.size [(aM, .inr (4, [.ref a_w, .ref a_past, .int v_pastMany, .ref a_images, .int v_filled, .ref a_text, .int v_length, .int v_faultKind, .int v_faultPlace, .ref a_rowOf, .int v_rows, .int o_wrongKind, .int o_wrongPlace, .int o_readWords, .int o_readPassages, .ref a_readLetter, .ref a_readCue, .ref a_readPassage, .ref a_held])), (a_w, .inl (cI, 510, .inl v_w)), (a_past, .inl (cI, 4080, .inl v_past)), (a_images, .inl (cI, 1020, .inl v_images)), (a_text, .inl (cI, 140, .inl v_text)), (a_rowOf, .inl (cI, 120, .inl v_rowOf)), (a_readLetter, .inl (cI, 120, .inl o_readLetter)), (a_readCue, .inl (cI, 120, .inl o_readCue)), (a_readPassage, .inl (cI, 120, .inl o_readPassage)), (a_held, .inl (cI, 510, .inl v_held))]) (va_A [(aM, .inr (4, [.ref a_w, .ref a_past, .int v_pastMany, .ref a_images, .int v_filled, .ref a_text, .int v_length, .int v_faultKind, .int v_faultPlace, .ref a_rowOf, .int v_rows, .int v_wrongKind, .int v_wrongPlace, .int v_readWords, .int v_readPassages, .ref a_readLetter, .ref a_readCue, .ref a_readPassage, .ref a_held])), (a_w, .inl (cI, 510, .inl v_w)), (a_past, .inl (cI, 4080, .inl v_past)), (a_images, .inl (cI, 1020, .inl v_images)), (a_text, .inl (cI, 140, .inl v_text)), (a_rowOf, .inl (cI, 120, .inl v_rowOf)), (a_readLetter, .inl (cI, 120, .inl v_readLetter)), (a_readCue, .inl (cI, 120, .inl v_readCue)), (a_readPassage, .inl (cI, 120, .inl v_readPassage)), (a_held, .inl (cI, 510, .inl v_held))] s.heap.size)) ([.ref aM] : List Value).toArray s 0 0 (va_A [(aM, .inr (4, [.ref a_w, .ref a_past, .int v_pastMany, .ref a_images, .int v_filled, .ref a_text, .int v_length, .int v_faultKind, .int v_faultPlace, .ref a_rowOf, .int v_rows, .int v_wrongKind, .int v_wrongPlace, .int v_readWords, .int v_readPassages, .ref a_readLetter, .ref a_readCue, .ref a_readPassage, .ref a_held])), (a_w, .inl (cI, 510, .inl v_w)), (a_past, .inl (cI, 4080, .inl v_past)), (a_images, .inl (cI, 1020, .inl v_images)), (a_text, .inl (cI, 140, .inl v_text)), (a_rowOf, .inl (cI, 120, .inl v_rowOf)), (a_readLetter, .inl (cI, 120, .inl v_readLetter)), (a_readCue, .inl (cI, 120, .inl v_readCue)), (a_readPassage, .inl (cI, 120, .inl v_readPassage)), (a_held, .inl (cI, 510, .inl v_held))] s.heap.size) := ⟨_, rfl⟩
  rw [← hQ]
  obtain ⟨A, hAe⟩ : ∃ A, A = va_A [(aM, .inr (4, [.ref a_w, .ref a_past, .int v_pastMany, .ref a_images, .int v_filled, .ref a_text, .int v_length, .int v_faultKind, .int v_faultPlace, .ref a_rowOf, .int v_rows, .int v_wrongKind, .int v_wrongPlace, .int v_readWords, .int v_readPassages, .ref a_readLetter, .ref a_readCue, .ref a_readPassage, .ref a_held])), (a_w, .inl (cI, 510, .inl v_w)), (a_past, .inl (cI, 4080, .inl v_past)), (a_images, .inl (cI, 1020, .inl v_images)), (a_text, .inl (cI, 140, .inl v_text)), (a_rowOf, .inl (cI, 120, .inl v_rowOf)), (a_readLetter, .inl (cI, 120, .inl v_readLetter)), (a_readCue, .inl (cI, 120, .inl v_readCue)), (a_readPassage, .inl (cI, 120, .inl v_readPassage)), (a_held, .inl (cI, 510, .inl v_held))] s.heap.size := ⟨_, rfl⟩
  rw [← hAe] at hD
  have hA : ∀ q : Nat, s.heap.size ≤ q → A q := fun q h => by rw [hAe]; exact Or.inr h
  obtain ⟨H, hH⟩ : ∃ H, H = s.heap := ⟨_, rfl⟩
  have hS : va_S A s.heap H [] := by rw [hH]; exact va_S.rf
  rw [← hH] at hP
  rw [← hH]
  have fl100 := hts (.fieldLink RX4 100 "TeleprompterModel" "wrongKind" "I") (by decide +kernel)
  have fl126 := hts (.fieldLink RX4 126 "TeleprompterModel" "length" "I") (by decide +kernel)
  have fl106 := hts (.fieldLink RX4 106 "TeleprompterModel" "readWords" "I") (by decide +kernel)
  have fl113 := hts (.fieldLink RX4 113 "TeleprompterModel" "readPassages" "I") (by decide +kernel)
  have inX4 : ∀ w ∈ u_ws RX4 TX4 19, w ∈ wsX4_readText := by decide +kernel
  have hl := lv_entry ([.ref aM]) (n := 2) (Nat.le_of_ble_eq_true rfl)
  rw [lg_entry_eq]
  generalize (lg_sl ([.ref aM]) ++ List.replicate (2 - (lg_sl ([.ref aM])).length) Slot.unset).toArray = ls at hl ⊢
  have hl : lv_has ls 2 [(0, .ref aM)] := hl
  have B48 : ∀ (v_wrongKind_48 : Int32) (v_wrongPlace_48 : Int32) (v_readWords_48 : Int32) (v_readPassages_48 : Int32) (v_readLetter_48 : (Nat → Int32)) (v_readCue_48 : (Nat → Int32)) (v_readPassage_48 : (Nat → Int32)), f_X4_readText_48 v_length v_wrongKind_48 v_wrongPlace_48 v_readWords_48 v_readPassages_48 v_readLetter_48 v_readCue_48 v_readPassage_48 = some (o_wrongKind, o_wrongPlace, o_readWords, o_readPassages, o_readLetter, o_readCue, o_readPassage) → ∀ (H : Heap) (locs : List Loc), va_P (dC, dI) vwCl [(aM, .inr (4, [.ref a_w, .ref a_past, .int v_pastMany, .ref a_images, .int v_filled, .ref a_text, .int v_length, .int v_faultKind, .int v_faultPlace, .ref a_rowOf, .int v_rows, .int v_wrongKind_48, .int v_wrongPlace_48, .int v_readWords_48, .int v_readPassages_48, .ref a_readLetter, .ref a_readCue, .ref a_readPassage, .ref a_held])), (a_w, .inl (cI, 510, .inl v_w)), (a_past, .inl (cI, 4080, .inl v_past)), (a_images, .inl (cI, 1020, .inl v_images)), (a_text, .inl (cI, 140, .inl v_text)), (a_rowOf, .inl (cI, 120, .inl v_rowOf)), (a_readLetter, .inl (cI, 120, .inl v_readLetter_48)), (a_readCue, .inl (cI, 120, .inl v_readCue_48)), (a_readPassage, .inl (cI, 120, .inl v_readPassage_48)), (a_held, .inl (cI, 510, .inl v_held))] H → va_D A [(aM, .inr (4, [.ref a_w, .ref a_past, .int v_pastMany, .ref a_images, .int v_filled, .ref a_text, .int v_length, .int v_faultKind, .int v_faultPlace, .ref a_rowOf, .int v_rows, .int v_wrongKind_48, .int v_wrongPlace_48, .int v_readWords_48, .int v_readPassages_48, .ref a_readLetter, .ref a_readCue, .ref a_readPassage, .ref a_held])), (a_w, .inl (cI, 510, .inl v_w)), (a_past, .inl (cI, 4080, .inl v_past)), (a_images, .inl (cI, 1020, .inl v_images)), (a_text, .inl (cI, 140, .inl v_text)), (a_rowOf, .inl (cI, 120, .inl v_rowOf)), (a_readLetter, .inl (cI, 120, .inl v_readLetter_48)), (a_readCue, .inl (cI, 120, .inl v_readCue_48)), (a_readPassage, .inl (cI, 120, .inl v_readPassage_48)), (a_held, .inl (cI, 510, .inl v_held))] → va_S A s.heap H locs → ∀ ls : Array Slot, lv_has ls 2 [(0, .ref aM)] → W p l e (headSpec wsX4_readText rm_X4_readText).room s m ([.ref aM] : List Value).toArray below meth c H locs 0 0 Q (F0 m 48 ls []) := by
    intro v_wrongKind_48 v_wrongPlace_48 v_readWords_48 v_readPassages_48 v_readLetter_48 v_readCue_48 v_readPassage_48 hF H locs hP hD hS ls hl
    unfold f_X4_readText_48 at hF
    refine lv_aload_n hx hb dX4_readText_48 rfl (lv_at hl 0 rfl) ?_
    refine va_get (D := (dC, dI)) (ci := 4) (v := .int v_wrongKind_48) (C := RX4) (T := TX4) (N := 19) hx hb hts inX4 hown hK hP 0 rfl rfl 11 (by decide) fl100 (fun _ h9 => h9) rfl dX4_readText_49 ?_
    refine lv_bipush (v := (-9 : Int32)) hx hb dX4_readText_52 (by decide) ?_
    refine lv_icmp_ne (tgt := 73) hx hb dX4_readText_54 (by decide) (fun c_54 => ?_) (fun c_54 => ?_)
    · have hF := (if_neg c_54).symm.trans hF
      have hF : some (v_wrongKind_48, v_wrongPlace_48, v_readWords_48, v_readPassages_48, v_readLetter_48, v_readCue_48, v_readPassage_48) = some (o_wrongKind, o_wrongPlace, o_readWords, o_readPassages, o_readLetter, o_readCue, o_readPassage) := hF
      have hP9 := hP
      have hD9 := hD
      cases hF
      subst hQ
      subst hAe
      exact W.vret hx hb hr (fun t ht hW => ⟨⟨(), rfl, trivial, ⟨by rw [ht]; exact hP9, hD9⟩⟩, hS.F ht⟩) hS.2.2 dX4_readText_73
    · have hF := (if_pos c_54).symm.trans hF
      refine lv_aload_n hx hb dX4_readText_57 rfl (lv_at hl 0 rfl) ?_
      obtain ⟨q_58, hq_58, hF⟩ := bindE hF
      have hPc := hP
      refine vp_callSi (va_Run.run (va_runV (As := []) (rest := []) ⟨hx, hb, hml, hown, hts⟩ (c_X4_hasWord l dC dI cI cZ cO aM a_w a_past a_images a_text a_rowOf a_readLetter a_readCue a_readPassage a_held v_w v_past v_pastMany v_images v_filled v_text v_length v_faultKind v_faultPlace v_rowOf v_rows v_wrongKind_48 v_wrongPlace_48 v_readWords_48 v_readPassages_48 v_readLetter_48 v_readCue_48 v_readPassage_48 v_held q_58 hq_58) (cwV 0 hts gX4_readText_X4_hasWord rfl rfl rfl (by decide +kernel) ⟨Nat.le_of_ble_eq_true rfl, Nat.le_of_ble_eq_true rfl⟩) ⟨fb_rd, va_recv hK hPc (ci := 4) (q0 := 0) rfl rfl, pre_rd hPc hK hN⟩ rfl rfl hl.1 rfl (lv_room (Nat.le_of_ble_eq_true rfl)) dX4_readText_58 ⟨Nat.zero_le _, Nat.zero_le _⟩)) (fun z_58 hz_58 => ?_)
      subst hz_58
      refine lv_if_ne (tgt := 73) hx hb dX4_readText_61 (by decide) (fun c_61 => ?_) (fun c_61 => ?_)
      · have hF := (if_neg c_61).symm.trans hF
        have hF : some (v_wrongKind_48, v_wrongPlace_48, v_readWords_48, v_readPassages_48, v_readLetter_48, v_readCue_48, v_readPassage_48) = some (o_wrongKind, o_wrongPlace, o_readWords, o_readPassages, o_readLetter, o_readCue, o_readPassage) := hF
        have hP9 := hP
        have hD9 := hD
        cases hF
        subst hQ
        subst hAe
        exact W.vret hx hb hr (fun t ht hW => ⟨⟨(), rfl, trivial, ⟨by rw [ht]; exact hP9, hD9⟩⟩, hS.F ht⟩) hS.2.2 dX4_readText_73
      · have hF := (if_pos c_61).symm.trans hF
        refine lv_aload_n hx hb dX4_readText_64 rfl (lv_at hl 0 rfl) ?_
        refine lv_iconst (v := (5 : Int32)) hx hb dX4_readText_65 (by decide) ?_
        refine lv_aload_n hx hb dX4_readText_66 rfl (lv_at hl 0 rfl) ?_
        refine va_get (D := (dC, dI)) (ci := 4) (v := .int v_length) (C := RX4) (T := TX4) (N := 19) hx hb hts inX4 hown hK hP 0 rfl rfl 6 (by decide) fl126 (fun _ h9 => h9) rfl dX4_readText_67 ?_
        obtain ⟨q_70, hq_70, hF⟩ := bindE hF
        obtain ⟨u_70_wrongKind, u_70_wrongPlace⟩ := q_70
        have hPc := hP
        have hDc := hD
        have hFc := va_free (wc := [(aM, .inr (4, [.ref a_w, .ref a_past, .int v_pastMany, .ref a_images, .int v_filled, .ref a_text, .int v_length, .int v_faultKind, .int v_faultPlace, .ref a_rowOf, .int v_rows, .int v_wrongKind_48, .int v_wrongPlace_48, .int v_readWords_48, .int v_readPassages_48, .ref a_readLetter, .ref a_readCue, .ref a_readPassage, .ref a_held])), (a_w, .inl (cI, 510, .inl v_w)), (a_past, .inl (cI, 4080, .inl v_past)), (a_images, .inl (cI, 1020, .inl v_images)), (a_text, .inl (cI, 140, .inl v_text)), (a_rowOf, .inl (cI, 120, .inl v_rowOf)), (a_readLetter, .inl (cI, 120, .inl v_readLetter_48)), (a_readCue, .inl (cI, 120, .inl v_readCue_48)), (a_readPassage, .inl (cI, 120, .inl v_readPassage_48)), (a_held, .inl (cI, 510, .inl v_held))]) hD hS hA [0, 1, 2, 3, 4, 5, 6, 7, 8, 9] rfl
        refine va_callv (va_runV (As := [.int (5 : Int32), .int v_length]) (rest := []) ⟨hx, hb, hml, hown, hts⟩ (c_X4_fails l dC dI cI cZ cO aM a_w a_past a_images a_text a_rowOf a_readLetter a_readCue a_readPassage a_held H.size (5 : Int32) v_length v_w v_past v_pastMany v_images v_filled v_text v_length v_faultKind v_faultPlace v_rowOf v_rows v_wrongKind_48 v_wrongPlace_48 v_readWords_48 v_readPassages_48 v_readLetter_48 v_readCue_48 v_readPassage_48 v_held u_70_wrongKind u_70_wrongPlace hq_70) (cwV 2 hts gX4_readText_X4_fails rfl rfl rfl (by decide +kernel) ⟨Nat.le_of_ble_eq_true rfl, Nat.le_of_ble_eq_true rfl⟩) ⟨fb_wr, va_recv hK hPc (ci := 4) (q0 := 0) rfl rfl, pre_wr hPc hK hN hDc⟩ rfl rfl hl.1 rfl (lv_room (Nat.le_of_ble_eq_true rfl)) dX4_readText_70 ⟨Nat.zero_le _, Nat.zero_le _⟩) hS (fun q _ h => hFc q h) hFc (fun _ t H1 locs ht hvm hw hB hz1 hk1 hS => ?_)
        obtain ⟨hP1, hD1⟩ := hB
        rw [ht] at hP1
        obtain ⟨hP, hD⟩ := va_join (wr := []) (w1 := [(aM, .inr (4, [.ref a_w, .ref a_past, .int v_pastMany, .ref a_images, .int v_filled, .ref a_text, .int v_length, .int v_faultKind, .int v_faultPlace, .ref a_rowOf, .int v_rows, .int u_70_wrongKind, .int u_70_wrongPlace, .int v_readWords_48, .int v_readPassages_48, .ref a_readLetter, .ref a_readCue, .ref a_readPassage, .ref a_held])), (a_w, .inl (cI, 510, .inl v_w)), (a_past, .inl (cI, 4080, .inl v_past)), (a_images, .inl (cI, 1020, .inl v_images)), (a_text, .inl (cI, 140, .inl v_text)), (a_rowOf, .inl (cI, 120, .inl v_rowOf)), (a_readLetter, .inl (cI, 120, .inl v_readLetter_48)), (a_readCue, .inl (cI, 120, .inl v_readCue_48)), (a_readPassage, .inl (cI, 120, .inl v_readPassage_48)), (a_held, .inl (cI, 510, .inl v_held))]) hP hD [0, 1, 2, 3, 4, 5, 6, 7, 8, 9] [] rfl rfl (by decide) (by decide) hk1 hFc hP1 hD1
        generalize H1 = H at hP hS ⊢
        have hP : va_P (dC, dI) vwCl [(aM, .inr (4, [.ref a_w, .ref a_past, .int v_pastMany, .ref a_images, .int v_filled, .ref a_text, .int v_length, .int v_faultKind, .int v_faultPlace, .ref a_rowOf, .int v_rows, .int u_70_wrongKind, .int u_70_wrongPlace, .int v_readWords_48, .int v_readPassages_48, .ref a_readLetter, .ref a_readCue, .ref a_readPassage, .ref a_held])), (a_w, .inl (cI, 510, .inl v_w)), (a_past, .inl (cI, 4080, .inl v_past)), (a_images, .inl (cI, 1020, .inl v_images)), (a_text, .inl (cI, 140, .inl v_text)), (a_rowOf, .inl (cI, 120, .inl v_rowOf)), (a_readLetter, .inl (cI, 120, .inl v_readLetter_48)), (a_readCue, .inl (cI, 120, .inl v_readCue_48)), (a_readPassage, .inl (cI, 120, .inl v_readPassage_48)), (a_held, .inl (cI, 510, .inl v_held))] H := hP
        have hD : va_D A [(aM, .inr (4, [.ref a_w, .ref a_past, .int v_pastMany, .ref a_images, .int v_filled, .ref a_text, .int v_length, .int v_faultKind, .int v_faultPlace, .ref a_rowOf, .int v_rows, .int u_70_wrongKind, .int u_70_wrongPlace, .int v_readWords_48, .int v_readPassages_48, .ref a_readLetter, .ref a_readCue, .ref a_readPassage, .ref a_held])), (a_w, .inl (cI, 510, .inl v_w)), (a_past, .inl (cI, 4080, .inl v_past)), (a_images, .inl (cI, 1020, .inl v_images)), (a_text, .inl (cI, 140, .inl v_text)), (a_rowOf, .inl (cI, 120, .inl v_rowOf)), (a_readLetter, .inl (cI, 120, .inl v_readLetter_48)), (a_readCue, .inl (cI, 120, .inl v_readCue_48)), (a_readPassage, .inl (cI, 120, .inl v_readPassage_48)), (a_held, .inl (cI, 510, .inl v_held))] := hD
        have hF : some (u_70_wrongKind, u_70_wrongPlace, v_readWords_48, v_readPassages_48, v_readLetter_48, v_readCue_48, v_readPassage_48) = some (o_wrongKind, o_wrongPlace, o_readWords, o_readPassages, o_readLetter, o_readCue, o_readPassage) := hF
        have hP9 := hP
        have hD9 := hD
        cases hF
        subst hQ
        subst hAe
        exact W.vret hx hb hr (fun t ht hW => ⟨⟨(), rfl, trivial, ⟨by rw [ht]; exact hP9, hD9⟩⟩, hS.F ht⟩) hS.2.2 dX4_readText_73
  have B20 : ∀ (n_20 : Nat) (x1_20 : Int32) (v_wrongKind_20 : Int32) (v_wrongPlace_20 : Int32) (v_readWords_20 : Int32) (v_readPassages_20 : Int32) (v_readLetter_20 : (Nat → Int32)) (v_readCue_20 : (Nat → Int32)) (v_readPassage_20 : (Nat → Int32)), f_X4_readText_20 v_text v_length n_20 x1_20 v_wrongKind_20 v_wrongPlace_20 v_readWords_20 v_readPassages_20 v_readLetter_20 v_readCue_20 v_readPassage_20 = some (o_wrongKind, o_wrongPlace, o_readWords, o_readPassages, o_readLetter, o_readCue, o_readPassage) → ∀ (H : Heap) (locs : List Loc), va_P (dC, dI) vwCl [(aM, .inr (4, [.ref a_w, .ref a_past, .int v_pastMany, .ref a_images, .int v_filled, .ref a_text, .int v_length, .int v_faultKind, .int v_faultPlace, .ref a_rowOf, .int v_rows, .int v_wrongKind_20, .int v_wrongPlace_20, .int v_readWords_20, .int v_readPassages_20, .ref a_readLetter, .ref a_readCue, .ref a_readPassage, .ref a_held])), (a_w, .inl (cI, 510, .inl v_w)), (a_past, .inl (cI, 4080, .inl v_past)), (a_images, .inl (cI, 1020, .inl v_images)), (a_text, .inl (cI, 140, .inl v_text)), (a_rowOf, .inl (cI, 120, .inl v_rowOf)), (a_readLetter, .inl (cI, 120, .inl v_readLetter_20)), (a_readCue, .inl (cI, 120, .inl v_readCue_20)), (a_readPassage, .inl (cI, 120, .inl v_readPassage_20)), (a_held, .inl (cI, 510, .inl v_held))] H → va_D A [(aM, .inr (4, [.ref a_w, .ref a_past, .int v_pastMany, .ref a_images, .int v_filled, .ref a_text, .int v_length, .int v_faultKind, .int v_faultPlace, .ref a_rowOf, .int v_rows, .int v_wrongKind_20, .int v_wrongPlace_20, .int v_readWords_20, .int v_readPassages_20, .ref a_readLetter, .ref a_readCue, .ref a_readPassage, .ref a_held])), (a_w, .inl (cI, 510, .inl v_w)), (a_past, .inl (cI, 4080, .inl v_past)), (a_images, .inl (cI, 1020, .inl v_images)), (a_text, .inl (cI, 140, .inl v_text)), (a_rowOf, .inl (cI, 120, .inl v_rowOf)), (a_readLetter, .inl (cI, 120, .inl v_readLetter_20)), (a_readCue, .inl (cI, 120, .inl v_readCue_20)), (a_readPassage, .inl (cI, 120, .inl v_readPassage_20)), (a_held, .inl (cI, 510, .inl v_held))] → va_S A s.heap H locs → ∀ ls : Array Slot, lv_has ls 2 [(0, .ref aM), (1, .int x1_20)] → W p l e (headSpec wsX4_readText rm_X4_readText).room s m ([.ref aM] : List Value).toArray below meth c H locs 0 0 Q (F0 m 20 ls []) := by
    intro n_20
    induction n_20 with
    | zero => intro x1_20 v_wrongKind_20 v_wrongPlace_20 v_readWords_20 v_readPassages_20 v_readLetter_20 v_readCue_20 v_readPassage_20 hF; exact noneE hF
    | succ n_20 ih20 =>
      intro x1_20 v_wrongKind_20 v_wrongPlace_20 v_readWords_20 v_readPassages_20 v_readLetter_20 v_readCue_20 v_readPassage_20 hF H locs hP hD hS ls hl
      rw [f_X4_readText_20] at hF
      refine lv_iload_n hx hb dX4_readText_20 rfl (lv_at hl 1 rfl) ?_
      refine lv_aload_n hx hb dX4_readText_21 rfl (lv_at hl 0 rfl) ?_
      refine va_get (D := (dC, dI)) (ci := 4) (v := .int v_length) (C := RX4) (T := TX4) (N := 19) hx hb hts inX4 hown hK hP 0 rfl rfl 6 (by decide) fl126 (fun _ h9 => h9) rfl dX4_readText_22 ?_
      refine lv_icmp_ge (tgt := 48) hx hb dX4_readText_25 (by decide) (fun c_25 => ?_) (fun c_25 => ?_)
      · have hF := (if_pos c_25).symm.trans hF
        exact B48 v_wrongKind_20 v_wrongPlace_20 v_readWords_20 v_readPassages_20 v_readLetter_20 v_readCue_20 v_readPassage_20 hF _ _ hP hD hS _ (lv_sub hl [0] rfl)
      · have hF := (if_neg c_25).symm.trans hF
        refine lv_aload_n hx hb dX4_readText_28 rfl (lv_at hl 0 rfl) ?_
        refine va_get (D := (dC, dI)) (ci := 4) (v := .int v_wrongKind_20) (C := RX4) (T := TX4) (N := 19) hx hb hts inX4 hown hK hP 0 rfl rfl 11 (by decide) fl100 (fun _ h9 => h9) rfl dX4_readText_29 ?_
        refine lv_bipush (v := (-9 : Int32)) hx hb dX4_readText_32 (by decide) ?_
        refine lv_icmp_ne (tgt := 48) hx hb dX4_readText_34 (by decide) (fun c_34 => ?_) (fun c_34 => ?_)
        · have hF := (if_neg c_34).symm.trans hF
          exact B48 v_wrongKind_20 v_wrongPlace_20 v_readWords_20 v_readPassages_20 v_readLetter_20 v_readCue_20 v_readPassage_20 hF _ _ hP hD hS _ (lv_sub hl [0] rfl)
        · have hF := (if_pos c_34).symm.trans hF
          refine lv_aload_n hx hb dX4_readText_37 rfl (lv_at hl 0 rfl) ?_
          refine lv_iload_n hx hb dX4_readText_38 rfl (lv_at hl 1 rfl) ?_
          obtain ⟨q_39, hq_39, hF⟩ := bindE hF
          obtain ⟨u_39_wrongKind, u_39_wrongPlace, u_39_readWords, u_39_readPassages, u_39_readLetter, u_39_readCue, u_39_readPassage⟩ := q_39
          have hPc := hP
          have hDc := hD
          have hFc := va_free (wc := [(aM, .inr (4, [.ref a_w, .ref a_past, .int v_pastMany, .ref a_images, .int v_filled, .ref a_text, .int v_length, .int v_faultKind, .int v_faultPlace, .ref a_rowOf, .int v_rows, .int v_wrongKind_20, .int v_wrongPlace_20, .int v_readWords_20, .int v_readPassages_20, .ref a_readLetter, .ref a_readCue, .ref a_readPassage, .ref a_held])), (a_w, .inl (cI, 510, .inl v_w)), (a_past, .inl (cI, 4080, .inl v_past)), (a_images, .inl (cI, 1020, .inl v_images)), (a_text, .inl (cI, 140, .inl v_text)), (a_rowOf, .inl (cI, 120, .inl v_rowOf)), (a_readLetter, .inl (cI, 120, .inl v_readLetter_20)), (a_readCue, .inl (cI, 120, .inl v_readCue_20)), (a_readPassage, .inl (cI, 120, .inl v_readPassage_20)), (a_held, .inl (cI, 510, .inl v_held))]) hD hS hA [0, 1, 2, 3, 4, 5, 6, 7, 8, 9] rfl
          refine va_callv (va_runV (As := [.int x1_20]) (rest := []) ⟨hx, hb, hml, hown, hts⟩ (c_X4_readByte l dC dI cI cZ cO aM a_w a_past a_images a_text a_rowOf a_readLetter a_readCue a_readPassage a_held H.size x1_20 v_w v_past v_pastMany v_images v_filled v_text v_length v_faultKind v_faultPlace v_rowOf v_rows v_wrongKind_20 v_wrongPlace_20 v_readWords_20 v_readPassages_20 v_readLetter_20 v_readCue_20 v_readPassage_20 v_held u_39_wrongKind u_39_wrongPlace u_39_readWords u_39_readPassages u_39_readLetter u_39_readCue u_39_readPassage hq_39) (cwV 1 hts gX4_readText_X4_readByte rfl rfl rfl (by decide +kernel) ⟨Nat.le_of_ble_eq_true rfl, Nat.le_of_ble_eq_true rfl⟩) ⟨fb_wr, va_recv hK hPc (ci := 4) (q0 := 0) rfl rfl, pre_wr hPc hK hN hDc⟩ rfl rfl hl.1 rfl (lv_room (Nat.le_of_ble_eq_true rfl)) dX4_readText_39 ⟨Nat.zero_le _, Nat.zero_le _⟩) hS (fun q _ h => hFc q h) hFc (fun _ t H1 locs ht hvm hw hB hz1 hk1 hS => ?_)
          obtain ⟨hP1, hD1⟩ := hB
          rw [ht] at hP1
          obtain ⟨hP, hD⟩ := va_join (wr := []) (w1 := [(aM, .inr (4, [.ref a_w, .ref a_past, .int v_pastMany, .ref a_images, .int v_filled, .ref a_text, .int v_length, .int v_faultKind, .int v_faultPlace, .ref a_rowOf, .int v_rows, .int u_39_wrongKind, .int u_39_wrongPlace, .int u_39_readWords, .int u_39_readPassages, .ref a_readLetter, .ref a_readCue, .ref a_readPassage, .ref a_held])), (a_w, .inl (cI, 510, .inl v_w)), (a_past, .inl (cI, 4080, .inl v_past)), (a_images, .inl (cI, 1020, .inl v_images)), (a_text, .inl (cI, 140, .inl v_text)), (a_rowOf, .inl (cI, 120, .inl v_rowOf)), (a_readLetter, .inl (cI, 120, .inl u_39_readLetter)), (a_readCue, .inl (cI, 120, .inl u_39_readCue)), (a_readPassage, .inl (cI, 120, .inl u_39_readPassage)), (a_held, .inl (cI, 510, .inl v_held))]) hP hD [0, 1, 2, 3, 4, 5, 6, 7, 8, 9] [] rfl rfl (by decide) (by decide) hk1 hFc hP1 hD1
          generalize H1 = H at hP hS ⊢
          have hP : va_P (dC, dI) vwCl [(aM, .inr (4, [.ref a_w, .ref a_past, .int v_pastMany, .ref a_images, .int v_filled, .ref a_text, .int v_length, .int v_faultKind, .int v_faultPlace, .ref a_rowOf, .int v_rows, .int u_39_wrongKind, .int u_39_wrongPlace, .int u_39_readWords, .int u_39_readPassages, .ref a_readLetter, .ref a_readCue, .ref a_readPassage, .ref a_held])), (a_w, .inl (cI, 510, .inl v_w)), (a_past, .inl (cI, 4080, .inl v_past)), (a_images, .inl (cI, 1020, .inl v_images)), (a_text, .inl (cI, 140, .inl v_text)), (a_rowOf, .inl (cI, 120, .inl v_rowOf)), (a_readLetter, .inl (cI, 120, .inl u_39_readLetter)), (a_readCue, .inl (cI, 120, .inl u_39_readCue)), (a_readPassage, .inl (cI, 120, .inl u_39_readPassage)), (a_held, .inl (cI, 510, .inl v_held))] H := hP
          have hD : va_D A [(aM, .inr (4, [.ref a_w, .ref a_past, .int v_pastMany, .ref a_images, .int v_filled, .ref a_text, .int v_length, .int v_faultKind, .int v_faultPlace, .ref a_rowOf, .int v_rows, .int u_39_wrongKind, .int u_39_wrongPlace, .int u_39_readWords, .int u_39_readPassages, .ref a_readLetter, .ref a_readCue, .ref a_readPassage, .ref a_held])), (a_w, .inl (cI, 510, .inl v_w)), (a_past, .inl (cI, 4080, .inl v_past)), (a_images, .inl (cI, 1020, .inl v_images)), (a_text, .inl (cI, 140, .inl v_text)), (a_rowOf, .inl (cI, 120, .inl v_rowOf)), (a_readLetter, .inl (cI, 120, .inl u_39_readLetter)), (a_readCue, .inl (cI, 120, .inl u_39_readCue)), (a_readPassage, .inl (cI, 120, .inl u_39_readPassage)), (a_held, .inl (cI, 510, .inl v_held))] := hD
          refine lv_iinc (v := (x1_20 + 1)) (lv' := [(1, .int (x1_20 + 1)), (0, .ref aM)]) hx hb dX4_readText_42 hl (k := 1) rfl rfl (by decide) rfl (fun ls hl => ?_)
          refine lv_goto (tgt := 20) hx hb dX4_readText_45 (by decide) ?_
          exact ih20 (x1_20 + 1) u_39_wrongKind u_39_wrongPlace u_39_readWords u_39_readPassages u_39_readLetter u_39_readCue u_39_readPassage hF _ _ hP hD hS _ (lv_sub hl [1, 0] rfl)
  unfold f_X4_readText at hF
  refine lv_aload_n hx hb dX4_readText_0 rfl (lv_at hl 0 rfl) ?_
  refine lv_iconst (v := (0 : Int32)) hx hb dX4_readText_1 (by decide) ?_
  refine va_put (D := (dC, dI)) (ci := 4) (v := .int (0 : Int32)) (ty := .int) (C := RX4) (T := TX4) (N := 19) hx hb hts inX4 tyX4 tyX4_ok nmX4 hown hK hP hD hS 0 rfl rfl 13 (by decide) fl106 (fun _ h9 => h9) rfl (by decide +kernel) rfl rfl (Nat.le_of_ble_eq_true rfl) dX4_readText_2 (fun H locs hP hD hS => ?_)
  have hP : va_P (dC, dI) vwCl [(aM, .inr (4, [.ref a_w, .ref a_past, .int v_pastMany, .ref a_images, .int v_filled, .ref a_text, .int v_length, .int v_faultKind, .int v_faultPlace, .ref a_rowOf, .int v_rows, .int v_wrongKind, .int v_wrongPlace, .int (0 : Int32), .int v_readPassages, .ref a_readLetter, .ref a_readCue, .ref a_readPassage, .ref a_held])), (a_w, .inl (cI, 510, .inl v_w)), (a_past, .inl (cI, 4080, .inl v_past)), (a_images, .inl (cI, 1020, .inl v_images)), (a_text, .inl (cI, 140, .inl v_text)), (a_rowOf, .inl (cI, 120, .inl v_rowOf)), (a_readLetter, .inl (cI, 120, .inl v_readLetter)), (a_readCue, .inl (cI, 120, .inl v_readCue)), (a_readPassage, .inl (cI, 120, .inl v_readPassage)), (a_held, .inl (cI, 510, .inl v_held))] H := hP
  have hD : va_D A [(aM, .inr (4, [.ref a_w, .ref a_past, .int v_pastMany, .ref a_images, .int v_filled, .ref a_text, .int v_length, .int v_faultKind, .int v_faultPlace, .ref a_rowOf, .int v_rows, .int v_wrongKind, .int v_wrongPlace, .int (0 : Int32), .int v_readPassages, .ref a_readLetter, .ref a_readCue, .ref a_readPassage, .ref a_held])), (a_w, .inl (cI, 510, .inl v_w)), (a_past, .inl (cI, 4080, .inl v_past)), (a_images, .inl (cI, 1020, .inl v_images)), (a_text, .inl (cI, 140, .inl v_text)), (a_rowOf, .inl (cI, 120, .inl v_rowOf)), (a_readLetter, .inl (cI, 120, .inl v_readLetter)), (a_readCue, .inl (cI, 120, .inl v_readCue)), (a_readPassage, .inl (cI, 120, .inl v_readPassage)), (a_held, .inl (cI, 510, .inl v_held))] := hD
  refine lv_aload_n hx hb dX4_readText_5 rfl (lv_at hl 0 rfl) ?_
  refine lv_iconst (v := (0 : Int32)) hx hb dX4_readText_6 (by decide) ?_
  refine va_put (D := (dC, dI)) (ci := 4) (v := .int (0 : Int32)) (ty := .int) (C := RX4) (T := TX4) (N := 19) hx hb hts inX4 tyX4 tyX4_ok nmX4 hown hK hP hD hS 0 rfl rfl 14 (by decide) fl113 (fun _ h9 => h9) rfl (by decide +kernel) rfl rfl (Nat.le_of_ble_eq_true rfl) dX4_readText_7 (fun H locs hP hD hS => ?_)
  have hP : va_P (dC, dI) vwCl [(aM, .inr (4, [.ref a_w, .ref a_past, .int v_pastMany, .ref a_images, .int v_filled, .ref a_text, .int v_length, .int v_faultKind, .int v_faultPlace, .ref a_rowOf, .int v_rows, .int v_wrongKind, .int v_wrongPlace, .int (0 : Int32), .int (0 : Int32), .ref a_readLetter, .ref a_readCue, .ref a_readPassage, .ref a_held])), (a_w, .inl (cI, 510, .inl v_w)), (a_past, .inl (cI, 4080, .inl v_past)), (a_images, .inl (cI, 1020, .inl v_images)), (a_text, .inl (cI, 140, .inl v_text)), (a_rowOf, .inl (cI, 120, .inl v_rowOf)), (a_readLetter, .inl (cI, 120, .inl v_readLetter)), (a_readCue, .inl (cI, 120, .inl v_readCue)), (a_readPassage, .inl (cI, 120, .inl v_readPassage)), (a_held, .inl (cI, 510, .inl v_held))] H := hP
  have hD : va_D A [(aM, .inr (4, [.ref a_w, .ref a_past, .int v_pastMany, .ref a_images, .int v_filled, .ref a_text, .int v_length, .int v_faultKind, .int v_faultPlace, .ref a_rowOf, .int v_rows, .int v_wrongKind, .int v_wrongPlace, .int (0 : Int32), .int (0 : Int32), .ref a_readLetter, .ref a_readCue, .ref a_readPassage, .ref a_held])), (a_w, .inl (cI, 510, .inl v_w)), (a_past, .inl (cI, 4080, .inl v_past)), (a_images, .inl (cI, 1020, .inl v_images)), (a_text, .inl (cI, 140, .inl v_text)), (a_rowOf, .inl (cI, 120, .inl v_rowOf)), (a_readLetter, .inl (cI, 120, .inl v_readLetter)), (a_readCue, .inl (cI, 120, .inl v_readCue)), (a_readPassage, .inl (cI, 120, .inl v_readPassage)), (a_held, .inl (cI, 510, .inl v_held))] := hD
  refine lv_aload_n hx hb dX4_readText_10 rfl (lv_at hl 0 rfl) ?_
  refine lv_bipush (v := (-9 : Int32)) hx hb dX4_readText_11 (by decide) ?_
  refine lv_bipush (v := (-9 : Int32)) hx hb dX4_readText_13 (by decide) ?_
  obtain ⟨q_15, hq_15, hF⟩ := bindE hF
  obtain ⟨u_15_wrongKind, u_15_wrongPlace⟩ := q_15
  have hPc := hP
  have hDc := hD
  have hFc := va_free (wc := [(aM, .inr (4, [.ref a_w, .ref a_past, .int v_pastMany, .ref a_images, .int v_filled, .ref a_text, .int v_length, .int v_faultKind, .int v_faultPlace, .ref a_rowOf, .int v_rows, .int v_wrongKind, .int v_wrongPlace, .int (0 : Int32), .int (0 : Int32), .ref a_readLetter, .ref a_readCue, .ref a_readPassage, .ref a_held])), (a_w, .inl (cI, 510, .inl v_w)), (a_past, .inl (cI, 4080, .inl v_past)), (a_images, .inl (cI, 1020, .inl v_images)), (a_text, .inl (cI, 140, .inl v_text)), (a_rowOf, .inl (cI, 120, .inl v_rowOf)), (a_readLetter, .inl (cI, 120, .inl v_readLetter)), (a_readCue, .inl (cI, 120, .inl v_readCue)), (a_readPassage, .inl (cI, 120, .inl v_readPassage)), (a_held, .inl (cI, 510, .inl v_held))]) hD hS hA [0, 1, 2, 3, 4, 5, 6, 7, 8, 9] rfl
  refine va_callv (va_runV (As := [.int (-9 : Int32), .int (-9 : Int32)]) (rest := []) ⟨hx, hb, hml, hown, hts⟩ (c_X4_fails l dC dI cI cZ cO aM a_w a_past a_images a_text a_rowOf a_readLetter a_readCue a_readPassage a_held H.size (-9 : Int32) (-9 : Int32) v_w v_past v_pastMany v_images v_filled v_text v_length v_faultKind v_faultPlace v_rowOf v_rows v_wrongKind v_wrongPlace (0 : Int32) (0 : Int32) v_readLetter v_readCue v_readPassage v_held u_15_wrongKind u_15_wrongPlace hq_15) (cwV 2 hts gX4_readText_X4_fails rfl rfl rfl (by decide +kernel) ⟨Nat.le_of_ble_eq_true rfl, Nat.le_of_ble_eq_true rfl⟩) ⟨fb_wr, va_recv hK hPc (ci := 4) (q0 := 0) rfl rfl, pre_wr hPc hK hN hDc⟩ rfl rfl hl.1 rfl (lv_room (Nat.le_of_ble_eq_true rfl)) dX4_readText_15 ⟨Nat.zero_le _, Nat.zero_le _⟩) hS (fun q _ h => hFc q h) hFc (fun _ t H1 locs ht hvm hw hB hz1 hk1 hS => ?_)
  obtain ⟨hP1, hD1⟩ := hB
  rw [ht] at hP1
  obtain ⟨hP, hD⟩ := va_join (wr := []) (w1 := [(aM, .inr (4, [.ref a_w, .ref a_past, .int v_pastMany, .ref a_images, .int v_filled, .ref a_text, .int v_length, .int v_faultKind, .int v_faultPlace, .ref a_rowOf, .int v_rows, .int u_15_wrongKind, .int u_15_wrongPlace, .int (0 : Int32), .int (0 : Int32), .ref a_readLetter, .ref a_readCue, .ref a_readPassage, .ref a_held])), (a_w, .inl (cI, 510, .inl v_w)), (a_past, .inl (cI, 4080, .inl v_past)), (a_images, .inl (cI, 1020, .inl v_images)), (a_text, .inl (cI, 140, .inl v_text)), (a_rowOf, .inl (cI, 120, .inl v_rowOf)), (a_readLetter, .inl (cI, 120, .inl v_readLetter)), (a_readCue, .inl (cI, 120, .inl v_readCue)), (a_readPassage, .inl (cI, 120, .inl v_readPassage)), (a_held, .inl (cI, 510, .inl v_held))]) hP hD [0, 1, 2, 3, 4, 5, 6, 7, 8, 9] [] rfl rfl (by decide) (by decide) hk1 hFc hP1 hD1
  generalize H1 = H at hP hS ⊢
  have hP : va_P (dC, dI) vwCl [(aM, .inr (4, [.ref a_w, .ref a_past, .int v_pastMany, .ref a_images, .int v_filled, .ref a_text, .int v_length, .int v_faultKind, .int v_faultPlace, .ref a_rowOf, .int v_rows, .int u_15_wrongKind, .int u_15_wrongPlace, .int (0 : Int32), .int (0 : Int32), .ref a_readLetter, .ref a_readCue, .ref a_readPassage, .ref a_held])), (a_w, .inl (cI, 510, .inl v_w)), (a_past, .inl (cI, 4080, .inl v_past)), (a_images, .inl (cI, 1020, .inl v_images)), (a_text, .inl (cI, 140, .inl v_text)), (a_rowOf, .inl (cI, 120, .inl v_rowOf)), (a_readLetter, .inl (cI, 120, .inl v_readLetter)), (a_readCue, .inl (cI, 120, .inl v_readCue)), (a_readPassage, .inl (cI, 120, .inl v_readPassage)), (a_held, .inl (cI, 510, .inl v_held))] H := hP
  have hD : va_D A [(aM, .inr (4, [.ref a_w, .ref a_past, .int v_pastMany, .ref a_images, .int v_filled, .ref a_text, .int v_length, .int v_faultKind, .int v_faultPlace, .ref a_rowOf, .int v_rows, .int u_15_wrongKind, .int u_15_wrongPlace, .int (0 : Int32), .int (0 : Int32), .ref a_readLetter, .ref a_readCue, .ref a_readPassage, .ref a_held])), (a_w, .inl (cI, 510, .inl v_w)), (a_past, .inl (cI, 4080, .inl v_past)), (a_images, .inl (cI, 1020, .inl v_images)), (a_text, .inl (cI, 140, .inl v_text)), (a_rowOf, .inl (cI, 120, .inl v_rowOf)), (a_readLetter, .inl (cI, 120, .inl v_readLetter)), (a_readCue, .inl (cI, 120, .inl v_readCue)), (a_readPassage, .inl (cI, 120, .inl v_readPassage)), (a_held, .inl (cI, 510, .inl v_held))] := hD
  refine lv_iconst (v := (0 : Int32)) hx hb dX4_readText_18 (by decide) ?_
  refine lv_istore_n (lv' := [(1, .int (0 : Int32)), (0, .ref aM)]) hx hb dX4_readText_19 rfl hl (by decide) rfl (fun ls hl => ?_)
  exact B20 gas (0 : Int32) u_15_wrongKind u_15_wrongPlace (0 : Int32) (0 : Int32) v_readLetter v_readCue v_readPassage hF _ _ hP hD hS _ (lv_sub hl [1, 0] rfl)
def f_X4_load_72 (v_past : (Nat → Int32)) (v_pastMany : Int32) (v_faultKind : Int32) (v_faultPlace : Int32) (v_rowOf : (Nat → Int32)) (v_rows : Int32) (v_wrongKind : Int32) (v_wrongPlace : Int32) (v_readWords : Int32) (v_readPassages : Int32) (v_readLetter : (Nat → Int32)) (v_readCue : (Nat → Int32)) (v_readPassage : (Nat → Int32)) : Nat → Int32 → (Nat → Int32) → Option (Int32 × (Nat → Int32) × (Nat → Int32) × Int32 × Int32 × Int32 × (Nat → Int32) × Int32 × Int32 × Int32 × Int32 × Int32 × (Nat → Int32) × (Nat → Int32) × (Nat → Int32))
  | 0, _, _ => none
  | n + 1, x1, v_w =>
    if v_readWords ≤ x1 then
      (f_X4_layRows v_w v_rowOf v_rows).bind fun q135 =>
      some (v_readWords, v_w, v_past, v_pastMany, v_faultKind, v_faultPlace, q135.1, q135.2, v_wrongKind, v_wrongPlace, v_readWords, v_readPassages, v_readLetter, v_readCue, v_readPassage)
    else
      if x1 < 0 ∨ 120 ≤ x1.toNatClampNeg then none else
      if ((150 : Int32) + x1) < 0 ∨ 510 ≤ (((150 : Int32) + x1)).toNatClampNeg then none else
      (some (upd v_w ((((150 : Int32) + x1)).toNatClampNeg) (v_readLetter x1.toNatClampNeg))).bind fun a95 =>
      if x1 < 0 ∨ 120 ≤ x1.toNatClampNeg then none else
      if ((270 : Int32) + x1) < 0 ∨ 510 ≤ (((270 : Int32) + x1)).toNatClampNeg then none else
      (some (upd a95 ((((270 : Int32) + x1)).toNatClampNeg) (v_readCue x1.toNatClampNeg))).bind fun a111 =>
      if x1 < 0 ∨ 120 ≤ x1.toNatClampNeg then none else
      if ((390 : Int32) + x1) < 0 ∨ 510 ≤ (((390 : Int32) + x1)).toNatClampNeg then none else
      (some (upd a111 ((((390 : Int32) + x1)).toNatClampNeg) (v_readPassage x1.toNatClampNeg))).bind fun a127 =>
      f_X4_load_72 v_past v_pastMany v_faultKind v_faultPlace v_rowOf v_rows v_wrongKind v_wrongPlace v_readWords v_readPassages v_readLetter v_readCue v_readPassage n (x1 + 1) a127
def f_X4_load_39 (v_past : (Nat → Int32)) (v_pastMany : Int32) (v_faultKind : Int32) (v_faultPlace : Int32) (v_rowOf : (Nat → Int32)) (v_rows : Int32) (v_wrongKind : Int32) (v_wrongPlace : Int32) (v_readWords : Int32) (v_readPassages : Int32) (v_readLetter : (Nat → Int32)) (v_readCue : (Nat → Int32)) (v_readPassage : (Nat → Int32)) : Nat → Int32 → (Nat → Int32) → Option (Int32 × (Nat → Int32) × (Nat → Int32) × Int32 × Int32 × Int32 × (Nat → Int32) × Int32 × Int32 × Int32 × Int32 × Int32 × (Nat → Int32) × (Nat → Int32) × (Nat → Int32))
  | 0, _, _ => none
  | n + 1, x1, v_w =>
    if (510 : Int32) ≤ x1 then
      (some (upd v_w 9 v_readWords)).bind fun a69 =>
      f_X4_load_72 v_past v_pastMany v_faultKind v_faultPlace v_rowOf v_rows v_wrongKind v_wrongPlace v_readWords v_readPassages v_readLetter v_readCue v_readPassage gas (0 : Int32) a69
    else
      if x1 < 0 ∨ 510 ≤ x1.toNatClampNeg then none else
      (some (upd v_w x1.toNatClampNeg (0 : Int32))).bind fun a52 =>
      f_X4_load_39 v_past v_pastMany v_faultKind v_faultPlace v_rowOf v_rows v_wrongKind v_wrongPlace v_readWords v_readPassages v_readLetter v_readCue v_readPassage n (x1 + 1) a52
def f_X4_load (v_w : (Nat → Int32)) (v_past : (Nat → Int32)) (v_pastMany : Int32) (v_text : (Nat → Int32)) (v_length : Int32) (v_faultKind : Int32) (v_faultPlace : Int32) (v_rowOf : (Nat → Int32)) (v_rows : Int32) (v_wrongKind : Int32) (v_wrongPlace : Int32) (v_readWords : Int32) (v_readPassages : Int32) (v_readLetter : (Nat → Int32)) (v_readCue : (Nat → Int32)) (v_readPassage : (Nat → Int32)) : Option (Int32 × (Nat → Int32) × (Nat → Int32) × Int32 × Int32 × Int32 × (Nat → Int32) × Int32 × Int32 × Int32 × Int32 × Int32 × (Nat → Int32) × (Nat → Int32) × (Nat → Int32)) :=
  (f_X4_readText v_text v_length v_wrongKind v_wrongPlace v_readWords v_readPassages v_readLetter v_readCue v_readPassage).bind fun q1 =>
  if q1.1 = (-9 : Int32) then
    (f_X4_remember v_w v_past v_pastMany).bind fun q33 =>
    f_X4_load_39 q33.1 q33.2 v_faultKind v_faultPlace v_rowOf v_rows q1.1 q1.2.1 q1.2.2.1 q1.2.2.2.1 q1.2.2.2.2.1 q1.2.2.2.2.2.1 q1.2.2.2.2.2.2 gas (10 : Int32) v_w
  else
    some ((-2 : Int32), v_w, v_past, v_pastMany, q1.1, q1.2.1, v_rowOf, v_rows, q1.1, q1.2.1, q1.2.2.1, q1.2.2.2.1, q1.2.2.2.2.1, q1.2.2.2.2.2.1, q1.2.2.2.2.2.2)
def rm_X4_load : Room := { frames := 4, cells := 0, slots := 0, locals := 86 }
set_option maxHeartbeats 4000000 in
set_option maxRecDepth 100000 in
theorem c_X4_load (l : Launch) (dC : Nat → ClassId) (dI : Nat → Nat → Nat) (cI cZ cO : ClassId) (aM a_w a_past a_images a_text a_rowOf a_readLetter a_readCue a_readPassage a_held : Nat) (sz : Nat) (v_w : (Nat → Int32)) (v_past : (Nat → Int32)) (v_pastMany : Int32) (v_images : (Nat → Int32)) (v_filled : Int32) (v_text : (Nat → Int32)) (v_length : Int32) (v_faultKind : Int32) (v_faultPlace : Int32) (v_rowOf : (Nat → Int32)) (v_rows : Int32) (v_wrongKind : Int32) (v_wrongPlace : Int32) (v_readWords : Int32) (v_readPassages : Int32) (v_readLetter : (Nat → Int32)) (v_readCue : (Nat → Int32)) (v_readPassage : (Nat → Int32)) (v_held : (Nat → Int32)) (r : Int32) (o_w : (Nat → Int32)) (o_past : (Nat → Int32)) (o_pastMany : Int32) (o_faultKind : Int32) (o_faultPlace : Int32) (o_rowOf : (Nat → Int32)) (o_rows : Int32) (o_wrongKind : Int32) (o_wrongPlace : Int32) (o_readWords : Int32) (o_readPassages : Int32) (o_readLetter : (Nat → Int32)) (o_readCue : (Nat → Int32)) (o_readPassage : (Nat → Int32)) (hF : f_X4_load v_w v_past v_pastMany v_text v_length v_faultKind v_faultPlace v_rowOf v_rows v_wrongKind v_wrongPlace v_readWords v_readPassages v_readLetter v_readCue v_readPassage = some (r, o_w, o_past, o_pastMany, o_faultKind, o_faultPlace, o_rowOf, o_rows, o_wrongKind, o_wrongPlace, o_readWords, o_readPassages, o_readLetter, o_readCue, o_readPassage)) : Met l yX4_load wsX4_load rm_X4_load (va_Pc [.ref aM] (wrW dC dI cI cZ cO sz [(aM, .inr (4, [.ref a_w, .ref a_past, .int v_pastMany, .ref a_images, .int v_filled, .ref a_text, .int v_length, .int v_faultKind, .int v_faultPlace, .ref a_rowOf, .int v_rows, .int v_wrongKind, .int v_wrongPlace, .int v_readWords, .int v_readPassages, .ref a_readLetter, .ref a_readCue, .ref a_readPassage, .ref a_held])), (a_w, .inl (cI, 510, .inl v_w)), (a_past, .inl (cI, 4080, .inl v_past)), (a_images, .inl (cI, 1020, .inl v_images)), (a_text, .inl (cI, 140, .inl v_text)), (a_rowOf, .inl (cI, 120, .inl v_rowOf)), (a_readLetter, .inl (cI, 120, .inl v_readLetter)), (a_readCue, .inl (cI, 120, .inl v_readCue)), (a_readPassage, .inl (cI, 120, .inl v_readPassage)), (a_held, .inl (cI, 510, .inl v_held))])) (va_Qi (fun (q : Int32) (_ : Unit) => r = q) (wrE dC dI [(aM, .inr (4, [.ref a_w, .ref a_past, .int v_pastMany, .ref a_images, .int v_filled, .ref a_text, .int v_length, .int v_faultKind, .int v_faultPlace, .ref a_rowOf, .int v_rows, .int v_wrongKind, .int v_wrongPlace, .int v_readWords, .int v_readPassages, .ref a_readLetter, .ref a_readCue, .ref a_readPassage, .ref a_held])), (a_w, .inl (cI, 510, .inl v_w)), (a_past, .inl (cI, 4080, .inl v_past)), (a_images, .inl (cI, 1020, .inl v_images)), (a_text, .inl (cI, 140, .inl v_text)), (a_rowOf, .inl (cI, 120, .inl v_rowOf)), (a_readLetter, .inl (cI, 120, .inl v_readLetter)), (a_readCue, .inl (cI, 120, .inl v_readCue)), (a_readPassage, .inl (cI, 120, .inl v_readPassage)), (a_held, .inl (cI, 510, .inl v_held))] sz [(aM, .inr (4, [.ref a_w, .ref a_past, .int o_pastMany, .ref a_images, .int v_filled, .ref a_text, .int v_length, .int o_faultKind, .int o_faultPlace, .ref a_rowOf, .int o_rows, .int o_wrongKind, .int o_wrongPlace, .int o_readWords, .int o_readPassages, .ref a_readLetter, .ref a_readCue, .ref a_readPassage, .ref a_held])), (a_w, .inl (cI, 510, .inl o_w)), (a_past, .inl (cI, 4080, .inl o_past)), (a_images, .inl (cI, 1020, .inl v_images)), (a_text, .inl (cI, 140, .inl v_text)), (a_rowOf, .inl (cI, 120, .inl o_rowOf)), (a_readLetter, .inl (cI, 120, .inl o_readLetter)), (a_readCue, .inl (cI, 120, .inl o_readCue)), (a_readPassage, .inl (cI, 120, .inl o_readPassage)), (a_held, .inl (cI, 510, .inl v_held))]) (va_A [(aM, .inr (4, [.ref a_w, .ref a_past, .int v_pastMany, .ref a_images, .int v_filled, .ref a_text, .int v_length, .int v_faultKind, .int v_faultPlace, .ref a_rowOf, .int v_rows, .int v_wrongKind, .int v_wrongPlace, .int v_readWords, .int v_readPassages, .ref a_readLetter, .ref a_readCue, .ref a_readPassage, .ref a_held])), (a_w, .inl (cI, 510, .inl v_w)), (a_past, .inl (cI, 4080, .inl v_past)), (a_images, .inl (cI, 1020, .inl v_images)), (a_text, .inl (cI, 140, .inl v_text)), (a_rowOf, .inl (cI, 120, .inl v_rowOf)), (a_readLetter, .inl (cI, 120, .inl v_readLetter)), (a_readCue, .inl (cI, 120, .inl v_readCue)), (a_readPassage, .inl (cI, 120, .inl v_readPassage)), (a_held, .inl (cI, 510, .inl v_held))] sz)) 0 0 (va_A [(aM, .inr (4, [.ref a_w, .ref a_past, .int v_pastMany, .ref a_images, .int v_filled, .ref a_text, .int v_length, .int v_faultKind, .int v_faultPlace, .ref a_rowOf, .int v_rows, .int v_wrongKind, .int v_wrongPlace, .int v_readWords, .int v_readPassages, .ref a_readLetter, .ref a_readCue, .ref a_readPassage, .ref a_held])), (a_w, .inl (cI, 510, .inl v_w)), (a_past, .inl (cI, 4080, .inl v_past)), (a_images, .inl (cI, 1020, .inl v_images)), (a_text, .inl (cI, 140, .inl v_text)), (a_rowOf, .inl (cI, 120, .inl v_rowOf)), (a_readLetter, .inl (cI, 120, .inl v_readLetter)), (a_readCue, .inl (cI, 120, .inl v_readCue)), (a_readPassage, .inl (cI, 120, .inl v_readPassage)), (a_held, .inl (cI, 510, .inl v_held))] sz) := by
  refine Met.ofW (cc := cX4_load) (maxL := 2) (ret := (some .int)) (by decide) rfl ?_
  intro p e s m args below meth c s₁ B hml hv
  obtain ⟨rfl, hsz, hP, hK, hN, hD0⟩ := hv
  have hx := B.exec
  have hb := B.bytes
  have hr := B.returns
  have hts := atoms_spec (ws := wsX4_load) B.pre
  have hown : s.vm.findClass RX4 = some m.cls := findClass_of_methodNamed B.named
  have hlocks := B.notSynchronized
  subst hsz
  have hD := hD0.self (sz := s.heap.size)
  obtain ⟨Q, hQ⟩ : ∃ Q, Q = MQ below (va_Qi (fun (q : Int32) (_ : Unit) => r = q) (wrE dC dI [(aM, .inr (4, [.ref a_w, .ref a_past, .int v_pastMany, .ref a_images, .int v_filled, .ref a_text, .int v_length, .int v_faultKind, .int v_faultPlace, .ref a_rowOf, .int v_rows, .int v_wrongKind, .int v_wrongPlace, .int v_readWords, .int v_readPassages, .ref a_readLetter, .ref a_readCue, .ref a_readPassage, .ref a_held])), (a_w, .inl (cI, 510, .inl v_w)), (a_past, .inl (cI, 4080, .inl v_past)), (a_images, .inl (cI, 1020, .inl v_images)), (a_text, .inl (cI, 140, .inl v_text)), (a_rowOf, .inl (cI, 120, .inl v_rowOf)), (a_readLetter, .inl (cI, 120, .inl v_readLetter)), (a_readCue, .inl (cI, 120, .inl v_readCue)), (a_readPassage, .inl (cI, 120, .inl v_readPassage)), (a_held, .inl (cI, 510, .inl v_held))] s.heap.size [(aM, .inr (4, [.ref a_w, .ref a_past, .int o_pastMany, .ref a_images, .int v_filled, .ref a_text, .int v_length, .int o_faultKind, .int o_faultPlace, .ref a_rowOf, .int o_rows, .int o_wrongKind, .int o_wrongPlace, .int o_readWords, .int o_readPassages, .ref a_readLetter, .ref a_readCue, .ref a_readPassage, .ref a_held])), (a_w, .inl (cI, 510, .inl o_w)), (a_past, .inl (cI, 4080, .inl o_past)), (a_images, .inl (cI, 1020, .inl v_images)), (a_text, .inl (cI, 140, .inl v_text)), (a_rowOf, .inl (cI, 120, .inl o_rowOf)), (a_readLetter, .inl (cI, 120, .inl o_readLetter)), (a_readCue, .inl (cI, 120, .inl o_readCue)), (a_readPassage, .inl (cI, 120, .inl o_readPassage)), (a_held, .inl (cI, 510, .inl v_held))]) (va_A [(aM, .inr (4, [.ref a_w, .ref a_past, .int v_pastMany, .ref a_images, .int v_filled, .ref a_text, .int v_length, .int v_faultKind, .int v_faultPlace, .ref a_rowOf, .int v_rows, .int v_wrongKind, .int v_wrongPlace, .int v_readWords, .int v_readPassages, .ref a_readLetter, .ref a_readCue, .ref a_readPassage, .ref a_held])), (a_w, .inl (cI, 510, .inl v_w)), (a_past, .inl (cI, 4080, .inl v_past)), (a_images, .inl (cI, 1020, .inl v_images)), (a_text, .inl (cI, 140, .inl v_text)), (a_rowOf, .inl (cI, 120, .inl v_rowOf)), (a_readLetter, .inl (cI, 120, .inl v_readLetter)), (a_readCue, .inl (cI, 120, .inl v_readCue)), (a_readPassage, .inl (cI, 120, .inl v_readPassage)), (a_held, .inl (cI, 510, .inl v_held))] s.heap.size)) ([.ref aM] : List Value).toArray s 0 0 (va_A [(aM, .inr (4, [.ref a_w, .ref a_past, .int v_pastMany, .ref a_images, .int v_filled, .ref a_text, .int v_length, .int v_faultKind, .int v_faultPlace, .ref a_rowOf, .int v_rows, .int v_wrongKind, .int v_wrongPlace, .int v_readWords, .int v_readPassages, .ref a_readLetter, .ref a_readCue, .ref a_readPassage, .ref a_held])), (a_w, .inl (cI, 510, .inl v_w)), (a_past, .inl (cI, 4080, .inl v_past)), (a_images, .inl (cI, 1020, .inl v_images)), (a_text, .inl (cI, 140, .inl v_text)), (a_rowOf, .inl (cI, 120, .inl v_rowOf)), (a_readLetter, .inl (cI, 120, .inl v_readLetter)), (a_readCue, .inl (cI, 120, .inl v_readCue)), (a_readPassage, .inl (cI, 120, .inl v_readPassage)), (a_held, .inl (cI, 510, .inl v_held))] s.heap.size) := ⟨_, rfl⟩
  rw [← hQ]
  obtain ⟨A, hAe⟩ : ∃ A, A = va_A [(aM, .inr (4, [.ref a_w, .ref a_past, .int v_pastMany, .ref a_images, .int v_filled, .ref a_text, .int v_length, .int v_faultKind, .int v_faultPlace, .ref a_rowOf, .int v_rows, .int v_wrongKind, .int v_wrongPlace, .int v_readWords, .int v_readPassages, .ref a_readLetter, .ref a_readCue, .ref a_readPassage, .ref a_held])), (a_w, .inl (cI, 510, .inl v_w)), (a_past, .inl (cI, 4080, .inl v_past)), (a_images, .inl (cI, 1020, .inl v_images)), (a_text, .inl (cI, 140, .inl v_text)), (a_rowOf, .inl (cI, 120, .inl v_rowOf)), (a_readLetter, .inl (cI, 120, .inl v_readLetter)), (a_readCue, .inl (cI, 120, .inl v_readCue)), (a_readPassage, .inl (cI, 120, .inl v_readPassage)), (a_held, .inl (cI, 510, .inl v_held))] s.heap.size := ⟨_, rfl⟩
  rw [← hAe] at hD
  have hA : ∀ q : Nat, s.heap.size ≤ q → A q := fun q h => by rw [hAe]; exact Or.inr h
  obtain ⟨H, hH⟩ : ∃ H, H = s.heap := ⟨_, rfl⟩
  have hS : va_S A s.heap H [] := by rw [hH]; exact va_S.rf
  rw [← hH] at hP
  rw [← hH]
  have fl106 := hts (.fieldLink RX4 106 "TeleprompterModel" "readWords" "I") (by decide +kernel)
  have fl7 := hts (.fieldLink RX4 7 "TeleprompterModel" "w" "[I") (by decide +kernel)
  have fl32 := hts (.fieldLink RX4 32 "TeleprompterModel" "readLetter" "[I") (by decide +kernel)
  have fl35 := hts (.fieldLink RX4 35 "TeleprompterModel" "readCue" "[I") (by decide +kernel)
  have fl38 := hts (.fieldLink RX4 38 "TeleprompterModel" "readPassage" "[I") (by decide +kernel)
  have fl100 := hts (.fieldLink RX4 100 "TeleprompterModel" "wrongKind" "I") (by decide +kernel)
  have fl22 := hts (.fieldLink RX4 22 "TeleprompterModel" "faultKind" "I") (by decide +kernel)
  have fl103 := hts (.fieldLink RX4 103 "TeleprompterModel" "wrongPlace" "I") (by decide +kernel)
  have fl26 := hts (.fieldLink RX4 26 "TeleprompterModel" "faultPlace" "I") (by decide +kernel)
  have inX4 : ∀ w ∈ u_ws RX4 TX4 19, w ∈ wsX4_load := by decide +kernel
  have hl := lv_entry ([.ref aM]) (n := 2) (Nat.le_of_ble_eq_true rfl)
  rw [lg_entry_eq]
  generalize (lg_sl ([.ref aM]) ++ List.replicate (2 - (lg_sl ([.ref aM])).length) Slot.unset).toArray = ls at hl ⊢
  have hl : lv_has ls 2 [(0, .ref aM)] := hl
  have B72 : ∀ (n_72 : Nat) (v_past_72 : (Nat → Int32)) (v_pastMany_72 : Int32) (v_faultKind_72 : Int32) (v_faultPlace_72 : Int32) (v_rowOf_72 : (Nat → Int32)) (v_rows_72 : Int32) (v_wrongKind_72 : Int32) (v_wrongPlace_72 : Int32) (v_readWords_72 : Int32) (v_readPassages_72 : Int32) (v_readLetter_72 : (Nat → Int32)) (v_readCue_72 : (Nat → Int32)) (v_readPassage_72 : (Nat → Int32)) (x1_72 : Int32) (v_w_72 : (Nat → Int32)), f_X4_load_72 v_past_72 v_pastMany_72 v_faultKind_72 v_faultPlace_72 v_rowOf_72 v_rows_72 v_wrongKind_72 v_wrongPlace_72 v_readWords_72 v_readPassages_72 v_readLetter_72 v_readCue_72 v_readPassage_72 n_72 x1_72 v_w_72 = some (r, o_w, o_past, o_pastMany, o_faultKind, o_faultPlace, o_rowOf, o_rows, o_wrongKind, o_wrongPlace, o_readWords, o_readPassages, o_readLetter, o_readCue, o_readPassage) → ∀ (H : Heap) (locs : List Loc), va_P (dC, dI) vwCl [(aM, .inr (4, [.ref a_w, .ref a_past, .int v_pastMany_72, .ref a_images, .int v_filled, .ref a_text, .int v_length, .int v_faultKind_72, .int v_faultPlace_72, .ref a_rowOf, .int v_rows_72, .int v_wrongKind_72, .int v_wrongPlace_72, .int v_readWords_72, .int v_readPassages_72, .ref a_readLetter, .ref a_readCue, .ref a_readPassage, .ref a_held])), (a_w, .inl (cI, 510, .inl v_w_72)), (a_past, .inl (cI, 4080, .inl v_past_72)), (a_images, .inl (cI, 1020, .inl v_images)), (a_text, .inl (cI, 140, .inl v_text)), (a_rowOf, .inl (cI, 120, .inl v_rowOf_72)), (a_readLetter, .inl (cI, 120, .inl v_readLetter_72)), (a_readCue, .inl (cI, 120, .inl v_readCue_72)), (a_readPassage, .inl (cI, 120, .inl v_readPassage_72)), (a_held, .inl (cI, 510, .inl v_held))] H → va_D A [(aM, .inr (4, [.ref a_w, .ref a_past, .int v_pastMany_72, .ref a_images, .int v_filled, .ref a_text, .int v_length, .int v_faultKind_72, .int v_faultPlace_72, .ref a_rowOf, .int v_rows_72, .int v_wrongKind_72, .int v_wrongPlace_72, .int v_readWords_72, .int v_readPassages_72, .ref a_readLetter, .ref a_readCue, .ref a_readPassage, .ref a_held])), (a_w, .inl (cI, 510, .inl v_w_72)), (a_past, .inl (cI, 4080, .inl v_past_72)), (a_images, .inl (cI, 1020, .inl v_images)), (a_text, .inl (cI, 140, .inl v_text)), (a_rowOf, .inl (cI, 120, .inl v_rowOf_72)), (a_readLetter, .inl (cI, 120, .inl v_readLetter_72)), (a_readCue, .inl (cI, 120, .inl v_readCue_72)), (a_readPassage, .inl (cI, 120, .inl v_readPassage_72)), (a_held, .inl (cI, 510, .inl v_held))] → va_S A s.heap H locs → ∀ ls : Array Slot, lv_has ls 2 [(0, .ref aM), (1, .int x1_72)] → W p l e (headSpec wsX4_load rm_X4_load).room s m ([.ref aM] : List Value).toArray below meth c H locs 0 0 Q (F0 m 72 ls []) := by
    intro n_72
    induction n_72 with
    | zero => intro v_past_72 v_pastMany_72 v_faultKind_72 v_faultPlace_72 v_rowOf_72 v_rows_72 v_wrongKind_72 v_wrongPlace_72 v_readWords_72 v_readPassages_72 v_readLetter_72 v_readCue_72 v_readPassage_72 x1_72 v_w_72 hF; exact noneE hF
    | succ n_72 ih72 =>
      intro v_past_72 v_pastMany_72 v_faultKind_72 v_faultPlace_72 v_rowOf_72 v_rows_72 v_wrongKind_72 v_wrongPlace_72 v_readWords_72 v_readPassages_72 v_readLetter_72 v_readCue_72 v_readPassage_72 x1_72 v_w_72 hF H locs hP hD hS ls hl
      rw [f_X4_load_72] at hF
      refine lv_iload_n hx hb dX4_load_72 rfl (lv_at hl 1 rfl) ?_
      refine lv_aload_n hx hb dX4_load_73 rfl (lv_at hl 0 rfl) ?_
      refine va_get (D := (dC, dI)) (ci := 4) (v := .int v_readWords_72) (C := RX4) (T := TX4) (N := 19) hx hb hts inX4 hown hK hP 0 rfl rfl 13 (by decide) fl106 (fun _ h9 => h9) rfl dX4_load_74 ?_
      refine lv_icmp_ge (tgt := 134) hx hb dX4_load_77 (by decide) (fun c_77 => ?_) (fun c_77 => ?_)
      · have hF := (if_pos c_77).symm.trans hF
        refine lv_aload_n hx hb dX4_load_134 rfl (lv_at hl 0 rfl) ?_
        obtain ⟨q_135, hq_135, hF⟩ := bindE hF
        obtain ⟨u_135_rowOf, u_135_rows⟩ := q_135
        have hPc := hP
        have hDc := hD
        have hFc := va_free (wc := [(aM, .inr (4, [.ref a_w, .ref a_past, .int v_pastMany_72, .ref a_images, .int v_filled, .ref a_text, .int v_length, .int v_faultKind_72, .int v_faultPlace_72, .ref a_rowOf, .int v_rows_72, .int v_wrongKind_72, .int v_wrongPlace_72, .int v_readWords_72, .int v_readPassages_72, .ref a_readLetter, .ref a_readCue, .ref a_readPassage, .ref a_held])), (a_w, .inl (cI, 510, .inl v_w_72)), (a_past, .inl (cI, 4080, .inl v_past_72)), (a_images, .inl (cI, 1020, .inl v_images)), (a_text, .inl (cI, 140, .inl v_text)), (a_rowOf, .inl (cI, 120, .inl v_rowOf_72)), (a_readLetter, .inl (cI, 120, .inl v_readLetter_72)), (a_readCue, .inl (cI, 120, .inl v_readCue_72)), (a_readPassage, .inl (cI, 120, .inl v_readPassage_72)), (a_held, .inl (cI, 510, .inl v_held))]) hD hS hA [0, 1, 2, 3, 4, 5, 6, 7, 8, 9] rfl
        refine va_callv (va_runV (As := []) (rest := []) ⟨hx, hb, hml, hown, hts⟩ (c_X4_layRows l dC dI cI cZ cO aM a_w a_past a_images a_text a_rowOf a_readLetter a_readCue a_readPassage a_held H.size v_w_72 v_past_72 v_pastMany_72 v_images v_filled v_text v_length v_faultKind_72 v_faultPlace_72 v_rowOf_72 v_rows_72 v_wrongKind_72 v_wrongPlace_72 v_readWords_72 v_readPassages_72 v_readLetter_72 v_readCue_72 v_readPassage_72 v_held u_135_rowOf u_135_rows hq_135) (cwV 0 hts gX4_load_X4_layRows rfl rfl rfl (by decide +kernel) ⟨Nat.le_of_ble_eq_true rfl, Nat.le_of_ble_eq_true rfl⟩) ⟨fb_wr, va_recv hK hPc (ci := 4) (q0 := 0) rfl rfl, pre_wr hPc hK hN hDc⟩ rfl rfl hl.1 rfl (lv_room (Nat.le_of_ble_eq_true rfl)) dX4_load_135 ⟨Nat.zero_le _, Nat.zero_le _⟩) hS (fun q _ h => hFc q h) hFc (fun _ t H1 locs ht hvm hw hB hz1 hk1 hS => ?_)
        obtain ⟨hP1, hD1⟩ := hB
        rw [ht] at hP1
        obtain ⟨hP, hD⟩ := va_join (wr := []) (w1 := [(aM, .inr (4, [.ref a_w, .ref a_past, .int v_pastMany_72, .ref a_images, .int v_filled, .ref a_text, .int v_length, .int v_faultKind_72, .int v_faultPlace_72, .ref a_rowOf, .int u_135_rows, .int v_wrongKind_72, .int v_wrongPlace_72, .int v_readWords_72, .int v_readPassages_72, .ref a_readLetter, .ref a_readCue, .ref a_readPassage, .ref a_held])), (a_w, .inl (cI, 510, .inl v_w_72)), (a_past, .inl (cI, 4080, .inl v_past_72)), (a_images, .inl (cI, 1020, .inl v_images)), (a_text, .inl (cI, 140, .inl v_text)), (a_rowOf, .inl (cI, 120, .inl u_135_rowOf)), (a_readLetter, .inl (cI, 120, .inl v_readLetter_72)), (a_readCue, .inl (cI, 120, .inl v_readCue_72)), (a_readPassage, .inl (cI, 120, .inl v_readPassage_72)), (a_held, .inl (cI, 510, .inl v_held))]) hP hD [0, 1, 2, 3, 4, 5, 6, 7, 8, 9] [] rfl rfl (by decide) (by decide) hk1 hFc hP1 hD1
        generalize H1 = H at hP hS ⊢
        have hP : va_P (dC, dI) vwCl [(aM, .inr (4, [.ref a_w, .ref a_past, .int v_pastMany_72, .ref a_images, .int v_filled, .ref a_text, .int v_length, .int v_faultKind_72, .int v_faultPlace_72, .ref a_rowOf, .int u_135_rows, .int v_wrongKind_72, .int v_wrongPlace_72, .int v_readWords_72, .int v_readPassages_72, .ref a_readLetter, .ref a_readCue, .ref a_readPassage, .ref a_held])), (a_w, .inl (cI, 510, .inl v_w_72)), (a_past, .inl (cI, 4080, .inl v_past_72)), (a_images, .inl (cI, 1020, .inl v_images)), (a_text, .inl (cI, 140, .inl v_text)), (a_rowOf, .inl (cI, 120, .inl u_135_rowOf)), (a_readLetter, .inl (cI, 120, .inl v_readLetter_72)), (a_readCue, .inl (cI, 120, .inl v_readCue_72)), (a_readPassage, .inl (cI, 120, .inl v_readPassage_72)), (a_held, .inl (cI, 510, .inl v_held))] H := hP
        have hD : va_D A [(aM, .inr (4, [.ref a_w, .ref a_past, .int v_pastMany_72, .ref a_images, .int v_filled, .ref a_text, .int v_length, .int v_faultKind_72, .int v_faultPlace_72, .ref a_rowOf, .int u_135_rows, .int v_wrongKind_72, .int v_wrongPlace_72, .int v_readWords_72, .int v_readPassages_72, .ref a_readLetter, .ref a_readCue, .ref a_readPassage, .ref a_held])), (a_w, .inl (cI, 510, .inl v_w_72)), (a_past, .inl (cI, 4080, .inl v_past_72)), (a_images, .inl (cI, 1020, .inl v_images)), (a_text, .inl (cI, 140, .inl v_text)), (a_rowOf, .inl (cI, 120, .inl u_135_rowOf)), (a_readLetter, .inl (cI, 120, .inl v_readLetter_72)), (a_readCue, .inl (cI, 120, .inl v_readCue_72)), (a_readPassage, .inl (cI, 120, .inl v_readPassage_72)), (a_held, .inl (cI, 510, .inl v_held))] := hD
        refine lv_aload_n hx hb dX4_load_138 rfl (lv_at hl 0 rfl) ?_
        refine va_get (D := (dC, dI)) (ci := 4) (v := .int v_readWords_72) (C := RX4) (T := TX4) (N := 19) hx hb hts inX4 hown hK hP 0 rfl rfl 13 (by decide) fl106 (fun _ h9 => h9) rfl dX4_load_139 ?_
        have hF : some (v_readWords_72, v_w_72, v_past_72, v_pastMany_72, v_faultKind_72, v_faultPlace_72, u_135_rowOf, u_135_rows, v_wrongKind_72, v_wrongPlace_72, v_readWords_72, v_readPassages_72, v_readLetter_72, v_readCue_72, v_readPassage_72) = some (r, o_w, o_past, o_pastMany, o_faultKind, o_faultPlace, o_rowOf, o_rows, o_wrongKind, o_wrongPlace, o_readWords, o_readPassages, o_readLetter, o_readCue, o_readPassage) := hF
        have hP9 := hP
        have hD9 := hD
        cases hF
        subst hQ
        subst hAe
        exact W.iret hx hb hr (fun t ht hW => ⟨⟨_, (), rfl, rfl, ⟨by rw [ht]; exact hP9, hD9⟩⟩, hS.F ht⟩) hS.2.2 dX4_load_142
      · have hF := (if_neg c_77).symm.trans hF
        refine lv_aload_n hx hb dX4_load_80 rfl (lv_at hl 0 rfl) ?_
        refine va_get (D := (dC, dI)) (ci := 4) (v := .ref a_w) (C := RX4) (T := TX4) (N := 19) hx hb hts inX4 hown hK hP 0 rfl rfl 0 (by decide) fl7 (fun _ h9 => h9) rfl dX4_load_81 ?_
        refine lv_sipush (v := (150 : Int32)) hx hb dX4_load_84 (by decide) ?_
        refine lv_iload_n hx hb dX4_load_87 rfl (lv_at hl 1 rfl) ?_
        refine lv_iadd hx hb dX4_load_88 ?_
        refine lv_aload_n hx hb dX4_load_89 rfl (lv_at hl 0 rfl) ?_
        refine va_get (D := (dC, dI)) (ci := 4) (v := .ref a_readLetter) (C := RX4) (T := TX4) (N := 19) hx hb hts inX4 hown hK hP 0 rfl rfl 15 (by decide) fl32 (fun _ h9 => h9) rfl dX4_load_90 ?_
        refine lv_iload_n hx hb dX4_load_93 rfl (lv_at hl 1 rfl) ?_
        by_cases b_94 : (x1_72 < 0 ∨ 120 ≤ x1_72.toNatClampNeg)
        · exact noneE ((if_pos b_94).symm.trans hF)
        have hF := (if_neg b_94).symm.trans hF
        refine va_iald hx hb hK hP 6 0 rfl rfl b_94 dX4_load_94 ?_
        by_cases b_95 : (((150 : Int32) + x1_72) < 0 ∨ 510 ≤ (((150 : Int32) + x1_72)).toNatClampNeg)
        · exact noneE ((if_pos b_95).symm.trans hF)
        have hF := (if_neg b_95).symm.trans hF
        refine va_iast hx hb hK hP hD hS 1 0 rfl rfl b_95 dX4_load_95 (fun H locs hP hD hS => ?_)
        have hP : va_P (dC, dI) vwCl [(aM, .inr (4, [.ref a_w, .ref a_past, .int v_pastMany_72, .ref a_images, .int v_filled, .ref a_text, .int v_length, .int v_faultKind_72, .int v_faultPlace_72, .ref a_rowOf, .int v_rows_72, .int v_wrongKind_72, .int v_wrongPlace_72, .int v_readWords_72, .int v_readPassages_72, .ref a_readLetter, .ref a_readCue, .ref a_readPassage, .ref a_held])), (a_w, .inl (cI, 510, .inl (upd v_w_72 ((((150 : Int32) + x1_72)).toNatClampNeg) (v_readLetter_72 x1_72.toNatClampNeg)))), (a_past, .inl (cI, 4080, .inl v_past_72)), (a_images, .inl (cI, 1020, .inl v_images)), (a_text, .inl (cI, 140, .inl v_text)), (a_rowOf, .inl (cI, 120, .inl v_rowOf_72)), (a_readLetter, .inl (cI, 120, .inl v_readLetter_72)), (a_readCue, .inl (cI, 120, .inl v_readCue_72)), (a_readPassage, .inl (cI, 120, .inl v_readPassage_72)), (a_held, .inl (cI, 510, .inl v_held))] H := hP
        have hD : va_D A [(aM, .inr (4, [.ref a_w, .ref a_past, .int v_pastMany_72, .ref a_images, .int v_filled, .ref a_text, .int v_length, .int v_faultKind_72, .int v_faultPlace_72, .ref a_rowOf, .int v_rows_72, .int v_wrongKind_72, .int v_wrongPlace_72, .int v_readWords_72, .int v_readPassages_72, .ref a_readLetter, .ref a_readCue, .ref a_readPassage, .ref a_held])), (a_w, .inl (cI, 510, .inl (upd v_w_72 ((((150 : Int32) + x1_72)).toNatClampNeg) (v_readLetter_72 x1_72.toNatClampNeg)))), (a_past, .inl (cI, 4080, .inl v_past_72)), (a_images, .inl (cI, 1020, .inl v_images)), (a_text, .inl (cI, 140, .inl v_text)), (a_rowOf, .inl (cI, 120, .inl v_rowOf_72)), (a_readLetter, .inl (cI, 120, .inl v_readLetter_72)), (a_readCue, .inl (cI, 120, .inl v_readCue_72)), (a_readPassage, .inl (cI, 120, .inl v_readPassage_72)), (a_held, .inl (cI, 510, .inl v_held))] := hD
        obtain ⟨a_95, ha_95, hF⟩ := bindE hF
        have ha_95 := Option.some.inj ha_95
        rw [ha_95] at hP hD
        refine lv_aload_n hx hb dX4_load_96 rfl (lv_at hl 0 rfl) ?_
        refine va_get (D := (dC, dI)) (ci := 4) (v := .ref a_w) (C := RX4) (T := TX4) (N := 19) hx hb hts inX4 hown hK hP 0 rfl rfl 0 (by decide) fl7 (fun _ h9 => h9) rfl dX4_load_97 ?_
        refine lv_sipush (v := (270 : Int32)) hx hb dX4_load_100 (by decide) ?_
        refine lv_iload_n hx hb dX4_load_103 rfl (lv_at hl 1 rfl) ?_
        refine lv_iadd hx hb dX4_load_104 ?_
        refine lv_aload_n hx hb dX4_load_105 rfl (lv_at hl 0 rfl) ?_
        refine va_get (D := (dC, dI)) (ci := 4) (v := .ref a_readCue) (C := RX4) (T := TX4) (N := 19) hx hb hts inX4 hown hK hP 0 rfl rfl 16 (by decide) fl35 (fun _ h9 => h9) rfl dX4_load_106 ?_
        refine lv_iload_n hx hb dX4_load_109 rfl (lv_at hl 1 rfl) ?_
        by_cases b_110 : (x1_72 < 0 ∨ 120 ≤ x1_72.toNatClampNeg)
        · exact noneE ((if_pos b_110).symm.trans hF)
        have hF := (if_neg b_110).symm.trans hF
        refine va_iald hx hb hK hP 7 0 rfl rfl b_110 dX4_load_110 ?_
        by_cases b_111 : (((270 : Int32) + x1_72) < 0 ∨ 510 ≤ (((270 : Int32) + x1_72)).toNatClampNeg)
        · exact noneE ((if_pos b_111).symm.trans hF)
        have hF := (if_neg b_111).symm.trans hF
        refine va_iast hx hb hK hP hD hS 1 0 rfl rfl b_111 dX4_load_111 (fun H locs hP hD hS => ?_)
        have hP : va_P (dC, dI) vwCl [(aM, .inr (4, [.ref a_w, .ref a_past, .int v_pastMany_72, .ref a_images, .int v_filled, .ref a_text, .int v_length, .int v_faultKind_72, .int v_faultPlace_72, .ref a_rowOf, .int v_rows_72, .int v_wrongKind_72, .int v_wrongPlace_72, .int v_readWords_72, .int v_readPassages_72, .ref a_readLetter, .ref a_readCue, .ref a_readPassage, .ref a_held])), (a_w, .inl (cI, 510, .inl (upd a_95 ((((270 : Int32) + x1_72)).toNatClampNeg) (v_readCue_72 x1_72.toNatClampNeg)))), (a_past, .inl (cI, 4080, .inl v_past_72)), (a_images, .inl (cI, 1020, .inl v_images)), (a_text, .inl (cI, 140, .inl v_text)), (a_rowOf, .inl (cI, 120, .inl v_rowOf_72)), (a_readLetter, .inl (cI, 120, .inl v_readLetter_72)), (a_readCue, .inl (cI, 120, .inl v_readCue_72)), (a_readPassage, .inl (cI, 120, .inl v_readPassage_72)), (a_held, .inl (cI, 510, .inl v_held))] H := hP
        have hD : va_D A [(aM, .inr (4, [.ref a_w, .ref a_past, .int v_pastMany_72, .ref a_images, .int v_filled, .ref a_text, .int v_length, .int v_faultKind_72, .int v_faultPlace_72, .ref a_rowOf, .int v_rows_72, .int v_wrongKind_72, .int v_wrongPlace_72, .int v_readWords_72, .int v_readPassages_72, .ref a_readLetter, .ref a_readCue, .ref a_readPassage, .ref a_held])), (a_w, .inl (cI, 510, .inl (upd a_95 ((((270 : Int32) + x1_72)).toNatClampNeg) (v_readCue_72 x1_72.toNatClampNeg)))), (a_past, .inl (cI, 4080, .inl v_past_72)), (a_images, .inl (cI, 1020, .inl v_images)), (a_text, .inl (cI, 140, .inl v_text)), (a_rowOf, .inl (cI, 120, .inl v_rowOf_72)), (a_readLetter, .inl (cI, 120, .inl v_readLetter_72)), (a_readCue, .inl (cI, 120, .inl v_readCue_72)), (a_readPassage, .inl (cI, 120, .inl v_readPassage_72)), (a_held, .inl (cI, 510, .inl v_held))] := hD
        obtain ⟨a_111, ha_111, hF⟩ := bindE hF
        have ha_111 := Option.some.inj ha_111
        rw [ha_111] at hP hD
        refine lv_aload_n hx hb dX4_load_112 rfl (lv_at hl 0 rfl) ?_
        refine va_get (D := (dC, dI)) (ci := 4) (v := .ref a_w) (C := RX4) (T := TX4) (N := 19) hx hb hts inX4 hown hK hP 0 rfl rfl 0 (by decide) fl7 (fun _ h9 => h9) rfl dX4_load_113 ?_
        refine lv_sipush (v := (390 : Int32)) hx hb dX4_load_116 (by decide) ?_
        refine lv_iload_n hx hb dX4_load_119 rfl (lv_at hl 1 rfl) ?_
        refine lv_iadd hx hb dX4_load_120 ?_
        refine lv_aload_n hx hb dX4_load_121 rfl (lv_at hl 0 rfl) ?_
        refine va_get (D := (dC, dI)) (ci := 4) (v := .ref a_readPassage) (C := RX4) (T := TX4) (N := 19) hx hb hts inX4 hown hK hP 0 rfl rfl 17 (by decide) fl38 (fun _ h9 => h9) rfl dX4_load_122 ?_
        refine lv_iload_n hx hb dX4_load_125 rfl (lv_at hl 1 rfl) ?_
        by_cases b_126 : (x1_72 < 0 ∨ 120 ≤ x1_72.toNatClampNeg)
        · exact noneE ((if_pos b_126).symm.trans hF)
        have hF := (if_neg b_126).symm.trans hF
        refine va_iald hx hb hK hP 8 0 rfl rfl b_126 dX4_load_126 ?_
        by_cases b_127 : (((390 : Int32) + x1_72) < 0 ∨ 510 ≤ (((390 : Int32) + x1_72)).toNatClampNeg)
        · exact noneE ((if_pos b_127).symm.trans hF)
        have hF := (if_neg b_127).symm.trans hF
        refine va_iast hx hb hK hP hD hS 1 0 rfl rfl b_127 dX4_load_127 (fun H locs hP hD hS => ?_)
        have hP : va_P (dC, dI) vwCl [(aM, .inr (4, [.ref a_w, .ref a_past, .int v_pastMany_72, .ref a_images, .int v_filled, .ref a_text, .int v_length, .int v_faultKind_72, .int v_faultPlace_72, .ref a_rowOf, .int v_rows_72, .int v_wrongKind_72, .int v_wrongPlace_72, .int v_readWords_72, .int v_readPassages_72, .ref a_readLetter, .ref a_readCue, .ref a_readPassage, .ref a_held])), (a_w, .inl (cI, 510, .inl (upd a_111 ((((390 : Int32) + x1_72)).toNatClampNeg) (v_readPassage_72 x1_72.toNatClampNeg)))), (a_past, .inl (cI, 4080, .inl v_past_72)), (a_images, .inl (cI, 1020, .inl v_images)), (a_text, .inl (cI, 140, .inl v_text)), (a_rowOf, .inl (cI, 120, .inl v_rowOf_72)), (a_readLetter, .inl (cI, 120, .inl v_readLetter_72)), (a_readCue, .inl (cI, 120, .inl v_readCue_72)), (a_readPassage, .inl (cI, 120, .inl v_readPassage_72)), (a_held, .inl (cI, 510, .inl v_held))] H := hP
        have hD : va_D A [(aM, .inr (4, [.ref a_w, .ref a_past, .int v_pastMany_72, .ref a_images, .int v_filled, .ref a_text, .int v_length, .int v_faultKind_72, .int v_faultPlace_72, .ref a_rowOf, .int v_rows_72, .int v_wrongKind_72, .int v_wrongPlace_72, .int v_readWords_72, .int v_readPassages_72, .ref a_readLetter, .ref a_readCue, .ref a_readPassage, .ref a_held])), (a_w, .inl (cI, 510, .inl (upd a_111 ((((390 : Int32) + x1_72)).toNatClampNeg) (v_readPassage_72 x1_72.toNatClampNeg)))), (a_past, .inl (cI, 4080, .inl v_past_72)), (a_images, .inl (cI, 1020, .inl v_images)), (a_text, .inl (cI, 140, .inl v_text)), (a_rowOf, .inl (cI, 120, .inl v_rowOf_72)), (a_readLetter, .inl (cI, 120, .inl v_readLetter_72)), (a_readCue, .inl (cI, 120, .inl v_readCue_72)), (a_readPassage, .inl (cI, 120, .inl v_readPassage_72)), (a_held, .inl (cI, 510, .inl v_held))] := hD
        obtain ⟨a_127, ha_127, hF⟩ := bindE hF
        have ha_127 := Option.some.inj ha_127
        rw [ha_127] at hP hD
        refine lv_iinc (v := (x1_72 + 1)) (lv' := [(1, .int (x1_72 + 1)), (0, .ref aM)]) hx hb dX4_load_128 hl (k := 1) rfl rfl (by decide) rfl (fun ls hl => ?_)
        refine lv_goto (tgt := 72) hx hb dX4_load_131 (by decide) ?_
        exact ih72 v_past_72 v_pastMany_72 v_faultKind_72 v_faultPlace_72 v_rowOf_72 v_rows_72 v_wrongKind_72 v_wrongPlace_72 v_readWords_72 v_readPassages_72 v_readLetter_72 v_readCue_72 v_readPassage_72 (x1_72 + 1) a_127 hF _ _ hP hD hS _ (lv_sub hl [1, 0] rfl)
  have B39 : ∀ (n_39 : Nat) (v_past_39 : (Nat → Int32)) (v_pastMany_39 : Int32) (v_faultKind_39 : Int32) (v_faultPlace_39 : Int32) (v_rowOf_39 : (Nat → Int32)) (v_rows_39 : Int32) (v_wrongKind_39 : Int32) (v_wrongPlace_39 : Int32) (v_readWords_39 : Int32) (v_readPassages_39 : Int32) (v_readLetter_39 : (Nat → Int32)) (v_readCue_39 : (Nat → Int32)) (v_readPassage_39 : (Nat → Int32)) (x1_39 : Int32) (v_w_39 : (Nat → Int32)), f_X4_load_39 v_past_39 v_pastMany_39 v_faultKind_39 v_faultPlace_39 v_rowOf_39 v_rows_39 v_wrongKind_39 v_wrongPlace_39 v_readWords_39 v_readPassages_39 v_readLetter_39 v_readCue_39 v_readPassage_39 n_39 x1_39 v_w_39 = some (r, o_w, o_past, o_pastMany, o_faultKind, o_faultPlace, o_rowOf, o_rows, o_wrongKind, o_wrongPlace, o_readWords, o_readPassages, o_readLetter, o_readCue, o_readPassage) → ∀ (H : Heap) (locs : List Loc), va_P (dC, dI) vwCl [(aM, .inr (4, [.ref a_w, .ref a_past, .int v_pastMany_39, .ref a_images, .int v_filled, .ref a_text, .int v_length, .int v_faultKind_39, .int v_faultPlace_39, .ref a_rowOf, .int v_rows_39, .int v_wrongKind_39, .int v_wrongPlace_39, .int v_readWords_39, .int v_readPassages_39, .ref a_readLetter, .ref a_readCue, .ref a_readPassage, .ref a_held])), (a_w, .inl (cI, 510, .inl v_w_39)), (a_past, .inl (cI, 4080, .inl v_past_39)), (a_images, .inl (cI, 1020, .inl v_images)), (a_text, .inl (cI, 140, .inl v_text)), (a_rowOf, .inl (cI, 120, .inl v_rowOf_39)), (a_readLetter, .inl (cI, 120, .inl v_readLetter_39)), (a_readCue, .inl (cI, 120, .inl v_readCue_39)), (a_readPassage, .inl (cI, 120, .inl v_readPassage_39)), (a_held, .inl (cI, 510, .inl v_held))] H → va_D A [(aM, .inr (4, [.ref a_w, .ref a_past, .int v_pastMany_39, .ref a_images, .int v_filled, .ref a_text, .int v_length, .int v_faultKind_39, .int v_faultPlace_39, .ref a_rowOf, .int v_rows_39, .int v_wrongKind_39, .int v_wrongPlace_39, .int v_readWords_39, .int v_readPassages_39, .ref a_readLetter, .ref a_readCue, .ref a_readPassage, .ref a_held])), (a_w, .inl (cI, 510, .inl v_w_39)), (a_past, .inl (cI, 4080, .inl v_past_39)), (a_images, .inl (cI, 1020, .inl v_images)), (a_text, .inl (cI, 140, .inl v_text)), (a_rowOf, .inl (cI, 120, .inl v_rowOf_39)), (a_readLetter, .inl (cI, 120, .inl v_readLetter_39)), (a_readCue, .inl (cI, 120, .inl v_readCue_39)), (a_readPassage, .inl (cI, 120, .inl v_readPassage_39)), (a_held, .inl (cI, 510, .inl v_held))] → va_S A s.heap H locs → ∀ ls : Array Slot, lv_has ls 2 [(0, .ref aM), (1, .int x1_39)] → W p l e (headSpec wsX4_load rm_X4_load).room s m ([.ref aM] : List Value).toArray below meth c H locs 0 0 Q (F0 m 39 ls []) := by
    intro n_39
    induction n_39 with
    | zero => intro v_past_39 v_pastMany_39 v_faultKind_39 v_faultPlace_39 v_rowOf_39 v_rows_39 v_wrongKind_39 v_wrongPlace_39 v_readWords_39 v_readPassages_39 v_readLetter_39 v_readCue_39 v_readPassage_39 x1_39 v_w_39 hF; exact noneE hF
    | succ n_39 ih39 =>
      intro v_past_39 v_pastMany_39 v_faultKind_39 v_faultPlace_39 v_rowOf_39 v_rows_39 v_wrongKind_39 v_wrongPlace_39 v_readWords_39 v_readPassages_39 v_readLetter_39 v_readCue_39 v_readPassage_39 x1_39 v_w_39 hF H locs hP hD hS ls hl
      rw [f_X4_load_39] at hF
      refine lv_iload_n hx hb dX4_load_39 rfl (lv_at hl 1 rfl) ?_
      refine lv_sipush (v := (510 : Int32)) hx hb dX4_load_40 (by decide) ?_
      refine lv_icmp_ge (tgt := 59) hx hb dX4_load_43 (by decide) (fun c_43 => ?_) (fun c_43 => ?_)
      · have hF := (if_pos c_43).symm.trans hF
        refine lv_aload_n hx hb dX4_load_59 rfl (lv_at hl 0 rfl) ?_
        refine va_get (D := (dC, dI)) (ci := 4) (v := .ref a_w) (C := RX4) (T := TX4) (N := 19) hx hb hts inX4 hown hK hP 0 rfl rfl 0 (by decide) fl7 (fun _ h9 => h9) rfl dX4_load_60 ?_
        refine lv_bipush (v := (9 : Int32)) hx hb dX4_load_63 (by decide) ?_
        refine lv_aload_n hx hb dX4_load_65 rfl (lv_at hl 0 rfl) ?_
        refine va_get (D := (dC, dI)) (ci := 4) (v := .int v_readWords_39) (C := RX4) (T := TX4) (N := 19) hx hb hts inX4 hown hK hP 0 rfl rfl 13 (by decide) fl106 (fun _ h9 => h9) rfl dX4_load_66 ?_
        refine va_iastK hx hb hK hP hD hS 1 0 rfl rfl (inK (by decide)) (j := 9) (by decide) dX4_load_69 (fun H locs hP hD hS => ?_)
        have hP : va_P (dC, dI) vwCl [(aM, .inr (4, [.ref a_w, .ref a_past, .int v_pastMany_39, .ref a_images, .int v_filled, .ref a_text, .int v_length, .int v_faultKind_39, .int v_faultPlace_39, .ref a_rowOf, .int v_rows_39, .int v_wrongKind_39, .int v_wrongPlace_39, .int v_readWords_39, .int v_readPassages_39, .ref a_readLetter, .ref a_readCue, .ref a_readPassage, .ref a_held])), (a_w, .inl (cI, 510, .inl (upd v_w_39 9 v_readWords_39))), (a_past, .inl (cI, 4080, .inl v_past_39)), (a_images, .inl (cI, 1020, .inl v_images)), (a_text, .inl (cI, 140, .inl v_text)), (a_rowOf, .inl (cI, 120, .inl v_rowOf_39)), (a_readLetter, .inl (cI, 120, .inl v_readLetter_39)), (a_readCue, .inl (cI, 120, .inl v_readCue_39)), (a_readPassage, .inl (cI, 120, .inl v_readPassage_39)), (a_held, .inl (cI, 510, .inl v_held))] H := hP
        have hD : va_D A [(aM, .inr (4, [.ref a_w, .ref a_past, .int v_pastMany_39, .ref a_images, .int v_filled, .ref a_text, .int v_length, .int v_faultKind_39, .int v_faultPlace_39, .ref a_rowOf, .int v_rows_39, .int v_wrongKind_39, .int v_wrongPlace_39, .int v_readWords_39, .int v_readPassages_39, .ref a_readLetter, .ref a_readCue, .ref a_readPassage, .ref a_held])), (a_w, .inl (cI, 510, .inl (upd v_w_39 9 v_readWords_39))), (a_past, .inl (cI, 4080, .inl v_past_39)), (a_images, .inl (cI, 1020, .inl v_images)), (a_text, .inl (cI, 140, .inl v_text)), (a_rowOf, .inl (cI, 120, .inl v_rowOf_39)), (a_readLetter, .inl (cI, 120, .inl v_readLetter_39)), (a_readCue, .inl (cI, 120, .inl v_readCue_39)), (a_readPassage, .inl (cI, 120, .inl v_readPassage_39)), (a_held, .inl (cI, 510, .inl v_held))] := hD
        obtain ⟨a_69, ha_69, hF⟩ := bindE hF
        have ha_69 := Option.some.inj ha_69
        rw [ha_69] at hP hD
        refine lv_iconst (v := (0 : Int32)) hx hb dX4_load_70 (by decide) ?_
        refine lv_istore_n (lv' := [(1, .int (0 : Int32)), (0, .ref aM)]) hx hb dX4_load_71 rfl hl (by decide) rfl (fun ls hl => ?_)
        exact B72 gas v_past_39 v_pastMany_39 v_faultKind_39 v_faultPlace_39 v_rowOf_39 v_rows_39 v_wrongKind_39 v_wrongPlace_39 v_readWords_39 v_readPassages_39 v_readLetter_39 v_readCue_39 v_readPassage_39 (0 : Int32) a_69 hF _ _ hP hD hS _ (lv_sub hl [1, 0] rfl)
      · have hF := (if_neg c_43).symm.trans hF
        refine lv_aload_n hx hb dX4_load_46 rfl (lv_at hl 0 rfl) ?_
        refine va_get (D := (dC, dI)) (ci := 4) (v := .ref a_w) (C := RX4) (T := TX4) (N := 19) hx hb hts inX4 hown hK hP 0 rfl rfl 0 (by decide) fl7 (fun _ h9 => h9) rfl dX4_load_47 ?_
        refine lv_iload_n hx hb dX4_load_50 rfl (lv_at hl 1 rfl) ?_
        refine lv_iconst (v := (0 : Int32)) hx hb dX4_load_51 (by decide) ?_
        by_cases b_52 : (x1_39 < 0 ∨ 510 ≤ x1_39.toNatClampNeg)
        · exact noneE ((if_pos b_52).symm.trans hF)
        have hF := (if_neg b_52).symm.trans hF
        refine va_iast hx hb hK hP hD hS 1 0 rfl rfl b_52 dX4_load_52 (fun H locs hP hD hS => ?_)
        have hP : va_P (dC, dI) vwCl [(aM, .inr (4, [.ref a_w, .ref a_past, .int v_pastMany_39, .ref a_images, .int v_filled, .ref a_text, .int v_length, .int v_faultKind_39, .int v_faultPlace_39, .ref a_rowOf, .int v_rows_39, .int v_wrongKind_39, .int v_wrongPlace_39, .int v_readWords_39, .int v_readPassages_39, .ref a_readLetter, .ref a_readCue, .ref a_readPassage, .ref a_held])), (a_w, .inl (cI, 510, .inl (upd v_w_39 x1_39.toNatClampNeg (0 : Int32)))), (a_past, .inl (cI, 4080, .inl v_past_39)), (a_images, .inl (cI, 1020, .inl v_images)), (a_text, .inl (cI, 140, .inl v_text)), (a_rowOf, .inl (cI, 120, .inl v_rowOf_39)), (a_readLetter, .inl (cI, 120, .inl v_readLetter_39)), (a_readCue, .inl (cI, 120, .inl v_readCue_39)), (a_readPassage, .inl (cI, 120, .inl v_readPassage_39)), (a_held, .inl (cI, 510, .inl v_held))] H := hP
        have hD : va_D A [(aM, .inr (4, [.ref a_w, .ref a_past, .int v_pastMany_39, .ref a_images, .int v_filled, .ref a_text, .int v_length, .int v_faultKind_39, .int v_faultPlace_39, .ref a_rowOf, .int v_rows_39, .int v_wrongKind_39, .int v_wrongPlace_39, .int v_readWords_39, .int v_readPassages_39, .ref a_readLetter, .ref a_readCue, .ref a_readPassage, .ref a_held])), (a_w, .inl (cI, 510, .inl (upd v_w_39 x1_39.toNatClampNeg (0 : Int32)))), (a_past, .inl (cI, 4080, .inl v_past_39)), (a_images, .inl (cI, 1020, .inl v_images)), (a_text, .inl (cI, 140, .inl v_text)), (a_rowOf, .inl (cI, 120, .inl v_rowOf_39)), (a_readLetter, .inl (cI, 120, .inl v_readLetter_39)), (a_readCue, .inl (cI, 120, .inl v_readCue_39)), (a_readPassage, .inl (cI, 120, .inl v_readPassage_39)), (a_held, .inl (cI, 510, .inl v_held))] := hD
        obtain ⟨a_52, ha_52, hF⟩ := bindE hF
        have ha_52 := Option.some.inj ha_52
        rw [ha_52] at hP hD
        refine lv_iinc (v := (x1_39 + 1)) (lv' := [(1, .int (x1_39 + 1)), (0, .ref aM)]) hx hb dX4_load_53 hl (k := 1) rfl rfl (by decide) rfl (fun ls hl => ?_)
        refine lv_goto (tgt := 39) hx hb dX4_load_56 (by decide) ?_
        exact ih39 v_past_39 v_pastMany_39 v_faultKind_39 v_faultPlace_39 v_rowOf_39 v_rows_39 v_wrongKind_39 v_wrongPlace_39 v_readWords_39 v_readPassages_39 v_readLetter_39 v_readCue_39 v_readPassage_39 (x1_39 + 1) a_52 hF _ _ hP hD hS _ (lv_sub hl [1, 0] rfl)
  unfold f_X4_load at hF
  refine lv_aload_n hx hb dX4_load_0 rfl (lv_at hl 0 rfl) ?_
  obtain ⟨q_1, hq_1, hF⟩ := bindE hF
  obtain ⟨u_1_wrongKind, u_1_wrongPlace, u_1_readWords, u_1_readPassages, u_1_readLetter, u_1_readCue, u_1_readPassage⟩ := q_1
  have hPc := hP
  have hDc := hD
  have hFc := va_free (wc := [(aM, .inr (4, [.ref a_w, .ref a_past, .int v_pastMany, .ref a_images, .int v_filled, .ref a_text, .int v_length, .int v_faultKind, .int v_faultPlace, .ref a_rowOf, .int v_rows, .int v_wrongKind, .int v_wrongPlace, .int v_readWords, .int v_readPassages, .ref a_readLetter, .ref a_readCue, .ref a_readPassage, .ref a_held])), (a_w, .inl (cI, 510, .inl v_w)), (a_past, .inl (cI, 4080, .inl v_past)), (a_images, .inl (cI, 1020, .inl v_images)), (a_text, .inl (cI, 140, .inl v_text)), (a_rowOf, .inl (cI, 120, .inl v_rowOf)), (a_readLetter, .inl (cI, 120, .inl v_readLetter)), (a_readCue, .inl (cI, 120, .inl v_readCue)), (a_readPassage, .inl (cI, 120, .inl v_readPassage)), (a_held, .inl (cI, 510, .inl v_held))]) hD hS hA [0, 1, 2, 3, 4, 5, 6, 7, 8, 9] rfl
  refine va_callv (va_runV (As := []) (rest := []) ⟨hx, hb, hml, hown, hts⟩ (c_X4_readText l dC dI cI cZ cO aM a_w a_past a_images a_text a_rowOf a_readLetter a_readCue a_readPassage a_held H.size v_w v_past v_pastMany v_images v_filled v_text v_length v_faultKind v_faultPlace v_rowOf v_rows v_wrongKind v_wrongPlace v_readWords v_readPassages v_readLetter v_readCue v_readPassage v_held u_1_wrongKind u_1_wrongPlace u_1_readWords u_1_readPassages u_1_readLetter u_1_readCue u_1_readPassage hq_1) (cwV 0 hts gX4_load_X4_readText rfl rfl rfl (by decide +kernel) ⟨Nat.le_of_ble_eq_true rfl, Nat.le_of_ble_eq_true rfl⟩) ⟨fb_wr, va_recv hK hPc (ci := 4) (q0 := 0) rfl rfl, pre_wr hPc hK hN hDc⟩ rfl rfl hl.1 rfl (lv_room (Nat.le_of_ble_eq_true rfl)) dX4_load_1 ⟨Nat.zero_le _, Nat.zero_le _⟩) hS (fun q _ h => hFc q h) hFc (fun _ t H1 locs ht hvm hw hB hz1 hk1 hS => ?_)
  obtain ⟨hP1, hD1⟩ := hB
  rw [ht] at hP1
  obtain ⟨hP, hD⟩ := va_join (wr := []) (w1 := [(aM, .inr (4, [.ref a_w, .ref a_past, .int v_pastMany, .ref a_images, .int v_filled, .ref a_text, .int v_length, .int v_faultKind, .int v_faultPlace, .ref a_rowOf, .int v_rows, .int u_1_wrongKind, .int u_1_wrongPlace, .int u_1_readWords, .int u_1_readPassages, .ref a_readLetter, .ref a_readCue, .ref a_readPassage, .ref a_held])), (a_w, .inl (cI, 510, .inl v_w)), (a_past, .inl (cI, 4080, .inl v_past)), (a_images, .inl (cI, 1020, .inl v_images)), (a_text, .inl (cI, 140, .inl v_text)), (a_rowOf, .inl (cI, 120, .inl v_rowOf)), (a_readLetter, .inl (cI, 120, .inl u_1_readLetter)), (a_readCue, .inl (cI, 120, .inl u_1_readCue)), (a_readPassage, .inl (cI, 120, .inl u_1_readPassage)), (a_held, .inl (cI, 510, .inl v_held))]) hP hD [0, 1, 2, 3, 4, 5, 6, 7, 8, 9] [] rfl rfl (by decide) (by decide) hk1 hFc hP1 hD1
  generalize H1 = H at hP hS ⊢
  have hP : va_P (dC, dI) vwCl [(aM, .inr (4, [.ref a_w, .ref a_past, .int v_pastMany, .ref a_images, .int v_filled, .ref a_text, .int v_length, .int v_faultKind, .int v_faultPlace, .ref a_rowOf, .int v_rows, .int u_1_wrongKind, .int u_1_wrongPlace, .int u_1_readWords, .int u_1_readPassages, .ref a_readLetter, .ref a_readCue, .ref a_readPassage, .ref a_held])), (a_w, .inl (cI, 510, .inl v_w)), (a_past, .inl (cI, 4080, .inl v_past)), (a_images, .inl (cI, 1020, .inl v_images)), (a_text, .inl (cI, 140, .inl v_text)), (a_rowOf, .inl (cI, 120, .inl v_rowOf)), (a_readLetter, .inl (cI, 120, .inl u_1_readLetter)), (a_readCue, .inl (cI, 120, .inl u_1_readCue)), (a_readPassage, .inl (cI, 120, .inl u_1_readPassage)), (a_held, .inl (cI, 510, .inl v_held))] H := hP
  have hD : va_D A [(aM, .inr (4, [.ref a_w, .ref a_past, .int v_pastMany, .ref a_images, .int v_filled, .ref a_text, .int v_length, .int v_faultKind, .int v_faultPlace, .ref a_rowOf, .int v_rows, .int u_1_wrongKind, .int u_1_wrongPlace, .int u_1_readWords, .int u_1_readPassages, .ref a_readLetter, .ref a_readCue, .ref a_readPassage, .ref a_held])), (a_w, .inl (cI, 510, .inl v_w)), (a_past, .inl (cI, 4080, .inl v_past)), (a_images, .inl (cI, 1020, .inl v_images)), (a_text, .inl (cI, 140, .inl v_text)), (a_rowOf, .inl (cI, 120, .inl v_rowOf)), (a_readLetter, .inl (cI, 120, .inl u_1_readLetter)), (a_readCue, .inl (cI, 120, .inl u_1_readCue)), (a_readPassage, .inl (cI, 120, .inl u_1_readPassage)), (a_held, .inl (cI, 510, .inl v_held))] := hD
  refine lv_aload_n hx hb dX4_load_4 rfl (lv_at hl 0 rfl) ?_
  refine va_get (D := (dC, dI)) (ci := 4) (v := .int u_1_wrongKind) (C := RX4) (T := TX4) (N := 19) hx hb hts inX4 hown hK hP 0 rfl rfl 11 (by decide) fl100 (fun _ h9 => h9) rfl dX4_load_5 ?_
  refine lv_bipush (v := (-9 : Int32)) hx hb dX4_load_8 (by decide) ?_
  refine lv_icmp_eq (tgt := 32) hx hb dX4_load_10 (by decide) (fun c_10 => ?_) (fun c_10 => ?_)
  · have hF := (if_pos c_10).symm.trans hF
    refine lv_aload_n hx hb dX4_load_32 rfl (lv_at hl 0 rfl) ?_
    obtain ⟨q_33, hq_33, hF⟩ := bindE hF
    obtain ⟨u_33_past, u_33_pastMany⟩ := q_33
    have hPc := hP
    have hDc := hD
    have hFc := va_free (wc := [(aM, .inr (4, [.ref a_w, .ref a_past, .int v_pastMany, .ref a_images, .int v_filled, .ref a_text, .int v_length, .int v_faultKind, .int v_faultPlace, .ref a_rowOf, .int v_rows, .int u_1_wrongKind, .int u_1_wrongPlace, .int u_1_readWords, .int u_1_readPassages, .ref a_readLetter, .ref a_readCue, .ref a_readPassage, .ref a_held])), (a_w, .inl (cI, 510, .inl v_w)), (a_past, .inl (cI, 4080, .inl v_past)), (a_images, .inl (cI, 1020, .inl v_images)), (a_text, .inl (cI, 140, .inl v_text)), (a_rowOf, .inl (cI, 120, .inl v_rowOf)), (a_readLetter, .inl (cI, 120, .inl u_1_readLetter)), (a_readCue, .inl (cI, 120, .inl u_1_readCue)), (a_readPassage, .inl (cI, 120, .inl u_1_readPassage)), (a_held, .inl (cI, 510, .inl v_held))]) hD hS hA [0, 1, 2, 3, 4, 5, 6, 7, 8, 9] rfl
    refine va_callv (va_runV (As := []) (rest := []) ⟨hx, hb, hml, hown, hts⟩ (c_X4_remember l dC dI cI cZ cO aM a_w a_past a_images a_text a_rowOf a_readLetter a_readCue a_readPassage a_held H.size v_w v_past v_pastMany v_images v_filled v_text v_length v_faultKind v_faultPlace v_rowOf v_rows u_1_wrongKind u_1_wrongPlace u_1_readWords u_1_readPassages u_1_readLetter u_1_readCue u_1_readPassage v_held u_33_past u_33_pastMany hq_33) (cwV 0 hts gX4_load_X4_remember rfl rfl rfl (by decide +kernel) ⟨Nat.le_of_ble_eq_true rfl, Nat.le_of_ble_eq_true rfl⟩) ⟨fb_wr, va_recv hK hPc (ci := 4) (q0 := 0) rfl rfl, pre_wr hPc hK hN hDc⟩ rfl rfl hl.1 rfl (lv_room (Nat.le_of_ble_eq_true rfl)) dX4_load_33 ⟨Nat.zero_le _, Nat.zero_le _⟩) hS (fun q _ h => hFc q h) hFc (fun _ t H1 locs ht hvm hw hB hz1 hk1 hS => ?_)
    obtain ⟨hP1, hD1⟩ := hB
    rw [ht] at hP1
    obtain ⟨hP, hD⟩ := va_join (wr := []) (w1 := [(aM, .inr (4, [.ref a_w, .ref a_past, .int u_33_pastMany, .ref a_images, .int v_filled, .ref a_text, .int v_length, .int v_faultKind, .int v_faultPlace, .ref a_rowOf, .int v_rows, .int u_1_wrongKind, .int u_1_wrongPlace, .int u_1_readWords, .int u_1_readPassages, .ref a_readLetter, .ref a_readCue, .ref a_readPassage, .ref a_held])), (a_w, .inl (cI, 510, .inl v_w)), (a_past, .inl (cI, 4080, .inl u_33_past)), (a_images, .inl (cI, 1020, .inl v_images)), (a_text, .inl (cI, 140, .inl v_text)), (a_rowOf, .inl (cI, 120, .inl v_rowOf)), (a_readLetter, .inl (cI, 120, .inl u_1_readLetter)), (a_readCue, .inl (cI, 120, .inl u_1_readCue)), (a_readPassage, .inl (cI, 120, .inl u_1_readPassage)), (a_held, .inl (cI, 510, .inl v_held))]) hP hD [0, 1, 2, 3, 4, 5, 6, 7, 8, 9] [] rfl rfl (by decide) (by decide) hk1 hFc hP1 hD1
    generalize H1 = H at hP hS ⊢
    have hP : va_P (dC, dI) vwCl [(aM, .inr (4, [.ref a_w, .ref a_past, .int u_33_pastMany, .ref a_images, .int v_filled, .ref a_text, .int v_length, .int v_faultKind, .int v_faultPlace, .ref a_rowOf, .int v_rows, .int u_1_wrongKind, .int u_1_wrongPlace, .int u_1_readWords, .int u_1_readPassages, .ref a_readLetter, .ref a_readCue, .ref a_readPassage, .ref a_held])), (a_w, .inl (cI, 510, .inl v_w)), (a_past, .inl (cI, 4080, .inl u_33_past)), (a_images, .inl (cI, 1020, .inl v_images)), (a_text, .inl (cI, 140, .inl v_text)), (a_rowOf, .inl (cI, 120, .inl v_rowOf)), (a_readLetter, .inl (cI, 120, .inl u_1_readLetter)), (a_readCue, .inl (cI, 120, .inl u_1_readCue)), (a_readPassage, .inl (cI, 120, .inl u_1_readPassage)), (a_held, .inl (cI, 510, .inl v_held))] H := hP
    have hD : va_D A [(aM, .inr (4, [.ref a_w, .ref a_past, .int u_33_pastMany, .ref a_images, .int v_filled, .ref a_text, .int v_length, .int v_faultKind, .int v_faultPlace, .ref a_rowOf, .int v_rows, .int u_1_wrongKind, .int u_1_wrongPlace, .int u_1_readWords, .int u_1_readPassages, .ref a_readLetter, .ref a_readCue, .ref a_readPassage, .ref a_held])), (a_w, .inl (cI, 510, .inl v_w)), (a_past, .inl (cI, 4080, .inl u_33_past)), (a_images, .inl (cI, 1020, .inl v_images)), (a_text, .inl (cI, 140, .inl v_text)), (a_rowOf, .inl (cI, 120, .inl v_rowOf)), (a_readLetter, .inl (cI, 120, .inl u_1_readLetter)), (a_readCue, .inl (cI, 120, .inl u_1_readCue)), (a_readPassage, .inl (cI, 120, .inl u_1_readPassage)), (a_held, .inl (cI, 510, .inl v_held))] := hD
    refine lv_bipush (v := (10 : Int32)) hx hb dX4_load_36 (by decide) ?_
    refine lv_istore_n (lv' := [(1, .int (10 : Int32)), (0, .ref aM)]) hx hb dX4_load_38 rfl hl (by decide) rfl (fun ls hl => ?_)
    exact B39 gas u_33_past u_33_pastMany v_faultKind v_faultPlace v_rowOf v_rows u_1_wrongKind u_1_wrongPlace u_1_readWords u_1_readPassages u_1_readLetter u_1_readCue u_1_readPassage (10 : Int32) v_w hF _ _ hP hD hS _ (lv_sub hl [1, 0] rfl)
  · have hF := (if_neg c_10).symm.trans hF
    refine lv_aload_n hx hb dX4_load_13 rfl (lv_at hl 0 rfl) ?_
    refine lv_aload_n hx hb dX4_load_14 rfl (lv_at hl 0 rfl) ?_
    refine va_get (D := (dC, dI)) (ci := 4) (v := .int u_1_wrongKind) (C := RX4) (T := TX4) (N := 19) hx hb hts inX4 hown hK hP 0 rfl rfl 11 (by decide) fl100 (fun _ h9 => h9) rfl dX4_load_15 ?_
    refine va_put (D := (dC, dI)) (ci := 4) (v := .int u_1_wrongKind) (ty := .int) (C := RX4) (T := TX4) (N := 19) hx hb hts inX4 tyX4 tyX4_ok nmX4 hown hK hP hD hS 0 rfl rfl 7 (by decide) fl22 (fun _ h9 => h9) rfl (by decide +kernel) rfl rfl (Nat.le_of_ble_eq_true rfl) dX4_load_18 (fun H locs hP hD hS => ?_)
    have hP : va_P (dC, dI) vwCl [(aM, .inr (4, [.ref a_w, .ref a_past, .int v_pastMany, .ref a_images, .int v_filled, .ref a_text, .int v_length, .int u_1_wrongKind, .int v_faultPlace, .ref a_rowOf, .int v_rows, .int u_1_wrongKind, .int u_1_wrongPlace, .int u_1_readWords, .int u_1_readPassages, .ref a_readLetter, .ref a_readCue, .ref a_readPassage, .ref a_held])), (a_w, .inl (cI, 510, .inl v_w)), (a_past, .inl (cI, 4080, .inl v_past)), (a_images, .inl (cI, 1020, .inl v_images)), (a_text, .inl (cI, 140, .inl v_text)), (a_rowOf, .inl (cI, 120, .inl v_rowOf)), (a_readLetter, .inl (cI, 120, .inl u_1_readLetter)), (a_readCue, .inl (cI, 120, .inl u_1_readCue)), (a_readPassage, .inl (cI, 120, .inl u_1_readPassage)), (a_held, .inl (cI, 510, .inl v_held))] H := hP
    have hD : va_D A [(aM, .inr (4, [.ref a_w, .ref a_past, .int v_pastMany, .ref a_images, .int v_filled, .ref a_text, .int v_length, .int u_1_wrongKind, .int v_faultPlace, .ref a_rowOf, .int v_rows, .int u_1_wrongKind, .int u_1_wrongPlace, .int u_1_readWords, .int u_1_readPassages, .ref a_readLetter, .ref a_readCue, .ref a_readPassage, .ref a_held])), (a_w, .inl (cI, 510, .inl v_w)), (a_past, .inl (cI, 4080, .inl v_past)), (a_images, .inl (cI, 1020, .inl v_images)), (a_text, .inl (cI, 140, .inl v_text)), (a_rowOf, .inl (cI, 120, .inl v_rowOf)), (a_readLetter, .inl (cI, 120, .inl u_1_readLetter)), (a_readCue, .inl (cI, 120, .inl u_1_readCue)), (a_readPassage, .inl (cI, 120, .inl u_1_readPassage)), (a_held, .inl (cI, 510, .inl v_held))] := hD
    refine lv_aload_n hx hb dX4_load_21 rfl (lv_at hl 0 rfl) ?_
    refine lv_aload_n hx hb dX4_load_22 rfl (lv_at hl 0 rfl) ?_
    refine va_get (D := (dC, dI)) (ci := 4) (v := .int u_1_wrongPlace) (C := RX4) (T := TX4) (N := 19) hx hb hts inX4 hown hK hP 0 rfl rfl 12 (by decide) fl103 (fun _ h9 => h9) rfl dX4_load_23 ?_
    refine va_put (D := (dC, dI)) (ci := 4) (v := .int u_1_wrongPlace) (ty := .int) (C := RX4) (T := TX4) (N := 19) hx hb hts inX4 tyX4 tyX4_ok nmX4 hown hK hP hD hS 0 rfl rfl 8 (by decide) fl26 (fun _ h9 => h9) rfl (by decide +kernel) rfl rfl (Nat.le_of_ble_eq_true rfl) dX4_load_26 (fun H locs hP hD hS => ?_)
    have hP : va_P (dC, dI) vwCl [(aM, .inr (4, [.ref a_w, .ref a_past, .int v_pastMany, .ref a_images, .int v_filled, .ref a_text, .int v_length, .int u_1_wrongKind, .int u_1_wrongPlace, .ref a_rowOf, .int v_rows, .int u_1_wrongKind, .int u_1_wrongPlace, .int u_1_readWords, .int u_1_readPassages, .ref a_readLetter, .ref a_readCue, .ref a_readPassage, .ref a_held])), (a_w, .inl (cI, 510, .inl v_w)), (a_past, .inl (cI, 4080, .inl v_past)), (a_images, .inl (cI, 1020, .inl v_images)), (a_text, .inl (cI, 140, .inl v_text)), (a_rowOf, .inl (cI, 120, .inl v_rowOf)), (a_readLetter, .inl (cI, 120, .inl u_1_readLetter)), (a_readCue, .inl (cI, 120, .inl u_1_readCue)), (a_readPassage, .inl (cI, 120, .inl u_1_readPassage)), (a_held, .inl (cI, 510, .inl v_held))] H := hP
    have hD : va_D A [(aM, .inr (4, [.ref a_w, .ref a_past, .int v_pastMany, .ref a_images, .int v_filled, .ref a_text, .int v_length, .int u_1_wrongKind, .int u_1_wrongPlace, .ref a_rowOf, .int v_rows, .int u_1_wrongKind, .int u_1_wrongPlace, .int u_1_readWords, .int u_1_readPassages, .ref a_readLetter, .ref a_readCue, .ref a_readPassage, .ref a_held])), (a_w, .inl (cI, 510, .inl v_w)), (a_past, .inl (cI, 4080, .inl v_past)), (a_images, .inl (cI, 1020, .inl v_images)), (a_text, .inl (cI, 140, .inl v_text)), (a_rowOf, .inl (cI, 120, .inl v_rowOf)), (a_readLetter, .inl (cI, 120, .inl u_1_readLetter)), (a_readCue, .inl (cI, 120, .inl u_1_readCue)), (a_readPassage, .inl (cI, 120, .inl u_1_readPassage)), (a_held, .inl (cI, 510, .inl v_held))] := hD
    refine lv_bipush (v := (-2 : Int32)) hx hb dX4_load_29 (by decide) ?_
    have hF : some ((-2 : Int32), v_w, v_past, v_pastMany, u_1_wrongKind, u_1_wrongPlace, v_rowOf, v_rows, u_1_wrongKind, u_1_wrongPlace, u_1_readWords, u_1_readPassages, u_1_readLetter, u_1_readCue, u_1_readPassage) = some (r, o_w, o_past, o_pastMany, o_faultKind, o_faultPlace, o_rowOf, o_rows, o_wrongKind, o_wrongPlace, o_readWords, o_readPassages, o_readLetter, o_readCue, o_readPassage) := hF
    have hP9 := hP
    have hD9 := hD
    cases hF
    subst hQ
    subst hAe
    exact W.iret hx hb hr (fun t ht hW => ⟨⟨_, (), rfl, rfl, ⟨by rw [ht]; exact hP9, hD9⟩⟩, hS.F ht⟩) hS.2.2 dX4_load_31
def f_X4_write (p1 : Int32) (v_text : (Nat → Int32)) (v_length : Int32) : Option (Int32 × (Nat → Int32) × Int32) :=
  (f_X4_isIn p1 (32 : Int32) (126 : Int32)).bind fun q5 =>
  if q5 = (0 : Int32) then
    some ((-1 : Int32), v_text, v_length)
  else
    if v_length = (140 : Int32) then
      some ((-3 : Int32), v_text, v_length)
    else
      if v_length < 0 ∨ 140 ≤ v_length.toNatClampNeg then none else
      some ((v_length + (1 : Int32)), (upd v_text v_length.toNatClampNeg p1), (v_length + (1 : Int32)))
def rm_X4_write : Room := { frames := 1, cells := 0, slots := 0, locals := 22 }
set_option maxHeartbeats 4000000 in
set_option maxRecDepth 100000 in
theorem c_X4_write (l : Launch) (dC : Nat → ClassId) (dI : Nat → Nat → Nat) (cI cZ cO : ClassId) (aM a_w a_past a_images a_text a_rowOf a_readLetter a_readCue a_readPassage a_held : Nat) (sz : Nat) (p1 : Int32) (v_w : (Nat → Int32)) (v_past : (Nat → Int32)) (v_pastMany : Int32) (v_images : (Nat → Int32)) (v_filled : Int32) (v_text : (Nat → Int32)) (v_length : Int32) (v_faultKind : Int32) (v_faultPlace : Int32) (v_rowOf : (Nat → Int32)) (v_rows : Int32) (v_wrongKind : Int32) (v_wrongPlace : Int32) (v_readWords : Int32) (v_readPassages : Int32) (v_readLetter : (Nat → Int32)) (v_readCue : (Nat → Int32)) (v_readPassage : (Nat → Int32)) (v_held : (Nat → Int32)) (r : Int32) (o_text : (Nat → Int32)) (o_length : Int32) (hF : f_X4_write p1 v_text v_length = some (r, o_text, o_length)) : Met l yX4_write wsX4_write rm_X4_write (va_Pc [.ref aM, .int p1] (wrW dC dI cI cZ cO sz [(aM, .inr (4, [.ref a_w, .ref a_past, .int v_pastMany, .ref a_images, .int v_filled, .ref a_text, .int v_length, .int v_faultKind, .int v_faultPlace, .ref a_rowOf, .int v_rows, .int v_wrongKind, .int v_wrongPlace, .int v_readWords, .int v_readPassages, .ref a_readLetter, .ref a_readCue, .ref a_readPassage, .ref a_held])), (a_w, .inl (cI, 510, .inl v_w)), (a_past, .inl (cI, 4080, .inl v_past)), (a_images, .inl (cI, 1020, .inl v_images)), (a_text, .inl (cI, 140, .inl v_text)), (a_rowOf, .inl (cI, 120, .inl v_rowOf)), (a_readLetter, .inl (cI, 120, .inl v_readLetter)), (a_readCue, .inl (cI, 120, .inl v_readCue)), (a_readPassage, .inl (cI, 120, .inl v_readPassage)), (a_held, .inl (cI, 510, .inl v_held))])) (va_Qi (fun (q : Int32) (_ : Unit) => r = q) (wrE dC dI [(aM, .inr (4, [.ref a_w, .ref a_past, .int v_pastMany, .ref a_images, .int v_filled, .ref a_text, .int v_length, .int v_faultKind, .int v_faultPlace, .ref a_rowOf, .int v_rows, .int v_wrongKind, .int v_wrongPlace, .int v_readWords, .int v_readPassages, .ref a_readLetter, .ref a_readCue, .ref a_readPassage, .ref a_held])), (a_w, .inl (cI, 510, .inl v_w)), (a_past, .inl (cI, 4080, .inl v_past)), (a_images, .inl (cI, 1020, .inl v_images)), (a_text, .inl (cI, 140, .inl v_text)), (a_rowOf, .inl (cI, 120, .inl v_rowOf)), (a_readLetter, .inl (cI, 120, .inl v_readLetter)), (a_readCue, .inl (cI, 120, .inl v_readCue)), (a_readPassage, .inl (cI, 120, .inl v_readPassage)), (a_held, .inl (cI, 510, .inl v_held))] sz [(aM, .inr (4, [.ref a_w, .ref a_past, .int v_pastMany, .ref a_images, .int v_filled, .ref a_text, .int o_length, .int v_faultKind, .int v_faultPlace, .ref a_rowOf, .int v_rows, .int v_wrongKind, .int v_wrongPlace, .int v_readWords, .int v_readPassages, .ref a_readLetter, .ref a_readCue, .ref a_readPassage, .ref a_held])), (a_w, .inl (cI, 510, .inl v_w)), (a_past, .inl (cI, 4080, .inl v_past)), (a_images, .inl (cI, 1020, .inl v_images)), (a_text, .inl (cI, 140, .inl o_text)), (a_rowOf, .inl (cI, 120, .inl v_rowOf)), (a_readLetter, .inl (cI, 120, .inl v_readLetter)), (a_readCue, .inl (cI, 120, .inl v_readCue)), (a_readPassage, .inl (cI, 120, .inl v_readPassage)), (a_held, .inl (cI, 510, .inl v_held))]) (va_A [(aM, .inr (4, [.ref a_w, .ref a_past, .int v_pastMany, .ref a_images, .int v_filled, .ref a_text, .int v_length, .int v_faultKind, .int v_faultPlace, .ref a_rowOf, .int v_rows, .int v_wrongKind, .int v_wrongPlace, .int v_readWords, .int v_readPassages, .ref a_readLetter, .ref a_readCue, .ref a_readPassage, .ref a_held])), (a_w, .inl (cI, 510, .inl v_w)), (a_past, .inl (cI, 4080, .inl v_past)), (a_images, .inl (cI, 1020, .inl v_images)), (a_text, .inl (cI, 140, .inl v_text)), (a_rowOf, .inl (cI, 120, .inl v_rowOf)), (a_readLetter, .inl (cI, 120, .inl v_readLetter)), (a_readCue, .inl (cI, 120, .inl v_readCue)), (a_readPassage, .inl (cI, 120, .inl v_readPassage)), (a_held, .inl (cI, 510, .inl v_held))] sz)) 0 0 (va_A [(aM, .inr (4, [.ref a_w, .ref a_past, .int v_pastMany, .ref a_images, .int v_filled, .ref a_text, .int v_length, .int v_faultKind, .int v_faultPlace, .ref a_rowOf, .int v_rows, .int v_wrongKind, .int v_wrongPlace, .int v_readWords, .int v_readPassages, .ref a_readLetter, .ref a_readCue, .ref a_readPassage, .ref a_held])), (a_w, .inl (cI, 510, .inl v_w)), (a_past, .inl (cI, 4080, .inl v_past)), (a_images, .inl (cI, 1020, .inl v_images)), (a_text, .inl (cI, 140, .inl v_text)), (a_rowOf, .inl (cI, 120, .inl v_rowOf)), (a_readLetter, .inl (cI, 120, .inl v_readLetter)), (a_readCue, .inl (cI, 120, .inl v_readCue)), (a_readPassage, .inl (cI, 120, .inl v_readPassage)), (a_held, .inl (cI, 510, .inl v_held))] sz) := by
  refine Met.ofW (cc := cX4_write) (maxL := 2) (ret := (some .int)) (by decide) rfl ?_
  intro p e s m args below meth c s₁ B hml hv
  obtain ⟨rfl, hsz, hP, hK, hN, hD0⟩ := hv
  have hx := B.exec
  have hb := B.bytes
  have hr := B.returns
  have hts := atoms_spec (ws := wsX4_write) B.pre
  have hown : s.vm.findClass RX4 = some m.cls := findClass_of_methodNamed B.named
  have hlocks := B.notSynchronized
  subst hsz
  have hD := hD0.self (sz := s.heap.size)
  obtain ⟨Q, hQ⟩ : ∃ Q, Q = MQ below (va_Qi (fun (q : Int32) (_ : Unit) => r = q) (wrE dC dI [(aM, .inr (4, [.ref a_w, .ref a_past, .int v_pastMany, .ref a_images, .int v_filled, .ref a_text, .int v_length, .int v_faultKind, .int v_faultPlace, .ref a_rowOf, .int v_rows, .int v_wrongKind, .int v_wrongPlace, .int v_readWords, .int v_readPassages, .ref a_readLetter, .ref a_readCue, .ref a_readPassage, .ref a_held])), (a_w, .inl (cI, 510, .inl v_w)), (a_past, .inl (cI, 4080, .inl v_past)), (a_images, .inl (cI, 1020, .inl v_images)), (a_text, .inl (cI, 140, .inl v_text)), (a_rowOf, .inl (cI, 120, .inl v_rowOf)), (a_readLetter, .inl (cI, 120, .inl v_readLetter)), (a_readCue, .inl (cI, 120, .inl v_readCue)), (a_readPassage, .inl (cI, 120, .inl v_readPassage)), (a_held, .inl (cI, 510, .inl v_held))] s.heap.size [(aM, .inr (4, [.ref a_w, .ref a_past, .int v_pastMany, .ref a_images, .int v_filled, .ref a_text, .int o_length, .int v_faultKind, .int v_faultPlace, .ref a_rowOf, .int v_rows, .int v_wrongKind, .int v_wrongPlace, .int v_readWords, .int v_readPassages, .ref a_readLetter, .ref a_readCue, .ref a_readPassage, .ref a_held])), (a_w, .inl (cI, 510, .inl v_w)), (a_past, .inl (cI, 4080, .inl v_past)), (a_images, .inl (cI, 1020, .inl v_images)), (a_text, .inl (cI, 140, .inl o_text)), (a_rowOf, .inl (cI, 120, .inl v_rowOf)), (a_readLetter, .inl (cI, 120, .inl v_readLetter)), (a_readCue, .inl (cI, 120, .inl v_readCue)), (a_readPassage, .inl (cI, 120, .inl v_readPassage)), (a_held, .inl (cI, 510, .inl v_held))]) (va_A [(aM, .inr (4, [.ref a_w, .ref a_past, .int v_pastMany, .ref a_images, .int v_filled, .ref a_text, .int v_length, .int v_faultKind, .int v_faultPlace, .ref a_rowOf, .int v_rows, .int v_wrongKind, .int v_wrongPlace, .int v_readWords, .int v_readPassages, .ref a_readLetter, .ref a_readCue, .ref a_readPassage, .ref a_held])), (a_w, .inl (cI, 510, .inl v_w)), (a_past, .inl (cI, 4080, .inl v_past)), (a_images, .inl (cI, 1020, .inl v_images)), (a_text, .inl (cI, 140, .inl v_text)), (a_rowOf, .inl (cI, 120, .inl v_rowOf)), (a_readLetter, .inl (cI, 120, .inl v_readLetter)), (a_readCue, .inl (cI, 120, .inl v_readCue)), (a_readPassage, .inl (cI, 120, .inl v_readPassage)), (a_held, .inl (cI, 510, .inl v_held))] s.heap.size)) ([.ref aM, .int p1] : List Value).toArray s 0 0 (va_A [(aM, .inr (4, [.ref a_w, .ref a_past, .int v_pastMany, .ref a_images, .int v_filled, .ref a_text, .int v_length, .int v_faultKind, .int v_faultPlace, .ref a_rowOf, .int v_rows, .int v_wrongKind, .int v_wrongPlace, .int v_readWords, .int v_readPassages, .ref a_readLetter, .ref a_readCue, .ref a_readPassage, .ref a_held])), (a_w, .inl (cI, 510, .inl v_w)), (a_past, .inl (cI, 4080, .inl v_past)), (a_images, .inl (cI, 1020, .inl v_images)), (a_text, .inl (cI, 140, .inl v_text)), (a_rowOf, .inl (cI, 120, .inl v_rowOf)), (a_readLetter, .inl (cI, 120, .inl v_readLetter)), (a_readCue, .inl (cI, 120, .inl v_readCue)), (a_readPassage, .inl (cI, 120, .inl v_readPassage)), (a_held, .inl (cI, 510, .inl v_held))] s.heap.size) := ⟨_, rfl⟩
  rw [← hQ]
  obtain ⟨A, hAe⟩ : ∃ A, A = va_A [(aM, .inr (4, [.ref a_w, .ref a_past, .int v_pastMany, .ref a_images, .int v_filled, .ref a_text, .int v_length, .int v_faultKind, .int v_faultPlace, .ref a_rowOf, .int v_rows, .int v_wrongKind, .int v_wrongPlace, .int v_readWords, .int v_readPassages, .ref a_readLetter, .ref a_readCue, .ref a_readPassage, .ref a_held])), (a_w, .inl (cI, 510, .inl v_w)), (a_past, .inl (cI, 4080, .inl v_past)), (a_images, .inl (cI, 1020, .inl v_images)), (a_text, .inl (cI, 140, .inl v_text)), (a_rowOf, .inl (cI, 120, .inl v_rowOf)), (a_readLetter, .inl (cI, 120, .inl v_readLetter)), (a_readCue, .inl (cI, 120, .inl v_readCue)), (a_readPassage, .inl (cI, 120, .inl v_readPassage)), (a_held, .inl (cI, 510, .inl v_held))] s.heap.size := ⟨_, rfl⟩
  rw [← hAe] at hD
  have hA : ∀ q : Nat, s.heap.size ≤ q → A q := fun q h => by rw [hAe]; exact Or.inr h
  obtain ⟨H, hH⟩ : ∃ H, H = s.heap := ⟨_, rfl⟩
  have hS : va_S A s.heap H [] := by rw [hH]; exact va_S.rf
  rw [← hH] at hP
  rw [← hH]
  have fl126 := hts (.fieldLink RX4 126 "TeleprompterModel" "length" "I") (by decide +kernel)
  have fl19 := hts (.fieldLink RX4 19 "TeleprompterModel" "text" "[I") (by decide +kernel)
  have inX4 : ∀ w ∈ u_ws RX4 TX4 19, w ∈ wsX4_write := by decide +kernel
  have hl := lv_entry ([.ref aM, .int p1]) (n := 2) (Nat.le_of_ble_eq_true rfl)
  rw [lg_entry_eq]
  generalize (lg_sl ([.ref aM, .int p1]) ++ List.replicate (2 - (lg_sl ([.ref aM, .int p1])).length) Slot.unset).toArray = ls at hl ⊢
  have hl : lv_has ls 2 [(0, .ref aM), (1, .int p1)] := hl
  unfold f_X4_write at hF
  refine lv_iload_n hx hb dX4_write_0 rfl (lv_at hl 1 rfl) ?_
  refine lv_bipush (v := (32 : Int32)) hx hb dX4_write_1 (by decide) ?_
  refine lv_bipush (v := (126 : Int32)) hx hb dX4_write_3 (by decide) ?_
  obtain ⟨q_5, hq_5, hF⟩ := bindE hF
  have hPc := hP.sub (ws' := []) [] rfl
  refine vp_callSi (va_Run.run (va_runS (As := [.int p1, .int (32 : Int32), .int (126 : Int32)]) (rest := []) ⟨hx, hb, hml, hown, hts⟩ (c_X4_isIn l dC dI cI cZ cO p1 (32 : Int32) (126 : Int32) q_5 hq_5) (cwS 3 hts gX4_write_X4_isIn rfl rfl rfl (by decide +kernel) ⟨Nat.le_of_ble_eq_true rfl, Nat.le_of_ble_eq_true rfl⟩) ⟨fb_rd, pre_rd hPc hK hN⟩ rfl rfl hl.1 rfl (lv_room (Nat.le_of_ble_eq_true rfl)) dX4_write_5 ⟨Nat.zero_le _, Nat.zero_le _⟩)) (fun z_5 hz_5 => ?_)
  subst hz_5
  refine lv_if_ne (tgt := 13) hx hb dX4_write_8 (by decide) (fun c_8 => ?_) (fun c_8 => ?_)
  · have hF := (if_neg c_8).symm.trans hF
    refine lv_aload_n hx hb dX4_write_13 rfl (lv_at hl 0 rfl) ?_
    refine va_get (D := (dC, dI)) (ci := 4) (v := .int v_length) (C := RX4) (T := TX4) (N := 19) hx hb hts inX4 hown hK hP 0 rfl rfl 6 (by decide) fl126 (fun _ h9 => h9) rfl dX4_write_14 ?_
    refine lv_sipush (v := (140 : Int32)) hx hb dX4_write_17 (by decide) ?_
    refine lv_icmp_ne (tgt := 26) hx hb dX4_write_20 (by decide) (fun c_20 => ?_) (fun c_20 => ?_)
    · have hF := (if_neg c_20).symm.trans hF
      refine lv_aload_n hx hb dX4_write_26 rfl (lv_at hl 0 rfl) ?_
      refine va_get (D := (dC, dI)) (ci := 4) (v := .ref a_text) (C := RX4) (T := TX4) (N := 19) hx hb hts inX4 hown hK hP 0 rfl rfl 5 (by decide) fl19 (fun _ h9 => h9) rfl dX4_write_27 ?_
      refine lv_aload_n hx hb dX4_write_30 rfl (lv_at hl 0 rfl) ?_
      refine va_get (D := (dC, dI)) (ci := 4) (v := .int v_length) (C := RX4) (T := TX4) (N := 19) hx hb hts inX4 hown hK hP 0 rfl rfl 6 (by decide) fl126 (fun _ h9 => h9) rfl dX4_write_31 ?_
      refine lv_iload_n hx hb dX4_write_34 rfl (lv_at hl 1 rfl) ?_
      by_cases b_35 : (v_length < 0 ∨ 140 ≤ v_length.toNatClampNeg)
      · exact noneE ((if_pos b_35).symm.trans hF)
      have hF := (if_neg b_35).symm.trans hF
      refine va_iast hx hb hK hP hD hS 4 0 rfl rfl b_35 dX4_write_35 (fun H locs hP hD hS => ?_)
      have hP : va_P (dC, dI) vwCl [(aM, .inr (4, [.ref a_w, .ref a_past, .int v_pastMany, .ref a_images, .int v_filled, .ref a_text, .int v_length, .int v_faultKind, .int v_faultPlace, .ref a_rowOf, .int v_rows, .int v_wrongKind, .int v_wrongPlace, .int v_readWords, .int v_readPassages, .ref a_readLetter, .ref a_readCue, .ref a_readPassage, .ref a_held])), (a_w, .inl (cI, 510, .inl v_w)), (a_past, .inl (cI, 4080, .inl v_past)), (a_images, .inl (cI, 1020, .inl v_images)), (a_text, .inl (cI, 140, .inl (upd v_text v_length.toNatClampNeg p1))), (a_rowOf, .inl (cI, 120, .inl v_rowOf)), (a_readLetter, .inl (cI, 120, .inl v_readLetter)), (a_readCue, .inl (cI, 120, .inl v_readCue)), (a_readPassage, .inl (cI, 120, .inl v_readPassage)), (a_held, .inl (cI, 510, .inl v_held))] H := hP
      have hD : va_D A [(aM, .inr (4, [.ref a_w, .ref a_past, .int v_pastMany, .ref a_images, .int v_filled, .ref a_text, .int v_length, .int v_faultKind, .int v_faultPlace, .ref a_rowOf, .int v_rows, .int v_wrongKind, .int v_wrongPlace, .int v_readWords, .int v_readPassages, .ref a_readLetter, .ref a_readCue, .ref a_readPassage, .ref a_held])), (a_w, .inl (cI, 510, .inl v_w)), (a_past, .inl (cI, 4080, .inl v_past)), (a_images, .inl (cI, 1020, .inl v_images)), (a_text, .inl (cI, 140, .inl (upd v_text v_length.toNatClampNeg p1))), (a_rowOf, .inl (cI, 120, .inl v_rowOf)), (a_readLetter, .inl (cI, 120, .inl v_readLetter)), (a_readCue, .inl (cI, 120, .inl v_readCue)), (a_readPassage, .inl (cI, 120, .inl v_readPassage)), (a_held, .inl (cI, 510, .inl v_held))] := hD
      refine lv_aload_n hx hb dX4_write_36 rfl (lv_at hl 0 rfl) ?_
      refine lv_dup hx hb dX4_write_37 rfl ?_
      refine va_get (D := (dC, dI)) (ci := 4) (v := .int v_length) (C := RX4) (T := TX4) (N := 19) hx hb hts inX4 hown hK hP 0 rfl rfl 6 (by decide) fl126 (fun _ h9 => h9) rfl dX4_write_38 ?_
      refine lv_iconst (v := (1 : Int32)) hx hb dX4_write_41 (by decide) ?_
      refine lv_iadd hx hb dX4_write_42 ?_
      refine va_put (D := (dC, dI)) (ci := 4) (v := .int (v_length + (1 : Int32))) (ty := .int) (C := RX4) (T := TX4) (N := 19) hx hb hts inX4 tyX4 tyX4_ok nmX4 hown hK hP hD hS 0 rfl rfl 6 (by decide) fl126 (fun _ h9 => h9) rfl (by decide +kernel) rfl rfl (Nat.le_of_ble_eq_true rfl) dX4_write_43 (fun H locs hP hD hS => ?_)
      have hP : va_P (dC, dI) vwCl [(aM, .inr (4, [.ref a_w, .ref a_past, .int v_pastMany, .ref a_images, .int v_filled, .ref a_text, .int (v_length + (1 : Int32)), .int v_faultKind, .int v_faultPlace, .ref a_rowOf, .int v_rows, .int v_wrongKind, .int v_wrongPlace, .int v_readWords, .int v_readPassages, .ref a_readLetter, .ref a_readCue, .ref a_readPassage, .ref a_held])), (a_w, .inl (cI, 510, .inl v_w)), (a_past, .inl (cI, 4080, .inl v_past)), (a_images, .inl (cI, 1020, .inl v_images)), (a_text, .inl (cI, 140, .inl (upd v_text v_length.toNatClampNeg p1))), (a_rowOf, .inl (cI, 120, .inl v_rowOf)), (a_readLetter, .inl (cI, 120, .inl v_readLetter)), (a_readCue, .inl (cI, 120, .inl v_readCue)), (a_readPassage, .inl (cI, 120, .inl v_readPassage)), (a_held, .inl (cI, 510, .inl v_held))] H := hP
      have hD : va_D A [(aM, .inr (4, [.ref a_w, .ref a_past, .int v_pastMany, .ref a_images, .int v_filled, .ref a_text, .int (v_length + (1 : Int32)), .int v_faultKind, .int v_faultPlace, .ref a_rowOf, .int v_rows, .int v_wrongKind, .int v_wrongPlace, .int v_readWords, .int v_readPassages, .ref a_readLetter, .ref a_readCue, .ref a_readPassage, .ref a_held])), (a_w, .inl (cI, 510, .inl v_w)), (a_past, .inl (cI, 4080, .inl v_past)), (a_images, .inl (cI, 1020, .inl v_images)), (a_text, .inl (cI, 140, .inl (upd v_text v_length.toNatClampNeg p1))), (a_rowOf, .inl (cI, 120, .inl v_rowOf)), (a_readLetter, .inl (cI, 120, .inl v_readLetter)), (a_readCue, .inl (cI, 120, .inl v_readCue)), (a_readPassage, .inl (cI, 120, .inl v_readPassage)), (a_held, .inl (cI, 510, .inl v_held))] := hD
      refine lv_aload_n hx hb dX4_write_46 rfl (lv_at hl 0 rfl) ?_
      refine va_get (D := (dC, dI)) (ci := 4) (v := .int (v_length + (1 : Int32))) (C := RX4) (T := TX4) (N := 19) hx hb hts inX4 hown hK hP 0 rfl rfl 6 (by decide) fl126 (fun _ h9 => h9) rfl dX4_write_47 ?_
      have hF : some ((v_length + (1 : Int32)), (upd v_text v_length.toNatClampNeg p1), (v_length + (1 : Int32))) = some (r, o_text, o_length) := hF
      have hP9 := hP
      have hD9 := hD
      cases hF
      subst hQ
      subst hAe
      exact W.iret hx hb hr (fun t ht hW => ⟨⟨_, (), rfl, rfl, ⟨by rw [ht]; exact hP9, hD9⟩⟩, hS.F ht⟩) hS.2.2 dX4_write_50
    · have hF := (if_pos c_20).symm.trans hF
      refine lv_bipush (v := (-3 : Int32)) hx hb dX4_write_23 (by decide) ?_
      have hF : some ((-3 : Int32), v_text, v_length) = some (r, o_text, o_length) := hF
      have hP9 := hP
      have hD9 := hD
      cases hF
      subst hQ
      subst hAe
      exact W.iret hx hb hr (fun t ht hW => ⟨⟨_, (), rfl, rfl, ⟨by rw [ht]; exact hP9, hD9⟩⟩, hS.F ht⟩) hS.2.2 dX4_write_25
  · have hF := (if_pos c_8).symm.trans hF
    refine lv_iconst (v := (-1 : Int32)) hx hb dX4_write_11 (by decide) ?_
    have hF : some ((-1 : Int32), v_text, v_length) = some (r, o_text, o_length) := hF
    have hP9 := hP
    have hD9 := hD
    cases hF
    subst hQ
    subst hAe
    exact W.iret hx hb hr (fun t ht hW => ⟨⟨_, (), rfl, rfl, ⟨by rw [ht]; exact hP9, hD9⟩⟩, hS.F ht⟩) hS.2.2 dX4_write_12
def f_X4_wipe (v_length : Int32) : Option (Int32 × Int32) :=
  some (v_length, (0 : Int32))
def rm_X4_wipe : Room := { frames := 0, cells := 0, slots := 0, locals := 0 }
set_option maxHeartbeats 4000000 in
set_option maxRecDepth 100000 in
theorem c_X4_wipe (l : Launch) (dC : Nat → ClassId) (dI : Nat → Nat → Nat) (cI cZ cO : ClassId) (aM a_w a_past a_images a_text a_rowOf a_readLetter a_readCue a_readPassage a_held : Nat) (sz : Nat) (v_w : (Nat → Int32)) (v_past : (Nat → Int32)) (v_pastMany : Int32) (v_images : (Nat → Int32)) (v_filled : Int32) (v_text : (Nat → Int32)) (v_length : Int32) (v_faultKind : Int32) (v_faultPlace : Int32) (v_rowOf : (Nat → Int32)) (v_rows : Int32) (v_wrongKind : Int32) (v_wrongPlace : Int32) (v_readWords : Int32) (v_readPassages : Int32) (v_readLetter : (Nat → Int32)) (v_readCue : (Nat → Int32)) (v_readPassage : (Nat → Int32)) (v_held : (Nat → Int32)) (r : Int32) (o_length : Int32) (hF : f_X4_wipe v_length = some (r, o_length)) : Met l yX4_wipe wsX4_wipe rm_X4_wipe (va_Pc [.ref aM] (wrW dC dI cI cZ cO sz [(aM, .inr (4, [.ref a_w, .ref a_past, .int v_pastMany, .ref a_images, .int v_filled, .ref a_text, .int v_length, .int v_faultKind, .int v_faultPlace, .ref a_rowOf, .int v_rows, .int v_wrongKind, .int v_wrongPlace, .int v_readWords, .int v_readPassages, .ref a_readLetter, .ref a_readCue, .ref a_readPassage, .ref a_held])), (a_w, .inl (cI, 510, .inl v_w)), (a_past, .inl (cI, 4080, .inl v_past)), (a_images, .inl (cI, 1020, .inl v_images)), (a_text, .inl (cI, 140, .inl v_text)), (a_rowOf, .inl (cI, 120, .inl v_rowOf)), (a_readLetter, .inl (cI, 120, .inl v_readLetter)), (a_readCue, .inl (cI, 120, .inl v_readCue)), (a_readPassage, .inl (cI, 120, .inl v_readPassage)), (a_held, .inl (cI, 510, .inl v_held))])) (va_Qi (fun (q : Int32) (_ : Unit) => r = q) (wrE dC dI [(aM, .inr (4, [.ref a_w, .ref a_past, .int v_pastMany, .ref a_images, .int v_filled, .ref a_text, .int v_length, .int v_faultKind, .int v_faultPlace, .ref a_rowOf, .int v_rows, .int v_wrongKind, .int v_wrongPlace, .int v_readWords, .int v_readPassages, .ref a_readLetter, .ref a_readCue, .ref a_readPassage, .ref a_held])), (a_w, .inl (cI, 510, .inl v_w)), (a_past, .inl (cI, 4080, .inl v_past)), (a_images, .inl (cI, 1020, .inl v_images)), (a_text, .inl (cI, 140, .inl v_text)), (a_rowOf, .inl (cI, 120, .inl v_rowOf)), (a_readLetter, .inl (cI, 120, .inl v_readLetter)), (a_readCue, .inl (cI, 120, .inl v_readCue)), (a_readPassage, .inl (cI, 120, .inl v_readPassage)), (a_held, .inl (cI, 510, .inl v_held))] sz [(aM, .inr (4, [.ref a_w, .ref a_past, .int v_pastMany, .ref a_images, .int v_filled, .ref a_text, .int o_length, .int v_faultKind, .int v_faultPlace, .ref a_rowOf, .int v_rows, .int v_wrongKind, .int v_wrongPlace, .int v_readWords, .int v_readPassages, .ref a_readLetter, .ref a_readCue, .ref a_readPassage, .ref a_held])), (a_w, .inl (cI, 510, .inl v_w)), (a_past, .inl (cI, 4080, .inl v_past)), (a_images, .inl (cI, 1020, .inl v_images)), (a_text, .inl (cI, 140, .inl v_text)), (a_rowOf, .inl (cI, 120, .inl v_rowOf)), (a_readLetter, .inl (cI, 120, .inl v_readLetter)), (a_readCue, .inl (cI, 120, .inl v_readCue)), (a_readPassage, .inl (cI, 120, .inl v_readPassage)), (a_held, .inl (cI, 510, .inl v_held))]) (va_A [(aM, .inr (4, [.ref a_w, .ref a_past, .int v_pastMany, .ref a_images, .int v_filled, .ref a_text, .int v_length, .int v_faultKind, .int v_faultPlace, .ref a_rowOf, .int v_rows, .int v_wrongKind, .int v_wrongPlace, .int v_readWords, .int v_readPassages, .ref a_readLetter, .ref a_readCue, .ref a_readPassage, .ref a_held])), (a_w, .inl (cI, 510, .inl v_w)), (a_past, .inl (cI, 4080, .inl v_past)), (a_images, .inl (cI, 1020, .inl v_images)), (a_text, .inl (cI, 140, .inl v_text)), (a_rowOf, .inl (cI, 120, .inl v_rowOf)), (a_readLetter, .inl (cI, 120, .inl v_readLetter)), (a_readCue, .inl (cI, 120, .inl v_readCue)), (a_readPassage, .inl (cI, 120, .inl v_readPassage)), (a_held, .inl (cI, 510, .inl v_held))] sz)) 0 0 (va_A [(aM, .inr (4, [.ref a_w, .ref a_past, .int v_pastMany, .ref a_images, .int v_filled, .ref a_text, .int v_length, .int v_faultKind, .int v_faultPlace, .ref a_rowOf, .int v_rows, .int v_wrongKind, .int v_wrongPlace, .int v_readWords, .int v_readPassages, .ref a_readLetter, .ref a_readCue, .ref a_readPassage, .ref a_held])), (a_w, .inl (cI, 510, .inl v_w)), (a_past, .inl (cI, 4080, .inl v_past)), (a_images, .inl (cI, 1020, .inl v_images)), (a_text, .inl (cI, 140, .inl v_text)), (a_rowOf, .inl (cI, 120, .inl v_rowOf)), (a_readLetter, .inl (cI, 120, .inl v_readLetter)), (a_readCue, .inl (cI, 120, .inl v_readCue)), (a_readPassage, .inl (cI, 120, .inl v_readPassage)), (a_held, .inl (cI, 510, .inl v_held))] sz) := by
  refine Met.ofW (cc := cX4_wipe) (maxL := 2) (ret := (some .int)) (by decide) rfl ?_
  intro p e s m args below meth c s₁ B hml hv
  obtain ⟨rfl, hsz, hP, hK, hN, hD0⟩ := hv
  have hx := B.exec
  have hb := B.bytes
  have hr := B.returns
  have hts := atoms_spec (ws := wsX4_wipe) B.pre
  have hown : s.vm.findClass RX4 = some m.cls := findClass_of_methodNamed B.named
  have hlocks := B.notSynchronized
  subst hsz
  have hD := hD0.self (sz := s.heap.size)
  obtain ⟨Q, hQ⟩ : ∃ Q, Q = MQ below (va_Qi (fun (q : Int32) (_ : Unit) => r = q) (wrE dC dI [(aM, .inr (4, [.ref a_w, .ref a_past, .int v_pastMany, .ref a_images, .int v_filled, .ref a_text, .int v_length, .int v_faultKind, .int v_faultPlace, .ref a_rowOf, .int v_rows, .int v_wrongKind, .int v_wrongPlace, .int v_readWords, .int v_readPassages, .ref a_readLetter, .ref a_readCue, .ref a_readPassage, .ref a_held])), (a_w, .inl (cI, 510, .inl v_w)), (a_past, .inl (cI, 4080, .inl v_past)), (a_images, .inl (cI, 1020, .inl v_images)), (a_text, .inl (cI, 140, .inl v_text)), (a_rowOf, .inl (cI, 120, .inl v_rowOf)), (a_readLetter, .inl (cI, 120, .inl v_readLetter)), (a_readCue, .inl (cI, 120, .inl v_readCue)), (a_readPassage, .inl (cI, 120, .inl v_readPassage)), (a_held, .inl (cI, 510, .inl v_held))] s.heap.size [(aM, .inr (4, [.ref a_w, .ref a_past, .int v_pastMany, .ref a_images, .int v_filled, .ref a_text, .int o_length, .int v_faultKind, .int v_faultPlace, .ref a_rowOf, .int v_rows, .int v_wrongKind, .int v_wrongPlace, .int v_readWords, .int v_readPassages, .ref a_readLetter, .ref a_readCue, .ref a_readPassage, .ref a_held])), (a_w, .inl (cI, 510, .inl v_w)), (a_past, .inl (cI, 4080, .inl v_past)), (a_images, .inl (cI, 1020, .inl v_images)), (a_text, .inl (cI, 140, .inl v_text)), (a_rowOf, .inl (cI, 120, .inl v_rowOf)), (a_readLetter, .inl (cI, 120, .inl v_readLetter)), (a_readCue, .inl (cI, 120, .inl v_readCue)), (a_readPassage, .inl (cI, 120, .inl v_readPassage)), (a_held, .inl (cI, 510, .inl v_held))]) (va_A [(aM, .inr (4, [.ref a_w, .ref a_past, .int v_pastMany, .ref a_images, .int v_filled, .ref a_text, .int v_length, .int v_faultKind, .int v_faultPlace, .ref a_rowOf, .int v_rows, .int v_wrongKind, .int v_wrongPlace, .int v_readWords, .int v_readPassages, .ref a_readLetter, .ref a_readCue, .ref a_readPassage, .ref a_held])), (a_w, .inl (cI, 510, .inl v_w)), (a_past, .inl (cI, 4080, .inl v_past)), (a_images, .inl (cI, 1020, .inl v_images)), (a_text, .inl (cI, 140, .inl v_text)), (a_rowOf, .inl (cI, 120, .inl v_rowOf)), (a_readLetter, .inl (cI, 120, .inl v_readLetter)), (a_readCue, .inl (cI, 120, .inl v_readCue)), (a_readPassage, .inl (cI, 120, .inl v_readPassage)), (a_held, .inl (cI, 510, .inl v_held))] s.heap.size)) ([.ref aM] : List Value).toArray s 0 0 (va_A [(aM, .inr (4, [.ref a_w, .ref a_past, .int v_pastMany, .ref a_images, .int v_filled, .ref a_text, .int v_length, .int v_faultKind, .int v_faultPlace, .ref a_rowOf, .int v_rows, .int v_wrongKind, .int v_wrongPlace, .int v_readWords, .int v_readPassages, .ref a_readLetter, .ref a_readCue, .ref a_readPassage, .ref a_held])), (a_w, .inl (cI, 510, .inl v_w)), (a_past, .inl (cI, 4080, .inl v_past)), (a_images, .inl (cI, 1020, .inl v_images)), (a_text, .inl (cI, 140, .inl v_text)), (a_rowOf, .inl (cI, 120, .inl v_rowOf)), (a_readLetter, .inl (cI, 120, .inl v_readLetter)), (a_readCue, .inl (cI, 120, .inl v_readCue)), (a_readPassage, .inl (cI, 120, .inl v_readPassage)), (a_held, .inl (cI, 510, .inl v_held))] s.heap.size) := ⟨_, rfl⟩
  rw [← hQ]
  obtain ⟨A, hAe⟩ : ∃ A, A = va_A [(aM, .inr (4, [.ref a_w, .ref a_past, .int v_pastMany, .ref a_images, .int v_filled, .ref a_text, .int v_length, .int v_faultKind, .int v_faultPlace, .ref a_rowOf, .int v_rows, .int v_wrongKind, .int v_wrongPlace, .int v_readWords, .int v_readPassages, .ref a_readLetter, .ref a_readCue, .ref a_readPassage, .ref a_held])), (a_w, .inl (cI, 510, .inl v_w)), (a_past, .inl (cI, 4080, .inl v_past)), (a_images, .inl (cI, 1020, .inl v_images)), (a_text, .inl (cI, 140, .inl v_text)), (a_rowOf, .inl (cI, 120, .inl v_rowOf)), (a_readLetter, .inl (cI, 120, .inl v_readLetter)), (a_readCue, .inl (cI, 120, .inl v_readCue)), (a_readPassage, .inl (cI, 120, .inl v_readPassage)), (a_held, .inl (cI, 510, .inl v_held))] s.heap.size := ⟨_, rfl⟩
  rw [← hAe] at hD
  have hA : ∀ q : Nat, s.heap.size ≤ q → A q := fun q h => by rw [hAe]; exact Or.inr h
  obtain ⟨H, hH⟩ : ∃ H, H = s.heap := ⟨_, rfl⟩
  have hS : va_S A s.heap H [] := by rw [hH]; exact va_S.rf
  rw [← hH] at hP
  rw [← hH]
  have fl126 := hts (.fieldLink RX4 126 "TeleprompterModel" "length" "I") (by decide +kernel)
  have inX4 : ∀ w ∈ u_ws RX4 TX4 19, w ∈ wsX4_wipe := by decide +kernel
  have hl := lv_entry ([.ref aM]) (n := 2) (Nat.le_of_ble_eq_true rfl)
  rw [lg_entry_eq]
  generalize (lg_sl ([.ref aM]) ++ List.replicate (2 - (lg_sl ([.ref aM])).length) Slot.unset).toArray = ls at hl ⊢
  have hl : lv_has ls 2 [(0, .ref aM)] := hl
  unfold f_X4_wipe at hF
  refine lv_aload_n hx hb dX4_wipe_0 rfl (lv_at hl 0 rfl) ?_
  refine va_get (D := (dC, dI)) (ci := 4) (v := .int v_length) (C := RX4) (T := TX4) (N := 19) hx hb hts inX4 hown hK hP 0 rfl rfl 6 (by decide) fl126 (fun _ h9 => h9) rfl dX4_wipe_1 ?_
  refine lv_istore_n (lv' := [(1, .int v_length), (0, .ref aM)]) hx hb dX4_wipe_4 rfl hl (by decide) rfl (fun ls hl => ?_)
  refine lv_aload_n hx hb dX4_wipe_5 rfl (lv_at hl 1 rfl) ?_
  refine lv_iconst (v := (0 : Int32)) hx hb dX4_wipe_6 (by decide) ?_
  refine va_put (D := (dC, dI)) (ci := 4) (v := .int (0 : Int32)) (ty := .int) (C := RX4) (T := TX4) (N := 19) hx hb hts inX4 tyX4 tyX4_ok nmX4 hown hK hP hD hS 0 rfl rfl 6 (by decide) fl126 (fun _ h9 => h9) rfl (by decide +kernel) rfl rfl (Nat.le_of_ble_eq_true rfl) dX4_wipe_7 (fun H locs hP hD hS => ?_)
  have hP : va_P (dC, dI) vwCl [(aM, .inr (4, [.ref a_w, .ref a_past, .int v_pastMany, .ref a_images, .int v_filled, .ref a_text, .int (0 : Int32), .int v_faultKind, .int v_faultPlace, .ref a_rowOf, .int v_rows, .int v_wrongKind, .int v_wrongPlace, .int v_readWords, .int v_readPassages, .ref a_readLetter, .ref a_readCue, .ref a_readPassage, .ref a_held])), (a_w, .inl (cI, 510, .inl v_w)), (a_past, .inl (cI, 4080, .inl v_past)), (a_images, .inl (cI, 1020, .inl v_images)), (a_text, .inl (cI, 140, .inl v_text)), (a_rowOf, .inl (cI, 120, .inl v_rowOf)), (a_readLetter, .inl (cI, 120, .inl v_readLetter)), (a_readCue, .inl (cI, 120, .inl v_readCue)), (a_readPassage, .inl (cI, 120, .inl v_readPassage)), (a_held, .inl (cI, 510, .inl v_held))] H := hP
  have hD : va_D A [(aM, .inr (4, [.ref a_w, .ref a_past, .int v_pastMany, .ref a_images, .int v_filled, .ref a_text, .int (0 : Int32), .int v_faultKind, .int v_faultPlace, .ref a_rowOf, .int v_rows, .int v_wrongKind, .int v_wrongPlace, .int v_readWords, .int v_readPassages, .ref a_readLetter, .ref a_readCue, .ref a_readPassage, .ref a_held])), (a_w, .inl (cI, 510, .inl v_w)), (a_past, .inl (cI, 4080, .inl v_past)), (a_images, .inl (cI, 1020, .inl v_images)), (a_text, .inl (cI, 140, .inl v_text)), (a_rowOf, .inl (cI, 120, .inl v_rowOf)), (a_readLetter, .inl (cI, 120, .inl v_readLetter)), (a_readCue, .inl (cI, 120, .inl v_readCue)), (a_readPassage, .inl (cI, 120, .inl v_readPassage)), (a_held, .inl (cI, 510, .inl v_held))] := hD
  refine lv_iload_n hx hb dX4_wipe_10 rfl (lv_at hl 0 rfl) ?_
  have hF : some (v_length, (0 : Int32)) = some (r, o_length) := hF
  have hP9 := hP
  have hD9 := hD
  cases hF
  subst hQ
  subst hAe
  exact W.iret hx hb hr (fun t ht hW => ⟨⟨_, (), rfl, rfl, ⟨by rw [ht]; exact hP9, hD9⟩⟩, hS.F ht⟩) hS.2.2 dX4_wipe_11
def f_X4_set (p1 : Int32) (p2 : Int32) (v_w : (Nat → Int32)) (v_past : (Nat → Int32)) (v_pastMany : Int32) (v_rowOf : (Nat → Int32)) (v_rows : Int32) : Option (Int32 × (Nat → Int32) × (Nat → Int32) × Int32 × (Nat → Int32) × Int32) :=
  (f_X4_isOf p1 p2).bind fun q2 =>
  if q2 = (0 : Int32) then
    some ((-1 : Int32), v_w, v_past, v_pastMany, v_rowOf, v_rows)
  else
    (f_X4_remember v_w v_past v_pastMany).bind fun q11 =>
    if p1 < 0 ∨ 510 ≤ p1.toNatClampNeg then none else
    if p1 < 0 ∨ 510 ≤ p1.toNatClampNeg then none else
    (some (upd v_w p1.toNatClampNeg p2)).bind fun a27 =>
    (f_X4_layRows a27 v_rowOf v_rows).bind fun q29 =>
    (f_X4_limited (a27 14) a27 q29.2).bind fun q46 =>
    (some (upd a27 14 q46)).bind fun a49 =>
    some ((v_w p1.toNatClampNeg), a49, q11.1, q11.2, q29.1, q29.2)
def rm_X4_set : Room := { frames := 2, cells := 0, slots := 0, locals := 43 }
set_option maxHeartbeats 4000000 in
set_option maxRecDepth 100000 in
theorem c_X4_set (l : Launch) (dC : Nat → ClassId) (dI : Nat → Nat → Nat) (cI cZ cO : ClassId) (aM a_w a_past a_images a_text a_rowOf a_readLetter a_readCue a_readPassage a_held : Nat) (sz : Nat) (p1 : Int32) (p2 : Int32) (v_w : (Nat → Int32)) (v_past : (Nat → Int32)) (v_pastMany : Int32) (v_images : (Nat → Int32)) (v_filled : Int32) (v_text : (Nat → Int32)) (v_length : Int32) (v_faultKind : Int32) (v_faultPlace : Int32) (v_rowOf : (Nat → Int32)) (v_rows : Int32) (v_wrongKind : Int32) (v_wrongPlace : Int32) (v_readWords : Int32) (v_readPassages : Int32) (v_readLetter : (Nat → Int32)) (v_readCue : (Nat → Int32)) (v_readPassage : (Nat → Int32)) (v_held : (Nat → Int32)) (r : Int32) (o_w : (Nat → Int32)) (o_past : (Nat → Int32)) (o_pastMany : Int32) (o_rowOf : (Nat → Int32)) (o_rows : Int32) (hF : f_X4_set p1 p2 v_w v_past v_pastMany v_rowOf v_rows = some (r, o_w, o_past, o_pastMany, o_rowOf, o_rows)) : Met l yX4_set wsX4_set rm_X4_set (va_Pc [.ref aM, .int p1, .int p2] (wrW dC dI cI cZ cO sz [(aM, .inr (4, [.ref a_w, .ref a_past, .int v_pastMany, .ref a_images, .int v_filled, .ref a_text, .int v_length, .int v_faultKind, .int v_faultPlace, .ref a_rowOf, .int v_rows, .int v_wrongKind, .int v_wrongPlace, .int v_readWords, .int v_readPassages, .ref a_readLetter, .ref a_readCue, .ref a_readPassage, .ref a_held])), (a_w, .inl (cI, 510, .inl v_w)), (a_past, .inl (cI, 4080, .inl v_past)), (a_images, .inl (cI, 1020, .inl v_images)), (a_text, .inl (cI, 140, .inl v_text)), (a_rowOf, .inl (cI, 120, .inl v_rowOf)), (a_readLetter, .inl (cI, 120, .inl v_readLetter)), (a_readCue, .inl (cI, 120, .inl v_readCue)), (a_readPassage, .inl (cI, 120, .inl v_readPassage)), (a_held, .inl (cI, 510, .inl v_held))])) (va_Qi (fun (q : Int32) (_ : Unit) => r = q) (wrE dC dI [(aM, .inr (4, [.ref a_w, .ref a_past, .int v_pastMany, .ref a_images, .int v_filled, .ref a_text, .int v_length, .int v_faultKind, .int v_faultPlace, .ref a_rowOf, .int v_rows, .int v_wrongKind, .int v_wrongPlace, .int v_readWords, .int v_readPassages, .ref a_readLetter, .ref a_readCue, .ref a_readPassage, .ref a_held])), (a_w, .inl (cI, 510, .inl v_w)), (a_past, .inl (cI, 4080, .inl v_past)), (a_images, .inl (cI, 1020, .inl v_images)), (a_text, .inl (cI, 140, .inl v_text)), (a_rowOf, .inl (cI, 120, .inl v_rowOf)), (a_readLetter, .inl (cI, 120, .inl v_readLetter)), (a_readCue, .inl (cI, 120, .inl v_readCue)), (a_readPassage, .inl (cI, 120, .inl v_readPassage)), (a_held, .inl (cI, 510, .inl v_held))] sz [(aM, .inr (4, [.ref a_w, .ref a_past, .int o_pastMany, .ref a_images, .int v_filled, .ref a_text, .int v_length, .int v_faultKind, .int v_faultPlace, .ref a_rowOf, .int o_rows, .int v_wrongKind, .int v_wrongPlace, .int v_readWords, .int v_readPassages, .ref a_readLetter, .ref a_readCue, .ref a_readPassage, .ref a_held])), (a_w, .inl (cI, 510, .inl o_w)), (a_past, .inl (cI, 4080, .inl o_past)), (a_images, .inl (cI, 1020, .inl v_images)), (a_text, .inl (cI, 140, .inl v_text)), (a_rowOf, .inl (cI, 120, .inl o_rowOf)), (a_readLetter, .inl (cI, 120, .inl v_readLetter)), (a_readCue, .inl (cI, 120, .inl v_readCue)), (a_readPassage, .inl (cI, 120, .inl v_readPassage)), (a_held, .inl (cI, 510, .inl v_held))]) (va_A [(aM, .inr (4, [.ref a_w, .ref a_past, .int v_pastMany, .ref a_images, .int v_filled, .ref a_text, .int v_length, .int v_faultKind, .int v_faultPlace, .ref a_rowOf, .int v_rows, .int v_wrongKind, .int v_wrongPlace, .int v_readWords, .int v_readPassages, .ref a_readLetter, .ref a_readCue, .ref a_readPassage, .ref a_held])), (a_w, .inl (cI, 510, .inl v_w)), (a_past, .inl (cI, 4080, .inl v_past)), (a_images, .inl (cI, 1020, .inl v_images)), (a_text, .inl (cI, 140, .inl v_text)), (a_rowOf, .inl (cI, 120, .inl v_rowOf)), (a_readLetter, .inl (cI, 120, .inl v_readLetter)), (a_readCue, .inl (cI, 120, .inl v_readCue)), (a_readPassage, .inl (cI, 120, .inl v_readPassage)), (a_held, .inl (cI, 510, .inl v_held))] sz)) 0 0 (va_A [(aM, .inr (4, [.ref a_w, .ref a_past, .int v_pastMany, .ref a_images, .int v_filled, .ref a_text, .int v_length, .int v_faultKind, .int v_faultPlace, .ref a_rowOf, .int v_rows, .int v_wrongKind, .int v_wrongPlace, .int v_readWords, .int v_readPassages, .ref a_readLetter, .ref a_readCue, .ref a_readPassage, .ref a_held])), (a_w, .inl (cI, 510, .inl v_w)), (a_past, .inl (cI, 4080, .inl v_past)), (a_images, .inl (cI, 1020, .inl v_images)), (a_text, .inl (cI, 140, .inl v_text)), (a_rowOf, .inl (cI, 120, .inl v_rowOf)), (a_readLetter, .inl (cI, 120, .inl v_readLetter)), (a_readCue, .inl (cI, 120, .inl v_readCue)), (a_readPassage, .inl (cI, 120, .inl v_readPassage)), (a_held, .inl (cI, 510, .inl v_held))] sz) := by
  refine Met.ofW (cc := cX4_set) (maxL := 4) (ret := (some .int)) (by decide) rfl ?_
  intro p e s m args below meth c s₁ B hml hv
  obtain ⟨rfl, hsz, hP, hK, hN, hD0⟩ := hv
  have hx := B.exec
  have hb := B.bytes
  have hr := B.returns
  have hts := atoms_spec (ws := wsX4_set) B.pre
  have hown : s.vm.findClass RX4 = some m.cls := findClass_of_methodNamed B.named
  have hlocks := B.notSynchronized
  subst hsz
  have hD := hD0.self (sz := s.heap.size)
  obtain ⟨Q, hQ⟩ : ∃ Q, Q = MQ below (va_Qi (fun (q : Int32) (_ : Unit) => r = q) (wrE dC dI [(aM, .inr (4, [.ref a_w, .ref a_past, .int v_pastMany, .ref a_images, .int v_filled, .ref a_text, .int v_length, .int v_faultKind, .int v_faultPlace, .ref a_rowOf, .int v_rows, .int v_wrongKind, .int v_wrongPlace, .int v_readWords, .int v_readPassages, .ref a_readLetter, .ref a_readCue, .ref a_readPassage, .ref a_held])), (a_w, .inl (cI, 510, .inl v_w)), (a_past, .inl (cI, 4080, .inl v_past)), (a_images, .inl (cI, 1020, .inl v_images)), (a_text, .inl (cI, 140, .inl v_text)), (a_rowOf, .inl (cI, 120, .inl v_rowOf)), (a_readLetter, .inl (cI, 120, .inl v_readLetter)), (a_readCue, .inl (cI, 120, .inl v_readCue)), (a_readPassage, .inl (cI, 120, .inl v_readPassage)), (a_held, .inl (cI, 510, .inl v_held))] s.heap.size [(aM, .inr (4, [.ref a_w, .ref a_past, .int o_pastMany, .ref a_images, .int v_filled, .ref a_text, .int v_length, .int v_faultKind, .int v_faultPlace, .ref a_rowOf, .int o_rows, .int v_wrongKind, .int v_wrongPlace, .int v_readWords, .int v_readPassages, .ref a_readLetter, .ref a_readCue, .ref a_readPassage, .ref a_held])), (a_w, .inl (cI, 510, .inl o_w)), (a_past, .inl (cI, 4080, .inl o_past)), (a_images, .inl (cI, 1020, .inl v_images)), (a_text, .inl (cI, 140, .inl v_text)), (a_rowOf, .inl (cI, 120, .inl o_rowOf)), (a_readLetter, .inl (cI, 120, .inl v_readLetter)), (a_readCue, .inl (cI, 120, .inl v_readCue)), (a_readPassage, .inl (cI, 120, .inl v_readPassage)), (a_held, .inl (cI, 510, .inl v_held))]) (va_A [(aM, .inr (4, [.ref a_w, .ref a_past, .int v_pastMany, .ref a_images, .int v_filled, .ref a_text, .int v_length, .int v_faultKind, .int v_faultPlace, .ref a_rowOf, .int v_rows, .int v_wrongKind, .int v_wrongPlace, .int v_readWords, .int v_readPassages, .ref a_readLetter, .ref a_readCue, .ref a_readPassage, .ref a_held])), (a_w, .inl (cI, 510, .inl v_w)), (a_past, .inl (cI, 4080, .inl v_past)), (a_images, .inl (cI, 1020, .inl v_images)), (a_text, .inl (cI, 140, .inl v_text)), (a_rowOf, .inl (cI, 120, .inl v_rowOf)), (a_readLetter, .inl (cI, 120, .inl v_readLetter)), (a_readCue, .inl (cI, 120, .inl v_readCue)), (a_readPassage, .inl (cI, 120, .inl v_readPassage)), (a_held, .inl (cI, 510, .inl v_held))] s.heap.size)) ([.ref aM, .int p1, .int p2] : List Value).toArray s 0 0 (va_A [(aM, .inr (4, [.ref a_w, .ref a_past, .int v_pastMany, .ref a_images, .int v_filled, .ref a_text, .int v_length, .int v_faultKind, .int v_faultPlace, .ref a_rowOf, .int v_rows, .int v_wrongKind, .int v_wrongPlace, .int v_readWords, .int v_readPassages, .ref a_readLetter, .ref a_readCue, .ref a_readPassage, .ref a_held])), (a_w, .inl (cI, 510, .inl v_w)), (a_past, .inl (cI, 4080, .inl v_past)), (a_images, .inl (cI, 1020, .inl v_images)), (a_text, .inl (cI, 140, .inl v_text)), (a_rowOf, .inl (cI, 120, .inl v_rowOf)), (a_readLetter, .inl (cI, 120, .inl v_readLetter)), (a_readCue, .inl (cI, 120, .inl v_readCue)), (a_readPassage, .inl (cI, 120, .inl v_readPassage)), (a_held, .inl (cI, 510, .inl v_held))] s.heap.size) := ⟨_, rfl⟩
  rw [← hQ]
  obtain ⟨A, hAe⟩ : ∃ A, A = va_A [(aM, .inr (4, [.ref a_w, .ref a_past, .int v_pastMany, .ref a_images, .int v_filled, .ref a_text, .int v_length, .int v_faultKind, .int v_faultPlace, .ref a_rowOf, .int v_rows, .int v_wrongKind, .int v_wrongPlace, .int v_readWords, .int v_readPassages, .ref a_readLetter, .ref a_readCue, .ref a_readPassage, .ref a_held])), (a_w, .inl (cI, 510, .inl v_w)), (a_past, .inl (cI, 4080, .inl v_past)), (a_images, .inl (cI, 1020, .inl v_images)), (a_text, .inl (cI, 140, .inl v_text)), (a_rowOf, .inl (cI, 120, .inl v_rowOf)), (a_readLetter, .inl (cI, 120, .inl v_readLetter)), (a_readCue, .inl (cI, 120, .inl v_readCue)), (a_readPassage, .inl (cI, 120, .inl v_readPassage)), (a_held, .inl (cI, 510, .inl v_held))] s.heap.size := ⟨_, rfl⟩
  rw [← hAe] at hD
  have hA : ∀ q : Nat, s.heap.size ≤ q → A q := fun q h => by rw [hAe]; exact Or.inr h
  obtain ⟨H, hH⟩ : ∃ H, H = s.heap := ⟨_, rfl⟩
  have hS : va_S A s.heap H [] := by rw [hH]; exact va_S.rf
  rw [← hH] at hP
  rw [← hH]
  have fl7 := hts (.fieldLink RX4 7 "TeleprompterModel" "w" "[I") (by decide +kernel)
  have inX4 : ∀ w ∈ u_ws RX4 TX4 19, w ∈ wsX4_set := by decide +kernel
  have hl := lv_entry ([.ref aM, .int p1, .int p2]) (n := 4) (Nat.le_of_ble_eq_true rfl)
  rw [lg_entry_eq]
  generalize (lg_sl ([.ref aM, .int p1, .int p2]) ++ List.replicate (4 - (lg_sl ([.ref aM, .int p1, .int p2])).length) Slot.unset).toArray = ls at hl ⊢
  have hl : lv_has ls 4 [(0, .ref aM), (1, .int p1), (2, .int p2)] := hl
  unfold f_X4_set at hF
  refine lv_iload_n hx hb dX4_set_0 rfl (lv_at hl 1 rfl) ?_
  refine lv_iload_n hx hb dX4_set_1 rfl (lv_at hl 2 rfl) ?_
  obtain ⟨q_2, hq_2, hF⟩ := bindE hF
  have hPc := hP.sub (ws' := []) [] rfl
  refine vp_callSi (va_Run.run (va_runS (As := [.int p1, .int p2]) (rest := []) ⟨hx, hb, hml, hown, hts⟩ (c_X4_isOf l dC dI cI cZ cO p1 p2 q_2 hq_2) (cwS 2 hts gX4_set_X4_isOf rfl rfl rfl (by decide +kernel) ⟨Nat.le_of_ble_eq_true rfl, Nat.le_of_ble_eq_true rfl⟩) ⟨fb_rd, pre_rd hPc hK hN⟩ rfl rfl hl.1 rfl (lv_room (Nat.le_of_ble_eq_true rfl)) dX4_set_2 ⟨Nat.zero_le _, Nat.zero_le _⟩)) (fun z_2 hz_2 => ?_)
  subst hz_2
  refine lv_if_ne (tgt := 10) hx hb dX4_set_5 (by decide) (fun c_5 => ?_) (fun c_5 => ?_)
  · have hF := (if_neg c_5).symm.trans hF
    refine lv_aload_n hx hb dX4_set_10 rfl (lv_at hl 0 rfl) ?_
    obtain ⟨q_11, hq_11, hF⟩ := bindE hF
    obtain ⟨u_11_past, u_11_pastMany⟩ := q_11
    have hPc := hP
    have hDc := hD
    have hFc := va_free (wc := [(aM, .inr (4, [.ref a_w, .ref a_past, .int v_pastMany, .ref a_images, .int v_filled, .ref a_text, .int v_length, .int v_faultKind, .int v_faultPlace, .ref a_rowOf, .int v_rows, .int v_wrongKind, .int v_wrongPlace, .int v_readWords, .int v_readPassages, .ref a_readLetter, .ref a_readCue, .ref a_readPassage, .ref a_held])), (a_w, .inl (cI, 510, .inl v_w)), (a_past, .inl (cI, 4080, .inl v_past)), (a_images, .inl (cI, 1020, .inl v_images)), (a_text, .inl (cI, 140, .inl v_text)), (a_rowOf, .inl (cI, 120, .inl v_rowOf)), (a_readLetter, .inl (cI, 120, .inl v_readLetter)), (a_readCue, .inl (cI, 120, .inl v_readCue)), (a_readPassage, .inl (cI, 120, .inl v_readPassage)), (a_held, .inl (cI, 510, .inl v_held))]) hD hS hA [0, 1, 2, 3, 4, 5, 6, 7, 8, 9] rfl
    refine va_callv (va_runV (As := []) (rest := []) ⟨hx, hb, hml, hown, hts⟩ (c_X4_remember l dC dI cI cZ cO aM a_w a_past a_images a_text a_rowOf a_readLetter a_readCue a_readPassage a_held H.size v_w v_past v_pastMany v_images v_filled v_text v_length v_faultKind v_faultPlace v_rowOf v_rows v_wrongKind v_wrongPlace v_readWords v_readPassages v_readLetter v_readCue v_readPassage v_held u_11_past u_11_pastMany hq_11) (cwV 0 hts gX4_set_X4_remember rfl rfl rfl (by decide +kernel) ⟨Nat.le_of_ble_eq_true rfl, Nat.le_of_ble_eq_true rfl⟩) ⟨fb_wr, va_recv hK hPc (ci := 4) (q0 := 0) rfl rfl, pre_wr hPc hK hN hDc⟩ rfl rfl hl.1 rfl (lv_room (Nat.le_of_ble_eq_true rfl)) dX4_set_11 ⟨Nat.zero_le _, Nat.zero_le _⟩) hS (fun q _ h => hFc q h) hFc (fun _ t H1 locs ht hvm hw hB hz1 hk1 hS => ?_)
    obtain ⟨hP1, hD1⟩ := hB
    rw [ht] at hP1
    obtain ⟨hP, hD⟩ := va_join (wr := []) (w1 := [(aM, .inr (4, [.ref a_w, .ref a_past, .int u_11_pastMany, .ref a_images, .int v_filled, .ref a_text, .int v_length, .int v_faultKind, .int v_faultPlace, .ref a_rowOf, .int v_rows, .int v_wrongKind, .int v_wrongPlace, .int v_readWords, .int v_readPassages, .ref a_readLetter, .ref a_readCue, .ref a_readPassage, .ref a_held])), (a_w, .inl (cI, 510, .inl v_w)), (a_past, .inl (cI, 4080, .inl u_11_past)), (a_images, .inl (cI, 1020, .inl v_images)), (a_text, .inl (cI, 140, .inl v_text)), (a_rowOf, .inl (cI, 120, .inl v_rowOf)), (a_readLetter, .inl (cI, 120, .inl v_readLetter)), (a_readCue, .inl (cI, 120, .inl v_readCue)), (a_readPassage, .inl (cI, 120, .inl v_readPassage)), (a_held, .inl (cI, 510, .inl v_held))]) hP hD [0, 1, 2, 3, 4, 5, 6, 7, 8, 9] [] rfl rfl (by decide) (by decide) hk1 hFc hP1 hD1
    generalize H1 = H at hP hS ⊢
    have hP : va_P (dC, dI) vwCl [(aM, .inr (4, [.ref a_w, .ref a_past, .int u_11_pastMany, .ref a_images, .int v_filled, .ref a_text, .int v_length, .int v_faultKind, .int v_faultPlace, .ref a_rowOf, .int v_rows, .int v_wrongKind, .int v_wrongPlace, .int v_readWords, .int v_readPassages, .ref a_readLetter, .ref a_readCue, .ref a_readPassage, .ref a_held])), (a_w, .inl (cI, 510, .inl v_w)), (a_past, .inl (cI, 4080, .inl u_11_past)), (a_images, .inl (cI, 1020, .inl v_images)), (a_text, .inl (cI, 140, .inl v_text)), (a_rowOf, .inl (cI, 120, .inl v_rowOf)), (a_readLetter, .inl (cI, 120, .inl v_readLetter)), (a_readCue, .inl (cI, 120, .inl v_readCue)), (a_readPassage, .inl (cI, 120, .inl v_readPassage)), (a_held, .inl (cI, 510, .inl v_held))] H := hP
    have hD : va_D A [(aM, .inr (4, [.ref a_w, .ref a_past, .int u_11_pastMany, .ref a_images, .int v_filled, .ref a_text, .int v_length, .int v_faultKind, .int v_faultPlace, .ref a_rowOf, .int v_rows, .int v_wrongKind, .int v_wrongPlace, .int v_readWords, .int v_readPassages, .ref a_readLetter, .ref a_readCue, .ref a_readPassage, .ref a_held])), (a_w, .inl (cI, 510, .inl v_w)), (a_past, .inl (cI, 4080, .inl u_11_past)), (a_images, .inl (cI, 1020, .inl v_images)), (a_text, .inl (cI, 140, .inl v_text)), (a_rowOf, .inl (cI, 120, .inl v_rowOf)), (a_readLetter, .inl (cI, 120, .inl v_readLetter)), (a_readCue, .inl (cI, 120, .inl v_readCue)), (a_readPassage, .inl (cI, 120, .inl v_readPassage)), (a_held, .inl (cI, 510, .inl v_held))] := hD
    refine lv_aload_n hx hb dX4_set_14 rfl (lv_at hl 0 rfl) ?_
    refine va_get (D := (dC, dI)) (ci := 4) (v := .ref a_w) (C := RX4) (T := TX4) (N := 19) hx hb hts inX4 hown hK hP 0 rfl rfl 0 (by decide) fl7 (fun _ h9 => h9) rfl dX4_set_15 ?_
    refine lv_iload_n hx hb dX4_set_18 rfl (lv_at hl 1 rfl) ?_
    by_cases b_19 : (p1 < 0 ∨ 510 ≤ p1.toNatClampNeg)
    · exact noneE ((if_pos b_19).symm.trans hF)
    have hF := (if_neg b_19).symm.trans hF
    refine va_iald hx hb hK hP 1 0 rfl rfl b_19 dX4_set_19 ?_
    refine lv_istore_n (lv' := [(3, .int (v_w p1.toNatClampNeg)), (0, .ref aM), (1, .int p1), (2, .int p2)]) hx hb dX4_set_20 rfl hl (by decide) rfl (fun ls hl => ?_)
    refine lv_aload_n hx hb dX4_set_21 rfl (lv_at hl 1 rfl) ?_
    refine va_get (D := (dC, dI)) (ci := 4) (v := .ref a_w) (C := RX4) (T := TX4) (N := 19) hx hb hts inX4 hown hK hP 0 rfl rfl 0 (by decide) fl7 (fun _ h9 => h9) rfl dX4_set_22 ?_
    refine lv_iload_n hx hb dX4_set_25 rfl (lv_at hl 2 rfl) ?_
    refine lv_iload_n hx hb dX4_set_26 rfl (lv_at hl 3 rfl) ?_
    by_cases b_27 : (p1 < 0 ∨ 510 ≤ p1.toNatClampNeg)
    · exact noneE ((if_pos b_27).symm.trans hF)
    have hF := (if_neg b_27).symm.trans hF
    refine va_iast hx hb hK hP hD hS 1 0 rfl rfl b_27 dX4_set_27 (fun H locs hP hD hS => ?_)
    have hP : va_P (dC, dI) vwCl [(aM, .inr (4, [.ref a_w, .ref a_past, .int u_11_pastMany, .ref a_images, .int v_filled, .ref a_text, .int v_length, .int v_faultKind, .int v_faultPlace, .ref a_rowOf, .int v_rows, .int v_wrongKind, .int v_wrongPlace, .int v_readWords, .int v_readPassages, .ref a_readLetter, .ref a_readCue, .ref a_readPassage, .ref a_held])), (a_w, .inl (cI, 510, .inl (upd v_w p1.toNatClampNeg p2))), (a_past, .inl (cI, 4080, .inl u_11_past)), (a_images, .inl (cI, 1020, .inl v_images)), (a_text, .inl (cI, 140, .inl v_text)), (a_rowOf, .inl (cI, 120, .inl v_rowOf)), (a_readLetter, .inl (cI, 120, .inl v_readLetter)), (a_readCue, .inl (cI, 120, .inl v_readCue)), (a_readPassage, .inl (cI, 120, .inl v_readPassage)), (a_held, .inl (cI, 510, .inl v_held))] H := hP
    have hD : va_D A [(aM, .inr (4, [.ref a_w, .ref a_past, .int u_11_pastMany, .ref a_images, .int v_filled, .ref a_text, .int v_length, .int v_faultKind, .int v_faultPlace, .ref a_rowOf, .int v_rows, .int v_wrongKind, .int v_wrongPlace, .int v_readWords, .int v_readPassages, .ref a_readLetter, .ref a_readCue, .ref a_readPassage, .ref a_held])), (a_w, .inl (cI, 510, .inl (upd v_w p1.toNatClampNeg p2))), (a_past, .inl (cI, 4080, .inl u_11_past)), (a_images, .inl (cI, 1020, .inl v_images)), (a_text, .inl (cI, 140, .inl v_text)), (a_rowOf, .inl (cI, 120, .inl v_rowOf)), (a_readLetter, .inl (cI, 120, .inl v_readLetter)), (a_readCue, .inl (cI, 120, .inl v_readCue)), (a_readPassage, .inl (cI, 120, .inl v_readPassage)), (a_held, .inl (cI, 510, .inl v_held))] := hD
    obtain ⟨a_27, ha_27, hF⟩ := bindE hF
    have ha_27 := Option.some.inj ha_27
    rw [ha_27] at hP hD
    refine lv_aload_n hx hb dX4_set_28 rfl (lv_at hl 1 rfl) ?_
    obtain ⟨q_29, hq_29, hF⟩ := bindE hF
    obtain ⟨u_29_rowOf, u_29_rows⟩ := q_29
    have hPc := hP
    have hDc := hD
    have hFc := va_free (wc := [(aM, .inr (4, [.ref a_w, .ref a_past, .int u_11_pastMany, .ref a_images, .int v_filled, .ref a_text, .int v_length, .int v_faultKind, .int v_faultPlace, .ref a_rowOf, .int v_rows, .int v_wrongKind, .int v_wrongPlace, .int v_readWords, .int v_readPassages, .ref a_readLetter, .ref a_readCue, .ref a_readPassage, .ref a_held])), (a_w, .inl (cI, 510, .inl a_27)), (a_past, .inl (cI, 4080, .inl u_11_past)), (a_images, .inl (cI, 1020, .inl v_images)), (a_text, .inl (cI, 140, .inl v_text)), (a_rowOf, .inl (cI, 120, .inl v_rowOf)), (a_readLetter, .inl (cI, 120, .inl v_readLetter)), (a_readCue, .inl (cI, 120, .inl v_readCue)), (a_readPassage, .inl (cI, 120, .inl v_readPassage)), (a_held, .inl (cI, 510, .inl v_held))]) hD hS hA [0, 1, 2, 3, 4, 5, 6, 7, 8, 9] rfl
    refine va_callv (va_runV (As := []) (rest := []) ⟨hx, hb, hml, hown, hts⟩ (c_X4_layRows l dC dI cI cZ cO aM a_w a_past a_images a_text a_rowOf a_readLetter a_readCue a_readPassage a_held H.size a_27 u_11_past u_11_pastMany v_images v_filled v_text v_length v_faultKind v_faultPlace v_rowOf v_rows v_wrongKind v_wrongPlace v_readWords v_readPassages v_readLetter v_readCue v_readPassage v_held u_29_rowOf u_29_rows hq_29) (cwV 0 hts gX4_set_X4_layRows rfl rfl rfl (by decide +kernel) ⟨Nat.le_of_ble_eq_true rfl, Nat.le_of_ble_eq_true rfl⟩) ⟨fb_wr, va_recv hK hPc (ci := 4) (q0 := 0) rfl rfl, pre_wr hPc hK hN hDc⟩ rfl rfl hl.1 rfl (lv_room (Nat.le_of_ble_eq_true rfl)) dX4_set_29 ⟨Nat.zero_le _, Nat.zero_le _⟩) hS (fun q _ h => hFc q h) hFc (fun _ t H1 locs ht hvm hw hB hz1 hk1 hS => ?_)
    obtain ⟨hP1, hD1⟩ := hB
    rw [ht] at hP1
    obtain ⟨hP, hD⟩ := va_join (wr := []) (w1 := [(aM, .inr (4, [.ref a_w, .ref a_past, .int u_11_pastMany, .ref a_images, .int v_filled, .ref a_text, .int v_length, .int v_faultKind, .int v_faultPlace, .ref a_rowOf, .int u_29_rows, .int v_wrongKind, .int v_wrongPlace, .int v_readWords, .int v_readPassages, .ref a_readLetter, .ref a_readCue, .ref a_readPassage, .ref a_held])), (a_w, .inl (cI, 510, .inl a_27)), (a_past, .inl (cI, 4080, .inl u_11_past)), (a_images, .inl (cI, 1020, .inl v_images)), (a_text, .inl (cI, 140, .inl v_text)), (a_rowOf, .inl (cI, 120, .inl u_29_rowOf)), (a_readLetter, .inl (cI, 120, .inl v_readLetter)), (a_readCue, .inl (cI, 120, .inl v_readCue)), (a_readPassage, .inl (cI, 120, .inl v_readPassage)), (a_held, .inl (cI, 510, .inl v_held))]) hP hD [0, 1, 2, 3, 4, 5, 6, 7, 8, 9] [] rfl rfl (by decide) (by decide) hk1 hFc hP1 hD1
    generalize H1 = H at hP hS ⊢
    have hP : va_P (dC, dI) vwCl [(aM, .inr (4, [.ref a_w, .ref a_past, .int u_11_pastMany, .ref a_images, .int v_filled, .ref a_text, .int v_length, .int v_faultKind, .int v_faultPlace, .ref a_rowOf, .int u_29_rows, .int v_wrongKind, .int v_wrongPlace, .int v_readWords, .int v_readPassages, .ref a_readLetter, .ref a_readCue, .ref a_readPassage, .ref a_held])), (a_w, .inl (cI, 510, .inl a_27)), (a_past, .inl (cI, 4080, .inl u_11_past)), (a_images, .inl (cI, 1020, .inl v_images)), (a_text, .inl (cI, 140, .inl v_text)), (a_rowOf, .inl (cI, 120, .inl u_29_rowOf)), (a_readLetter, .inl (cI, 120, .inl v_readLetter)), (a_readCue, .inl (cI, 120, .inl v_readCue)), (a_readPassage, .inl (cI, 120, .inl v_readPassage)), (a_held, .inl (cI, 510, .inl v_held))] H := hP
    have hD : va_D A [(aM, .inr (4, [.ref a_w, .ref a_past, .int u_11_pastMany, .ref a_images, .int v_filled, .ref a_text, .int v_length, .int v_faultKind, .int v_faultPlace, .ref a_rowOf, .int u_29_rows, .int v_wrongKind, .int v_wrongPlace, .int v_readWords, .int v_readPassages, .ref a_readLetter, .ref a_readCue, .ref a_readPassage, .ref a_held])), (a_w, .inl (cI, 510, .inl a_27)), (a_past, .inl (cI, 4080, .inl u_11_past)), (a_images, .inl (cI, 1020, .inl v_images)), (a_text, .inl (cI, 140, .inl v_text)), (a_rowOf, .inl (cI, 120, .inl u_29_rowOf)), (a_readLetter, .inl (cI, 120, .inl v_readLetter)), (a_readCue, .inl (cI, 120, .inl v_readCue)), (a_readPassage, .inl (cI, 120, .inl v_readPassage)), (a_held, .inl (cI, 510, .inl v_held))] := hD
    refine lv_aload_n hx hb dX4_set_32 rfl (lv_at hl 1 rfl) ?_
    refine va_get (D := (dC, dI)) (ci := 4) (v := .ref a_w) (C := RX4) (T := TX4) (N := 19) hx hb hts inX4 hown hK hP 0 rfl rfl 0 (by decide) fl7 (fun _ h9 => h9) rfl dX4_set_33 ?_
    refine lv_bipush (v := (14 : Int32)) hx hb dX4_set_36 (by decide) ?_
    refine lv_aload_n hx hb dX4_set_38 rfl (lv_at hl 1 rfl) ?_
    refine lv_aload_n hx hb dX4_set_39 rfl (lv_at hl 1 rfl) ?_
    refine va_get (D := (dC, dI)) (ci := 4) (v := .ref a_w) (C := RX4) (T := TX4) (N := 19) hx hb hts inX4 hown hK hP 0 rfl rfl 0 (by decide) fl7 (fun _ h9 => h9) rfl dX4_set_40 ?_
    refine lv_bipush (v := (14 : Int32)) hx hb dX4_set_43 (by decide) ?_
    refine va_ialdK hx hb hK hP 1 0 rfl rfl (inK (by decide)) (j := 14) (by decide) dX4_set_45 ?_
    obtain ⟨q_46, hq_46, hF⟩ := bindE hF
    have hPc := hP
    refine vp_callSi (va_Run.run (va_runV (As := [.int (a_27 14)]) (rest := [.int (14 : Int32), .ref a_w]) ⟨hx, hb, hml, hown, hts⟩ (c_X4_limited l dC dI cI cZ cO aM a_w a_past a_images a_text a_rowOf a_readLetter a_readCue a_readPassage a_held (a_27 14) a_27 u_11_past u_11_pastMany v_images v_filled v_text v_length v_faultKind v_faultPlace u_29_rowOf u_29_rows v_wrongKind v_wrongPlace v_readWords v_readPassages v_readLetter v_readCue v_readPassage v_held q_46 hq_46) (cwV 1 hts gX4_set_X4_limited rfl rfl rfl (by decide +kernel) ⟨Nat.le_of_ble_eq_true rfl, Nat.le_of_ble_eq_true rfl⟩) ⟨fb_rd, va_recv hK hPc (ci := 4) (q0 := 0) rfl rfl, pre_rd hPc hK hN⟩ rfl rfl hl.1 rfl (lv_room (Nat.le_of_ble_eq_true rfl)) dX4_set_46 ⟨Nat.zero_le _, Nat.zero_le _⟩)) (fun z_46 hz_46 => ?_)
    subst hz_46
    refine va_iastK hx hb hK hP hD hS 1 0 rfl rfl (inK (by decide)) (j := 14) (by decide) dX4_set_49 (fun H locs hP hD hS => ?_)
    have hP : va_P (dC, dI) vwCl [(aM, .inr (4, [.ref a_w, .ref a_past, .int u_11_pastMany, .ref a_images, .int v_filled, .ref a_text, .int v_length, .int v_faultKind, .int v_faultPlace, .ref a_rowOf, .int u_29_rows, .int v_wrongKind, .int v_wrongPlace, .int v_readWords, .int v_readPassages, .ref a_readLetter, .ref a_readCue, .ref a_readPassage, .ref a_held])), (a_w, .inl (cI, 510, .inl (upd a_27 14 q_46))), (a_past, .inl (cI, 4080, .inl u_11_past)), (a_images, .inl (cI, 1020, .inl v_images)), (a_text, .inl (cI, 140, .inl v_text)), (a_rowOf, .inl (cI, 120, .inl u_29_rowOf)), (a_readLetter, .inl (cI, 120, .inl v_readLetter)), (a_readCue, .inl (cI, 120, .inl v_readCue)), (a_readPassage, .inl (cI, 120, .inl v_readPassage)), (a_held, .inl (cI, 510, .inl v_held))] H := hP
    have hD : va_D A [(aM, .inr (4, [.ref a_w, .ref a_past, .int u_11_pastMany, .ref a_images, .int v_filled, .ref a_text, .int v_length, .int v_faultKind, .int v_faultPlace, .ref a_rowOf, .int u_29_rows, .int v_wrongKind, .int v_wrongPlace, .int v_readWords, .int v_readPassages, .ref a_readLetter, .ref a_readCue, .ref a_readPassage, .ref a_held])), (a_w, .inl (cI, 510, .inl (upd a_27 14 q_46))), (a_past, .inl (cI, 4080, .inl u_11_past)), (a_images, .inl (cI, 1020, .inl v_images)), (a_text, .inl (cI, 140, .inl v_text)), (a_rowOf, .inl (cI, 120, .inl u_29_rowOf)), (a_readLetter, .inl (cI, 120, .inl v_readLetter)), (a_readCue, .inl (cI, 120, .inl v_readCue)), (a_readPassage, .inl (cI, 120, .inl v_readPassage)), (a_held, .inl (cI, 510, .inl v_held))] := hD
    obtain ⟨a_49, ha_49, hF⟩ := bindE hF
    have ha_49 := Option.some.inj ha_49
    rw [ha_49] at hP hD
    refine lv_iload_n hx hb dX4_set_50 rfl (lv_at hl 0 rfl) ?_
    have hF : some ((v_w p1.toNatClampNeg), a_49, u_11_past, u_11_pastMany, u_29_rowOf, u_29_rows) = some (r, o_w, o_past, o_pastMany, o_rowOf, o_rows) := hF
    have hP9 := hP
    have hD9 := hD
    cases hF
    subst hQ
    subst hAe
    exact W.iret hx hb hr (fun t ht hW => ⟨⟨_, (), rfl, rfl, ⟨by rw [ht]; exact hP9, hD9⟩⟩, hS.F ht⟩) hS.2.2 dX4_set_51
  · have hF := (if_pos c_5).symm.trans hF
    refine lv_iconst (v := (-1 : Int32)) hx hb dX4_set_8 (by decide) ?_
    have hF : some ((-1 : Int32), v_w, v_past, v_pastMany, v_rowOf, v_rows) = some (r, o_w, o_past, o_pastMany, o_rowOf, o_rows) := hF
    have hP9 := hP
    have hD9 := hD
    cases hF
    subst hQ
    subst hAe
    exact W.iret hx hb hr (fun t ht hW => ⟨⟨_, (), rfl, rfl, ⟨by rw [ht]; exact hP9, hD9⟩⟩, hS.F ht⟩) hS.2.2 dX4_set_9
def f_X4_hear (p1 : Int32) (v_w : (Nat → Int32)) (v_past : (Nat → Int32)) (v_pastMany : Int32) : Option (Int32 × (Nat → Int32) × (Nat → Int32) × Int32) :=
  (f_X4_isLetter p1).bind fun q1 =>
  if q1 = (0 : Int32) then
    some ((-1 : Int32), v_w, v_past, v_pastMany)
  else
    (f_X4_remember v_w v_past v_pastMany).bind fun q10 =>
    (f_X4_hearNow p1 v_w).bind fun q15 =>
    some (q15.1, q15.2, q10.1, q10.2)
def rm_X4_hear : Room := { frames := 3, cells := 0, slots := 0, locals := 69 }
set_option maxHeartbeats 4000000 in
set_option maxRecDepth 100000 in
theorem c_X4_hear (l : Launch) (dC : Nat → ClassId) (dI : Nat → Nat → Nat) (cI cZ cO : ClassId) (aM a_w a_past a_images a_text a_rowOf a_readLetter a_readCue a_readPassage a_held : Nat) (sz : Nat) (p1 : Int32) (v_w : (Nat → Int32)) (v_past : (Nat → Int32)) (v_pastMany : Int32) (v_images : (Nat → Int32)) (v_filled : Int32) (v_text : (Nat → Int32)) (v_length : Int32) (v_faultKind : Int32) (v_faultPlace : Int32) (v_rowOf : (Nat → Int32)) (v_rows : Int32) (v_wrongKind : Int32) (v_wrongPlace : Int32) (v_readWords : Int32) (v_readPassages : Int32) (v_readLetter : (Nat → Int32)) (v_readCue : (Nat → Int32)) (v_readPassage : (Nat → Int32)) (v_held : (Nat → Int32)) (r : Int32) (o_w : (Nat → Int32)) (o_past : (Nat → Int32)) (o_pastMany : Int32) (hF : f_X4_hear p1 v_w v_past v_pastMany = some (r, o_w, o_past, o_pastMany)) : Met l yX4_hear wsX4_hear rm_X4_hear (va_Pc [.ref aM, .int p1] (wrW dC dI cI cZ cO sz [(aM, .inr (4, [.ref a_w, .ref a_past, .int v_pastMany, .ref a_images, .int v_filled, .ref a_text, .int v_length, .int v_faultKind, .int v_faultPlace, .ref a_rowOf, .int v_rows, .int v_wrongKind, .int v_wrongPlace, .int v_readWords, .int v_readPassages, .ref a_readLetter, .ref a_readCue, .ref a_readPassage, .ref a_held])), (a_w, .inl (cI, 510, .inl v_w)), (a_past, .inl (cI, 4080, .inl v_past)), (a_images, .inl (cI, 1020, .inl v_images)), (a_text, .inl (cI, 140, .inl v_text)), (a_rowOf, .inl (cI, 120, .inl v_rowOf)), (a_readLetter, .inl (cI, 120, .inl v_readLetter)), (a_readCue, .inl (cI, 120, .inl v_readCue)), (a_readPassage, .inl (cI, 120, .inl v_readPassage)), (a_held, .inl (cI, 510, .inl v_held))])) (va_Qi (fun (q : Int32) (_ : Unit) => r = q) (wrE dC dI [(aM, .inr (4, [.ref a_w, .ref a_past, .int v_pastMany, .ref a_images, .int v_filled, .ref a_text, .int v_length, .int v_faultKind, .int v_faultPlace, .ref a_rowOf, .int v_rows, .int v_wrongKind, .int v_wrongPlace, .int v_readWords, .int v_readPassages, .ref a_readLetter, .ref a_readCue, .ref a_readPassage, .ref a_held])), (a_w, .inl (cI, 510, .inl v_w)), (a_past, .inl (cI, 4080, .inl v_past)), (a_images, .inl (cI, 1020, .inl v_images)), (a_text, .inl (cI, 140, .inl v_text)), (a_rowOf, .inl (cI, 120, .inl v_rowOf)), (a_readLetter, .inl (cI, 120, .inl v_readLetter)), (a_readCue, .inl (cI, 120, .inl v_readCue)), (a_readPassage, .inl (cI, 120, .inl v_readPassage)), (a_held, .inl (cI, 510, .inl v_held))] sz [(aM, .inr (4, [.ref a_w, .ref a_past, .int o_pastMany, .ref a_images, .int v_filled, .ref a_text, .int v_length, .int v_faultKind, .int v_faultPlace, .ref a_rowOf, .int v_rows, .int v_wrongKind, .int v_wrongPlace, .int v_readWords, .int v_readPassages, .ref a_readLetter, .ref a_readCue, .ref a_readPassage, .ref a_held])), (a_w, .inl (cI, 510, .inl o_w)), (a_past, .inl (cI, 4080, .inl o_past)), (a_images, .inl (cI, 1020, .inl v_images)), (a_text, .inl (cI, 140, .inl v_text)), (a_rowOf, .inl (cI, 120, .inl v_rowOf)), (a_readLetter, .inl (cI, 120, .inl v_readLetter)), (a_readCue, .inl (cI, 120, .inl v_readCue)), (a_readPassage, .inl (cI, 120, .inl v_readPassage)), (a_held, .inl (cI, 510, .inl v_held))]) (va_A [(aM, .inr (4, [.ref a_w, .ref a_past, .int v_pastMany, .ref a_images, .int v_filled, .ref a_text, .int v_length, .int v_faultKind, .int v_faultPlace, .ref a_rowOf, .int v_rows, .int v_wrongKind, .int v_wrongPlace, .int v_readWords, .int v_readPassages, .ref a_readLetter, .ref a_readCue, .ref a_readPassage, .ref a_held])), (a_w, .inl (cI, 510, .inl v_w)), (a_past, .inl (cI, 4080, .inl v_past)), (a_images, .inl (cI, 1020, .inl v_images)), (a_text, .inl (cI, 140, .inl v_text)), (a_rowOf, .inl (cI, 120, .inl v_rowOf)), (a_readLetter, .inl (cI, 120, .inl v_readLetter)), (a_readCue, .inl (cI, 120, .inl v_readCue)), (a_readPassage, .inl (cI, 120, .inl v_readPassage)), (a_held, .inl (cI, 510, .inl v_held))] sz)) 0 0 (va_A [(aM, .inr (4, [.ref a_w, .ref a_past, .int v_pastMany, .ref a_images, .int v_filled, .ref a_text, .int v_length, .int v_faultKind, .int v_faultPlace, .ref a_rowOf, .int v_rows, .int v_wrongKind, .int v_wrongPlace, .int v_readWords, .int v_readPassages, .ref a_readLetter, .ref a_readCue, .ref a_readPassage, .ref a_held])), (a_w, .inl (cI, 510, .inl v_w)), (a_past, .inl (cI, 4080, .inl v_past)), (a_images, .inl (cI, 1020, .inl v_images)), (a_text, .inl (cI, 140, .inl v_text)), (a_rowOf, .inl (cI, 120, .inl v_rowOf)), (a_readLetter, .inl (cI, 120, .inl v_readLetter)), (a_readCue, .inl (cI, 120, .inl v_readCue)), (a_readPassage, .inl (cI, 120, .inl v_readPassage)), (a_held, .inl (cI, 510, .inl v_held))] sz) := by
  refine Met.ofW (cc := cX4_hear) (maxL := 2) (ret := (some .int)) (by decide) rfl ?_
  intro p e s m args below meth c s₁ B hml hv
  obtain ⟨rfl, hsz, hP, hK, hN, hD0⟩ := hv
  have hx := B.exec
  have hb := B.bytes
  have hr := B.returns
  have hts := atoms_spec (ws := wsX4_hear) B.pre
  have hown : s.vm.findClass RX4 = some m.cls := findClass_of_methodNamed B.named
  have hlocks := B.notSynchronized
  subst hsz
  have hD := hD0.self (sz := s.heap.size)
  obtain ⟨Q, hQ⟩ : ∃ Q, Q = MQ below (va_Qi (fun (q : Int32) (_ : Unit) => r = q) (wrE dC dI [(aM, .inr (4, [.ref a_w, .ref a_past, .int v_pastMany, .ref a_images, .int v_filled, .ref a_text, .int v_length, .int v_faultKind, .int v_faultPlace, .ref a_rowOf, .int v_rows, .int v_wrongKind, .int v_wrongPlace, .int v_readWords, .int v_readPassages, .ref a_readLetter, .ref a_readCue, .ref a_readPassage, .ref a_held])), (a_w, .inl (cI, 510, .inl v_w)), (a_past, .inl (cI, 4080, .inl v_past)), (a_images, .inl (cI, 1020, .inl v_images)), (a_text, .inl (cI, 140, .inl v_text)), (a_rowOf, .inl (cI, 120, .inl v_rowOf)), (a_readLetter, .inl (cI, 120, .inl v_readLetter)), (a_readCue, .inl (cI, 120, .inl v_readCue)), (a_readPassage, .inl (cI, 120, .inl v_readPassage)), (a_held, .inl (cI, 510, .inl v_held))] s.heap.size [(aM, .inr (4, [.ref a_w, .ref a_past, .int o_pastMany, .ref a_images, .int v_filled, .ref a_text, .int v_length, .int v_faultKind, .int v_faultPlace, .ref a_rowOf, .int v_rows, .int v_wrongKind, .int v_wrongPlace, .int v_readWords, .int v_readPassages, .ref a_readLetter, .ref a_readCue, .ref a_readPassage, .ref a_held])), (a_w, .inl (cI, 510, .inl o_w)), (a_past, .inl (cI, 4080, .inl o_past)), (a_images, .inl (cI, 1020, .inl v_images)), (a_text, .inl (cI, 140, .inl v_text)), (a_rowOf, .inl (cI, 120, .inl v_rowOf)), (a_readLetter, .inl (cI, 120, .inl v_readLetter)), (a_readCue, .inl (cI, 120, .inl v_readCue)), (a_readPassage, .inl (cI, 120, .inl v_readPassage)), (a_held, .inl (cI, 510, .inl v_held))]) (va_A [(aM, .inr (4, [.ref a_w, .ref a_past, .int v_pastMany, .ref a_images, .int v_filled, .ref a_text, .int v_length, .int v_faultKind, .int v_faultPlace, .ref a_rowOf, .int v_rows, .int v_wrongKind, .int v_wrongPlace, .int v_readWords, .int v_readPassages, .ref a_readLetter, .ref a_readCue, .ref a_readPassage, .ref a_held])), (a_w, .inl (cI, 510, .inl v_w)), (a_past, .inl (cI, 4080, .inl v_past)), (a_images, .inl (cI, 1020, .inl v_images)), (a_text, .inl (cI, 140, .inl v_text)), (a_rowOf, .inl (cI, 120, .inl v_rowOf)), (a_readLetter, .inl (cI, 120, .inl v_readLetter)), (a_readCue, .inl (cI, 120, .inl v_readCue)), (a_readPassage, .inl (cI, 120, .inl v_readPassage)), (a_held, .inl (cI, 510, .inl v_held))] s.heap.size)) ([.ref aM, .int p1] : List Value).toArray s 0 0 (va_A [(aM, .inr (4, [.ref a_w, .ref a_past, .int v_pastMany, .ref a_images, .int v_filled, .ref a_text, .int v_length, .int v_faultKind, .int v_faultPlace, .ref a_rowOf, .int v_rows, .int v_wrongKind, .int v_wrongPlace, .int v_readWords, .int v_readPassages, .ref a_readLetter, .ref a_readCue, .ref a_readPassage, .ref a_held])), (a_w, .inl (cI, 510, .inl v_w)), (a_past, .inl (cI, 4080, .inl v_past)), (a_images, .inl (cI, 1020, .inl v_images)), (a_text, .inl (cI, 140, .inl v_text)), (a_rowOf, .inl (cI, 120, .inl v_rowOf)), (a_readLetter, .inl (cI, 120, .inl v_readLetter)), (a_readCue, .inl (cI, 120, .inl v_readCue)), (a_readPassage, .inl (cI, 120, .inl v_readPassage)), (a_held, .inl (cI, 510, .inl v_held))] s.heap.size) := ⟨_, rfl⟩
  rw [← hQ]
  obtain ⟨A, hAe⟩ : ∃ A, A = va_A [(aM, .inr (4, [.ref a_w, .ref a_past, .int v_pastMany, .ref a_images, .int v_filled, .ref a_text, .int v_length, .int v_faultKind, .int v_faultPlace, .ref a_rowOf, .int v_rows, .int v_wrongKind, .int v_wrongPlace, .int v_readWords, .int v_readPassages, .ref a_readLetter, .ref a_readCue, .ref a_readPassage, .ref a_held])), (a_w, .inl (cI, 510, .inl v_w)), (a_past, .inl (cI, 4080, .inl v_past)), (a_images, .inl (cI, 1020, .inl v_images)), (a_text, .inl (cI, 140, .inl v_text)), (a_rowOf, .inl (cI, 120, .inl v_rowOf)), (a_readLetter, .inl (cI, 120, .inl v_readLetter)), (a_readCue, .inl (cI, 120, .inl v_readCue)), (a_readPassage, .inl (cI, 120, .inl v_readPassage)), (a_held, .inl (cI, 510, .inl v_held))] s.heap.size := ⟨_, rfl⟩
  rw [← hAe] at hD
  have hA : ∀ q : Nat, s.heap.size ≤ q → A q := fun q h => by rw [hAe]; exact Or.inr h
  obtain ⟨H, hH⟩ : ∃ H, H = s.heap := ⟨_, rfl⟩
  have hS : va_S A s.heap H [] := by rw [hH]; exact va_S.rf
  rw [← hH] at hP
  rw [← hH]
  have hl := lv_entry ([.ref aM, .int p1]) (n := 2) (Nat.le_of_ble_eq_true rfl)
  rw [lg_entry_eq]
  generalize (lg_sl ([.ref aM, .int p1]) ++ List.replicate (2 - (lg_sl ([.ref aM, .int p1])).length) Slot.unset).toArray = ls at hl ⊢
  have hl : lv_has ls 2 [(0, .ref aM), (1, .int p1)] := hl
  unfold f_X4_hear at hF
  refine lv_iload_n hx hb dX4_hear_0 rfl (lv_at hl 1 rfl) ?_
  obtain ⟨q_1, hq_1, hF⟩ := bindE hF
  have hPc := hP.sub (ws' := []) [] rfl
  refine vp_callSi (va_Run.run (va_runS (As := [.int p1]) (rest := []) ⟨hx, hb, hml, hown, hts⟩ (c_X4_isLetter l dC dI cI cZ cO p1 q_1 hq_1) (cwS 1 hts gX4_hear_X4_isLetter rfl rfl rfl (by decide +kernel) ⟨Nat.le_of_ble_eq_true rfl, Nat.le_of_ble_eq_true rfl⟩) ⟨fb_rd, pre_rd hPc hK hN⟩ rfl rfl hl.1 rfl (lv_room (Nat.le_of_ble_eq_true rfl)) dX4_hear_1 ⟨Nat.zero_le _, Nat.zero_le _⟩)) (fun z_1 hz_1 => ?_)
  subst hz_1
  refine lv_if_ne (tgt := 9) hx hb dX4_hear_4 (by decide) (fun c_4 => ?_) (fun c_4 => ?_)
  · have hF := (if_neg c_4).symm.trans hF
    refine lv_aload_n hx hb dX4_hear_9 rfl (lv_at hl 0 rfl) ?_
    obtain ⟨q_10, hq_10, hF⟩ := bindE hF
    obtain ⟨u_10_past, u_10_pastMany⟩ := q_10
    have hPc := hP
    have hDc := hD
    have hFc := va_free (wc := [(aM, .inr (4, [.ref a_w, .ref a_past, .int v_pastMany, .ref a_images, .int v_filled, .ref a_text, .int v_length, .int v_faultKind, .int v_faultPlace, .ref a_rowOf, .int v_rows, .int v_wrongKind, .int v_wrongPlace, .int v_readWords, .int v_readPassages, .ref a_readLetter, .ref a_readCue, .ref a_readPassage, .ref a_held])), (a_w, .inl (cI, 510, .inl v_w)), (a_past, .inl (cI, 4080, .inl v_past)), (a_images, .inl (cI, 1020, .inl v_images)), (a_text, .inl (cI, 140, .inl v_text)), (a_rowOf, .inl (cI, 120, .inl v_rowOf)), (a_readLetter, .inl (cI, 120, .inl v_readLetter)), (a_readCue, .inl (cI, 120, .inl v_readCue)), (a_readPassage, .inl (cI, 120, .inl v_readPassage)), (a_held, .inl (cI, 510, .inl v_held))]) hD hS hA [0, 1, 2, 3, 4, 5, 6, 7, 8, 9] rfl
    refine va_callv (va_runV (As := []) (rest := []) ⟨hx, hb, hml, hown, hts⟩ (c_X4_remember l dC dI cI cZ cO aM a_w a_past a_images a_text a_rowOf a_readLetter a_readCue a_readPassage a_held H.size v_w v_past v_pastMany v_images v_filled v_text v_length v_faultKind v_faultPlace v_rowOf v_rows v_wrongKind v_wrongPlace v_readWords v_readPassages v_readLetter v_readCue v_readPassage v_held u_10_past u_10_pastMany hq_10) (cwV 0 hts gX4_hear_X4_remember rfl rfl rfl (by decide +kernel) ⟨Nat.le_of_ble_eq_true rfl, Nat.le_of_ble_eq_true rfl⟩) ⟨fb_wr, va_recv hK hPc (ci := 4) (q0 := 0) rfl rfl, pre_wr hPc hK hN hDc⟩ rfl rfl hl.1 rfl (lv_room (Nat.le_of_ble_eq_true rfl)) dX4_hear_10 ⟨Nat.zero_le _, Nat.zero_le _⟩) hS (fun q _ h => hFc q h) hFc (fun _ t H1 locs ht hvm hw hB hz1 hk1 hS => ?_)
    obtain ⟨hP1, hD1⟩ := hB
    rw [ht] at hP1
    obtain ⟨hP, hD⟩ := va_join (wr := []) (w1 := [(aM, .inr (4, [.ref a_w, .ref a_past, .int u_10_pastMany, .ref a_images, .int v_filled, .ref a_text, .int v_length, .int v_faultKind, .int v_faultPlace, .ref a_rowOf, .int v_rows, .int v_wrongKind, .int v_wrongPlace, .int v_readWords, .int v_readPassages, .ref a_readLetter, .ref a_readCue, .ref a_readPassage, .ref a_held])), (a_w, .inl (cI, 510, .inl v_w)), (a_past, .inl (cI, 4080, .inl u_10_past)), (a_images, .inl (cI, 1020, .inl v_images)), (a_text, .inl (cI, 140, .inl v_text)), (a_rowOf, .inl (cI, 120, .inl v_rowOf)), (a_readLetter, .inl (cI, 120, .inl v_readLetter)), (a_readCue, .inl (cI, 120, .inl v_readCue)), (a_readPassage, .inl (cI, 120, .inl v_readPassage)), (a_held, .inl (cI, 510, .inl v_held))]) hP hD [0, 1, 2, 3, 4, 5, 6, 7, 8, 9] [] rfl rfl (by decide) (by decide) hk1 hFc hP1 hD1
    generalize H1 = H at hP hS ⊢
    have hP : va_P (dC, dI) vwCl [(aM, .inr (4, [.ref a_w, .ref a_past, .int u_10_pastMany, .ref a_images, .int v_filled, .ref a_text, .int v_length, .int v_faultKind, .int v_faultPlace, .ref a_rowOf, .int v_rows, .int v_wrongKind, .int v_wrongPlace, .int v_readWords, .int v_readPassages, .ref a_readLetter, .ref a_readCue, .ref a_readPassage, .ref a_held])), (a_w, .inl (cI, 510, .inl v_w)), (a_past, .inl (cI, 4080, .inl u_10_past)), (a_images, .inl (cI, 1020, .inl v_images)), (a_text, .inl (cI, 140, .inl v_text)), (a_rowOf, .inl (cI, 120, .inl v_rowOf)), (a_readLetter, .inl (cI, 120, .inl v_readLetter)), (a_readCue, .inl (cI, 120, .inl v_readCue)), (a_readPassage, .inl (cI, 120, .inl v_readPassage)), (a_held, .inl (cI, 510, .inl v_held))] H := hP
    have hD : va_D A [(aM, .inr (4, [.ref a_w, .ref a_past, .int u_10_pastMany, .ref a_images, .int v_filled, .ref a_text, .int v_length, .int v_faultKind, .int v_faultPlace, .ref a_rowOf, .int v_rows, .int v_wrongKind, .int v_wrongPlace, .int v_readWords, .int v_readPassages, .ref a_readLetter, .ref a_readCue, .ref a_readPassage, .ref a_held])), (a_w, .inl (cI, 510, .inl v_w)), (a_past, .inl (cI, 4080, .inl u_10_past)), (a_images, .inl (cI, 1020, .inl v_images)), (a_text, .inl (cI, 140, .inl v_text)), (a_rowOf, .inl (cI, 120, .inl v_rowOf)), (a_readLetter, .inl (cI, 120, .inl v_readLetter)), (a_readCue, .inl (cI, 120, .inl v_readCue)), (a_readPassage, .inl (cI, 120, .inl v_readPassage)), (a_held, .inl (cI, 510, .inl v_held))] := hD
    refine lv_aload_n hx hb dX4_hear_13 rfl (lv_at hl 0 rfl) ?_
    refine lv_iload_n hx hb dX4_hear_14 rfl (lv_at hl 1 rfl) ?_
    obtain ⟨q_15, hq_15, hF⟩ := bindE hF
    obtain ⟨r_15, u_15_w⟩ := q_15
    have hPc := hP
    have hDc := hD
    have hFc := va_free (wc := [(aM, .inr (4, [.ref a_w, .ref a_past, .int u_10_pastMany, .ref a_images, .int v_filled, .ref a_text, .int v_length, .int v_faultKind, .int v_faultPlace, .ref a_rowOf, .int v_rows, .int v_wrongKind, .int v_wrongPlace, .int v_readWords, .int v_readPassages, .ref a_readLetter, .ref a_readCue, .ref a_readPassage, .ref a_held])), (a_w, .inl (cI, 510, .inl v_w)), (a_past, .inl (cI, 4080, .inl u_10_past)), (a_images, .inl (cI, 1020, .inl v_images)), (a_text, .inl (cI, 140, .inl v_text)), (a_rowOf, .inl (cI, 120, .inl v_rowOf)), (a_readLetter, .inl (cI, 120, .inl v_readLetter)), (a_readCue, .inl (cI, 120, .inl v_readCue)), (a_readPassage, .inl (cI, 120, .inl v_readPassage)), (a_held, .inl (cI, 510, .inl v_held))]) hD hS hA [0, 1, 2, 3, 4, 5, 6, 7, 8, 9] rfl
    refine va_calli (va_runV (As := [.int p1]) (rest := []) ⟨hx, hb, hml, hown, hts⟩ (c_X4_hearNow l dC dI cI cZ cO aM a_w a_past a_images a_text a_rowOf a_readLetter a_readCue a_readPassage a_held H.size p1 v_w u_10_past u_10_pastMany v_images v_filled v_text v_length v_faultKind v_faultPlace v_rowOf v_rows v_wrongKind v_wrongPlace v_readWords v_readPassages v_readLetter v_readCue v_readPassage v_held r_15 u_15_w hq_15) (cwV 1 hts gX4_hear_X4_hearNow rfl rfl rfl (by decide +kernel) ⟨Nat.le_of_ble_eq_true rfl, Nat.le_of_ble_eq_true rfl⟩) ⟨fb_wr, va_recv hK hPc (ci := 4) (q0 := 0) rfl rfl, pre_wr hPc hK hN hDc⟩ rfl rfl hl.1 rfl (lv_room (Nat.le_of_ble_eq_true rfl)) dX4_hear_15 ⟨Nat.zero_le _, Nat.zero_le _⟩) hS (fun q _ h => hFc q h) hFc (fun z_15 _ t H1 locs ht hvm hw hB hz1 hk1 hS => ?_)
    subst hw
    obtain ⟨hP1, hD1⟩ := hB
    rw [ht] at hP1
    obtain ⟨hP, hD⟩ := va_join (wr := []) (w1 := [(aM, .inr (4, [.ref a_w, .ref a_past, .int u_10_pastMany, .ref a_images, .int v_filled, .ref a_text, .int v_length, .int v_faultKind, .int v_faultPlace, .ref a_rowOf, .int v_rows, .int v_wrongKind, .int v_wrongPlace, .int v_readWords, .int v_readPassages, .ref a_readLetter, .ref a_readCue, .ref a_readPassage, .ref a_held])), (a_w, .inl (cI, 510, .inl u_15_w)), (a_past, .inl (cI, 4080, .inl u_10_past)), (a_images, .inl (cI, 1020, .inl v_images)), (a_text, .inl (cI, 140, .inl v_text)), (a_rowOf, .inl (cI, 120, .inl v_rowOf)), (a_readLetter, .inl (cI, 120, .inl v_readLetter)), (a_readCue, .inl (cI, 120, .inl v_readCue)), (a_readPassage, .inl (cI, 120, .inl v_readPassage)), (a_held, .inl (cI, 510, .inl v_held))]) hP hD [0, 1, 2, 3, 4, 5, 6, 7, 8, 9] [] rfl rfl (by decide) (by decide) hk1 hFc hP1 hD1
    generalize H1 = H at hP hS ⊢
    have hP : va_P (dC, dI) vwCl [(aM, .inr (4, [.ref a_w, .ref a_past, .int u_10_pastMany, .ref a_images, .int v_filled, .ref a_text, .int v_length, .int v_faultKind, .int v_faultPlace, .ref a_rowOf, .int v_rows, .int v_wrongKind, .int v_wrongPlace, .int v_readWords, .int v_readPassages, .ref a_readLetter, .ref a_readCue, .ref a_readPassage, .ref a_held])), (a_w, .inl (cI, 510, .inl u_15_w)), (a_past, .inl (cI, 4080, .inl u_10_past)), (a_images, .inl (cI, 1020, .inl v_images)), (a_text, .inl (cI, 140, .inl v_text)), (a_rowOf, .inl (cI, 120, .inl v_rowOf)), (a_readLetter, .inl (cI, 120, .inl v_readLetter)), (a_readCue, .inl (cI, 120, .inl v_readCue)), (a_readPassage, .inl (cI, 120, .inl v_readPassage)), (a_held, .inl (cI, 510, .inl v_held))] H := hP
    have hD : va_D A [(aM, .inr (4, [.ref a_w, .ref a_past, .int u_10_pastMany, .ref a_images, .int v_filled, .ref a_text, .int v_length, .int v_faultKind, .int v_faultPlace, .ref a_rowOf, .int v_rows, .int v_wrongKind, .int v_wrongPlace, .int v_readWords, .int v_readPassages, .ref a_readLetter, .ref a_readCue, .ref a_readPassage, .ref a_held])), (a_w, .inl (cI, 510, .inl u_15_w)), (a_past, .inl (cI, 4080, .inl u_10_past)), (a_images, .inl (cI, 1020, .inl v_images)), (a_text, .inl (cI, 140, .inl v_text)), (a_rowOf, .inl (cI, 120, .inl v_rowOf)), (a_readLetter, .inl (cI, 120, .inl v_readLetter)), (a_readCue, .inl (cI, 120, .inl v_readCue)), (a_readPassage, .inl (cI, 120, .inl v_readPassage)), (a_held, .inl (cI, 510, .inl v_held))] := hD
    have hF : some (r_15, u_15_w, u_10_past, u_10_pastMany) = some (r, o_w, o_past, o_pastMany) := hF
    have hP9 := hP
    have hD9 := hD
    cases hF
    subst hQ
    subst hAe
    exact W.iret hx hb hr (fun t ht hW => ⟨⟨_, (), rfl, rfl, ⟨by rw [ht]; exact hP9, hD9⟩⟩, hS.F ht⟩) hS.2.2 dX4_hear_18
  · have hF := (if_pos c_4).symm.trans hF
    refine lv_iconst (v := (-1 : Int32)) hx hb dX4_hear_7 (by decide) ?_
    have hF : some ((-1 : Int32), v_w, v_past, v_pastMany) = some (r, o_w, o_past, o_pastMany) := hF
    have hP9 := hP
    have hD9 := hD
    cases hF
    subst hQ
    subst hAe
    exact W.iret hx hb hr (fun t ht hW => ⟨⟨_, (), rfl, rfl, ⟨by rw [ht]; exact hP9, hD9⟩⟩, hS.F ht⟩) hS.2.2 dX4_hear_8
def f_X4_tick_26 (v_rowOf : (Nat → Int32)) (v_rows : Int32) (x1 : Int32) (x2 : Int32) (v_past : (Nat → Int32)) (v_pastMany : Int32) : Nat → Int32 → (Nat → Int32) → Option (Int32 × (Nat → Int32) × (Nat → Int32) × Int32)
  | 0, _, _ => none
  | n + 1, x3, v_w =>
    if x1 ≤ x3 then
      some (((v_w 18) - x2), v_w, v_past, v_pastMany)
    else
      (f_X4_tickOnce v_w v_rowOf v_rows).bind fun q32 =>
      f_X4_tick_26 v_rowOf v_rows x1 x2 v_past v_pastMany n (x3 + 1) q32
def f_X4_tick (p1 : Int32) (v_w : (Nat → Int32)) (v_past : (Nat → Int32)) (v_pastMany : Int32) (v_rowOf : (Nat → Int32)) (v_rows : Int32) : Option (Int32 × (Nat → Int32) × (Nat → Int32) × Int32) :=
  (f_X4_isIn p1 (1 : Int32) (100 : Int32)).bind fun q4 =>
  if q4 = (0 : Int32) then
    some ((-1 : Int32), v_w, v_past, v_pastMany)
  else
    (f_X4_remember v_w v_past v_pastMany).bind fun q13 =>
    f_X4_tick_26 v_rowOf v_rows p1 (v_w 18) q13.1 q13.2 gas (0 : Int32) v_w
def rm_X4_tick : Room := { frames := 4, cells := 0, slots := 0, locals := 86 }
set_option maxHeartbeats 4000000 in
set_option maxRecDepth 100000 in
theorem c_X4_tick (l : Launch) (dC : Nat → ClassId) (dI : Nat → Nat → Nat) (cI cZ cO : ClassId) (aM a_w a_past a_images a_text a_rowOf a_readLetter a_readCue a_readPassage a_held : Nat) (sz : Nat) (p1 : Int32) (v_w : (Nat → Int32)) (v_past : (Nat → Int32)) (v_pastMany : Int32) (v_images : (Nat → Int32)) (v_filled : Int32) (v_text : (Nat → Int32)) (v_length : Int32) (v_faultKind : Int32) (v_faultPlace : Int32) (v_rowOf : (Nat → Int32)) (v_rows : Int32) (v_wrongKind : Int32) (v_wrongPlace : Int32) (v_readWords : Int32) (v_readPassages : Int32) (v_readLetter : (Nat → Int32)) (v_readCue : (Nat → Int32)) (v_readPassage : (Nat → Int32)) (v_held : (Nat → Int32)) (r : Int32) (o_w : (Nat → Int32)) (o_past : (Nat → Int32)) (o_pastMany : Int32) (hF : f_X4_tick p1 v_w v_past v_pastMany v_rowOf v_rows = some (r, o_w, o_past, o_pastMany)) : Met l yX4_tick wsX4_tick rm_X4_tick (va_Pc [.ref aM, .int p1] (wrW dC dI cI cZ cO sz [(aM, .inr (4, [.ref a_w, .ref a_past, .int v_pastMany, .ref a_images, .int v_filled, .ref a_text, .int v_length, .int v_faultKind, .int v_faultPlace, .ref a_rowOf, .int v_rows, .int v_wrongKind, .int v_wrongPlace, .int v_readWords, .int v_readPassages, .ref a_readLetter, .ref a_readCue, .ref a_readPassage, .ref a_held])), (a_w, .inl (cI, 510, .inl v_w)), (a_past, .inl (cI, 4080, .inl v_past)), (a_images, .inl (cI, 1020, .inl v_images)), (a_text, .inl (cI, 140, .inl v_text)), (a_rowOf, .inl (cI, 120, .inl v_rowOf)), (a_readLetter, .inl (cI, 120, .inl v_readLetter)), (a_readCue, .inl (cI, 120, .inl v_readCue)), (a_readPassage, .inl (cI, 120, .inl v_readPassage)), (a_held, .inl (cI, 510, .inl v_held))])) (va_Qi (fun (q : Int32) (_ : Unit) => r = q) (wrE dC dI [(aM, .inr (4, [.ref a_w, .ref a_past, .int v_pastMany, .ref a_images, .int v_filled, .ref a_text, .int v_length, .int v_faultKind, .int v_faultPlace, .ref a_rowOf, .int v_rows, .int v_wrongKind, .int v_wrongPlace, .int v_readWords, .int v_readPassages, .ref a_readLetter, .ref a_readCue, .ref a_readPassage, .ref a_held])), (a_w, .inl (cI, 510, .inl v_w)), (a_past, .inl (cI, 4080, .inl v_past)), (a_images, .inl (cI, 1020, .inl v_images)), (a_text, .inl (cI, 140, .inl v_text)), (a_rowOf, .inl (cI, 120, .inl v_rowOf)), (a_readLetter, .inl (cI, 120, .inl v_readLetter)), (a_readCue, .inl (cI, 120, .inl v_readCue)), (a_readPassage, .inl (cI, 120, .inl v_readPassage)), (a_held, .inl (cI, 510, .inl v_held))] sz [(aM, .inr (4, [.ref a_w, .ref a_past, .int o_pastMany, .ref a_images, .int v_filled, .ref a_text, .int v_length, .int v_faultKind, .int v_faultPlace, .ref a_rowOf, .int v_rows, .int v_wrongKind, .int v_wrongPlace, .int v_readWords, .int v_readPassages, .ref a_readLetter, .ref a_readCue, .ref a_readPassage, .ref a_held])), (a_w, .inl (cI, 510, .inl o_w)), (a_past, .inl (cI, 4080, .inl o_past)), (a_images, .inl (cI, 1020, .inl v_images)), (a_text, .inl (cI, 140, .inl v_text)), (a_rowOf, .inl (cI, 120, .inl v_rowOf)), (a_readLetter, .inl (cI, 120, .inl v_readLetter)), (a_readCue, .inl (cI, 120, .inl v_readCue)), (a_readPassage, .inl (cI, 120, .inl v_readPassage)), (a_held, .inl (cI, 510, .inl v_held))]) (va_A [(aM, .inr (4, [.ref a_w, .ref a_past, .int v_pastMany, .ref a_images, .int v_filled, .ref a_text, .int v_length, .int v_faultKind, .int v_faultPlace, .ref a_rowOf, .int v_rows, .int v_wrongKind, .int v_wrongPlace, .int v_readWords, .int v_readPassages, .ref a_readLetter, .ref a_readCue, .ref a_readPassage, .ref a_held])), (a_w, .inl (cI, 510, .inl v_w)), (a_past, .inl (cI, 4080, .inl v_past)), (a_images, .inl (cI, 1020, .inl v_images)), (a_text, .inl (cI, 140, .inl v_text)), (a_rowOf, .inl (cI, 120, .inl v_rowOf)), (a_readLetter, .inl (cI, 120, .inl v_readLetter)), (a_readCue, .inl (cI, 120, .inl v_readCue)), (a_readPassage, .inl (cI, 120, .inl v_readPassage)), (a_held, .inl (cI, 510, .inl v_held))] sz)) 0 0 (va_A [(aM, .inr (4, [.ref a_w, .ref a_past, .int v_pastMany, .ref a_images, .int v_filled, .ref a_text, .int v_length, .int v_faultKind, .int v_faultPlace, .ref a_rowOf, .int v_rows, .int v_wrongKind, .int v_wrongPlace, .int v_readWords, .int v_readPassages, .ref a_readLetter, .ref a_readCue, .ref a_readPassage, .ref a_held])), (a_w, .inl (cI, 510, .inl v_w)), (a_past, .inl (cI, 4080, .inl v_past)), (a_images, .inl (cI, 1020, .inl v_images)), (a_text, .inl (cI, 140, .inl v_text)), (a_rowOf, .inl (cI, 120, .inl v_rowOf)), (a_readLetter, .inl (cI, 120, .inl v_readLetter)), (a_readCue, .inl (cI, 120, .inl v_readCue)), (a_readPassage, .inl (cI, 120, .inl v_readPassage)), (a_held, .inl (cI, 510, .inl v_held))] sz) := by
  refine Met.ofW (cc := cX4_tick) (maxL := 4) (ret := (some .int)) (by decide) rfl ?_
  intro p e s m args below meth c s₁ B hml hv
  obtain ⟨rfl, hsz, hP, hK, hN, hD0⟩ := hv
  have hx := B.exec
  have hb := B.bytes
  have hr := B.returns
  have hts := atoms_spec (ws := wsX4_tick) B.pre
  have hown : s.vm.findClass RX4 = some m.cls := findClass_of_methodNamed B.named
  have hlocks := B.notSynchronized
  subst hsz
  have hD := hD0.self (sz := s.heap.size)
  obtain ⟨Q, hQ⟩ : ∃ Q, Q = MQ below (va_Qi (fun (q : Int32) (_ : Unit) => r = q) (wrE dC dI [(aM, .inr (4, [.ref a_w, .ref a_past, .int v_pastMany, .ref a_images, .int v_filled, .ref a_text, .int v_length, .int v_faultKind, .int v_faultPlace, .ref a_rowOf, .int v_rows, .int v_wrongKind, .int v_wrongPlace, .int v_readWords, .int v_readPassages, .ref a_readLetter, .ref a_readCue, .ref a_readPassage, .ref a_held])), (a_w, .inl (cI, 510, .inl v_w)), (a_past, .inl (cI, 4080, .inl v_past)), (a_images, .inl (cI, 1020, .inl v_images)), (a_text, .inl (cI, 140, .inl v_text)), (a_rowOf, .inl (cI, 120, .inl v_rowOf)), (a_readLetter, .inl (cI, 120, .inl v_readLetter)), (a_readCue, .inl (cI, 120, .inl v_readCue)), (a_readPassage, .inl (cI, 120, .inl v_readPassage)), (a_held, .inl (cI, 510, .inl v_held))] s.heap.size [(aM, .inr (4, [.ref a_w, .ref a_past, .int o_pastMany, .ref a_images, .int v_filled, .ref a_text, .int v_length, .int v_faultKind, .int v_faultPlace, .ref a_rowOf, .int v_rows, .int v_wrongKind, .int v_wrongPlace, .int v_readWords, .int v_readPassages, .ref a_readLetter, .ref a_readCue, .ref a_readPassage, .ref a_held])), (a_w, .inl (cI, 510, .inl o_w)), (a_past, .inl (cI, 4080, .inl o_past)), (a_images, .inl (cI, 1020, .inl v_images)), (a_text, .inl (cI, 140, .inl v_text)), (a_rowOf, .inl (cI, 120, .inl v_rowOf)), (a_readLetter, .inl (cI, 120, .inl v_readLetter)), (a_readCue, .inl (cI, 120, .inl v_readCue)), (a_readPassage, .inl (cI, 120, .inl v_readPassage)), (a_held, .inl (cI, 510, .inl v_held))]) (va_A [(aM, .inr (4, [.ref a_w, .ref a_past, .int v_pastMany, .ref a_images, .int v_filled, .ref a_text, .int v_length, .int v_faultKind, .int v_faultPlace, .ref a_rowOf, .int v_rows, .int v_wrongKind, .int v_wrongPlace, .int v_readWords, .int v_readPassages, .ref a_readLetter, .ref a_readCue, .ref a_readPassage, .ref a_held])), (a_w, .inl (cI, 510, .inl v_w)), (a_past, .inl (cI, 4080, .inl v_past)), (a_images, .inl (cI, 1020, .inl v_images)), (a_text, .inl (cI, 140, .inl v_text)), (a_rowOf, .inl (cI, 120, .inl v_rowOf)), (a_readLetter, .inl (cI, 120, .inl v_readLetter)), (a_readCue, .inl (cI, 120, .inl v_readCue)), (a_readPassage, .inl (cI, 120, .inl v_readPassage)), (a_held, .inl (cI, 510, .inl v_held))] s.heap.size)) ([.ref aM, .int p1] : List Value).toArray s 0 0 (va_A [(aM, .inr (4, [.ref a_w, .ref a_past, .int v_pastMany, .ref a_images, .int v_filled, .ref a_text, .int v_length, .int v_faultKind, .int v_faultPlace, .ref a_rowOf, .int v_rows, .int v_wrongKind, .int v_wrongPlace, .int v_readWords, .int v_readPassages, .ref a_readLetter, .ref a_readCue, .ref a_readPassage, .ref a_held])), (a_w, .inl (cI, 510, .inl v_w)), (a_past, .inl (cI, 4080, .inl v_past)), (a_images, .inl (cI, 1020, .inl v_images)), (a_text, .inl (cI, 140, .inl v_text)), (a_rowOf, .inl (cI, 120, .inl v_rowOf)), (a_readLetter, .inl (cI, 120, .inl v_readLetter)), (a_readCue, .inl (cI, 120, .inl v_readCue)), (a_readPassage, .inl (cI, 120, .inl v_readPassage)), (a_held, .inl (cI, 510, .inl v_held))] s.heap.size) := ⟨_, rfl⟩
  rw [← hQ]
  obtain ⟨A, hAe⟩ : ∃ A, A = va_A [(aM, .inr (4, [.ref a_w, .ref a_past, .int v_pastMany, .ref a_images, .int v_filled, .ref a_text, .int v_length, .int v_faultKind, .int v_faultPlace, .ref a_rowOf, .int v_rows, .int v_wrongKind, .int v_wrongPlace, .int v_readWords, .int v_readPassages, .ref a_readLetter, .ref a_readCue, .ref a_readPassage, .ref a_held])), (a_w, .inl (cI, 510, .inl v_w)), (a_past, .inl (cI, 4080, .inl v_past)), (a_images, .inl (cI, 1020, .inl v_images)), (a_text, .inl (cI, 140, .inl v_text)), (a_rowOf, .inl (cI, 120, .inl v_rowOf)), (a_readLetter, .inl (cI, 120, .inl v_readLetter)), (a_readCue, .inl (cI, 120, .inl v_readCue)), (a_readPassage, .inl (cI, 120, .inl v_readPassage)), (a_held, .inl (cI, 510, .inl v_held))] s.heap.size := ⟨_, rfl⟩
  rw [← hAe] at hD
  have hA : ∀ q : Nat, s.heap.size ≤ q → A q := fun q h => by rw [hAe]; exact Or.inr h
  obtain ⟨H, hH⟩ : ∃ H, H = s.heap := ⟨_, rfl⟩
  have hS : va_S A s.heap H [] := by rw [hH]; exact va_S.rf
  rw [← hH] at hP
  rw [← hH]
  have fl7 := hts (.fieldLink RX4 7 "TeleprompterModel" "w" "[I") (by decide +kernel)
  have inX4 : ∀ w ∈ u_ws RX4 TX4 19, w ∈ wsX4_tick := by decide +kernel
  have hl := lv_entry ([.ref aM, .int p1]) (n := 4) (Nat.le_of_ble_eq_true rfl)
  rw [lg_entry_eq]
  generalize (lg_sl ([.ref aM, .int p1]) ++ List.replicate (4 - (lg_sl ([.ref aM, .int p1])).length) Slot.unset).toArray = ls at hl ⊢
  have hl : lv_has ls 4 [(0, .ref aM), (1, .int p1)] := hl
  have B26 : ∀ (n_26 : Nat) (x1_26 : Int32) (x2_26 : Int32) (v_past_26 : (Nat → Int32)) (v_pastMany_26 : Int32) (x3_26 : Int32) (v_w_26 : (Nat → Int32)), f_X4_tick_26 v_rowOf v_rows x1_26 x2_26 v_past_26 v_pastMany_26 n_26 x3_26 v_w_26 = some (r, o_w, o_past, o_pastMany) → ∀ (H : Heap) (locs : List Loc), va_P (dC, dI) vwCl [(aM, .inr (4, [.ref a_w, .ref a_past, .int v_pastMany_26, .ref a_images, .int v_filled, .ref a_text, .int v_length, .int v_faultKind, .int v_faultPlace, .ref a_rowOf, .int v_rows, .int v_wrongKind, .int v_wrongPlace, .int v_readWords, .int v_readPassages, .ref a_readLetter, .ref a_readCue, .ref a_readPassage, .ref a_held])), (a_w, .inl (cI, 510, .inl v_w_26)), (a_past, .inl (cI, 4080, .inl v_past_26)), (a_images, .inl (cI, 1020, .inl v_images)), (a_text, .inl (cI, 140, .inl v_text)), (a_rowOf, .inl (cI, 120, .inl v_rowOf)), (a_readLetter, .inl (cI, 120, .inl v_readLetter)), (a_readCue, .inl (cI, 120, .inl v_readCue)), (a_readPassage, .inl (cI, 120, .inl v_readPassage)), (a_held, .inl (cI, 510, .inl v_held))] H → va_D A [(aM, .inr (4, [.ref a_w, .ref a_past, .int v_pastMany_26, .ref a_images, .int v_filled, .ref a_text, .int v_length, .int v_faultKind, .int v_faultPlace, .ref a_rowOf, .int v_rows, .int v_wrongKind, .int v_wrongPlace, .int v_readWords, .int v_readPassages, .ref a_readLetter, .ref a_readCue, .ref a_readPassage, .ref a_held])), (a_w, .inl (cI, 510, .inl v_w_26)), (a_past, .inl (cI, 4080, .inl v_past_26)), (a_images, .inl (cI, 1020, .inl v_images)), (a_text, .inl (cI, 140, .inl v_text)), (a_rowOf, .inl (cI, 120, .inl v_rowOf)), (a_readLetter, .inl (cI, 120, .inl v_readLetter)), (a_readCue, .inl (cI, 120, .inl v_readCue)), (a_readPassage, .inl (cI, 120, .inl v_readPassage)), (a_held, .inl (cI, 510, .inl v_held))] → va_S A s.heap H locs → ∀ ls : Array Slot, lv_has ls 4 [(0, .ref aM), (1, .int x1_26), (2, .int x2_26), (3, .int x3_26)] → W p l e (headSpec wsX4_tick rm_X4_tick).room s m ([.ref aM, .int p1] : List Value).toArray below meth c H locs 0 0 Q (F0 m 26 ls []) := by
    intro n_26
    induction n_26 with
    | zero => intro x1_26 x2_26 v_past_26 v_pastMany_26 x3_26 v_w_26 hF; exact noneE hF
    | succ n_26 ih26 =>
      intro x1_26 x2_26 v_past_26 v_pastMany_26 x3_26 v_w_26 hF H locs hP hD hS ls hl
      rw [f_X4_tick_26] at hF
      refine lv_iload_n hx hb dX4_tick_26 rfl (lv_at hl 3 rfl) ?_
      refine lv_iload_n hx hb dX4_tick_27 rfl (lv_at hl 1 rfl) ?_
      refine lv_icmp_ge (tgt := 41) hx hb dX4_tick_28 (by decide) (fun c_28 => ?_) (fun c_28 => ?_)
      · have hF := (if_pos c_28).symm.trans hF
        refine lv_aload_n hx hb dX4_tick_41 rfl (lv_at hl 0 rfl) ?_
        refine va_get (D := (dC, dI)) (ci := 4) (v := .ref a_w) (C := RX4) (T := TX4) (N := 19) hx hb hts inX4 hown hK hP 0 rfl rfl 0 (by decide) fl7 (fun _ h9 => h9) rfl dX4_tick_42 ?_
        refine lv_bipush (v := (18 : Int32)) hx hb dX4_tick_45 (by decide) ?_
        refine va_ialdK hx hb hK hP 1 0 rfl rfl (inK (by decide)) (j := 18) (by decide) dX4_tick_47 ?_
        refine lv_iload_n hx hb dX4_tick_48 rfl (lv_at hl 2 rfl) ?_
        refine lv_isub hx hb dX4_tick_49 ?_
        have hF : some (((v_w_26 18) - x2_26), v_w_26, v_past_26, v_pastMany_26) = some (r, o_w, o_past, o_pastMany) := hF
        have hP9 := hP
        have hD9 := hD
        cases hF
        subst hQ
        subst hAe
        exact W.iret hx hb hr (fun t ht hW => ⟨⟨_, (), rfl, rfl, ⟨by rw [ht]; exact hP9, hD9⟩⟩, hS.F ht⟩) hS.2.2 dX4_tick_50
      · have hF := (if_neg c_28).symm.trans hF
        refine lv_aload_n hx hb dX4_tick_31 rfl (lv_at hl 0 rfl) ?_
        obtain ⟨q_32, hq_32, hF⟩ := bindE hF
        have hPc := hP
        have hDc := hD
        have hFc := va_free (wc := [(aM, .inr (4, [.ref a_w, .ref a_past, .int v_pastMany_26, .ref a_images, .int v_filled, .ref a_text, .int v_length, .int v_faultKind, .int v_faultPlace, .ref a_rowOf, .int v_rows, .int v_wrongKind, .int v_wrongPlace, .int v_readWords, .int v_readPassages, .ref a_readLetter, .ref a_readCue, .ref a_readPassage, .ref a_held])), (a_w, .inl (cI, 510, .inl v_w_26)), (a_past, .inl (cI, 4080, .inl v_past_26)), (a_images, .inl (cI, 1020, .inl v_images)), (a_text, .inl (cI, 140, .inl v_text)), (a_rowOf, .inl (cI, 120, .inl v_rowOf)), (a_readLetter, .inl (cI, 120, .inl v_readLetter)), (a_readCue, .inl (cI, 120, .inl v_readCue)), (a_readPassage, .inl (cI, 120, .inl v_readPassage)), (a_held, .inl (cI, 510, .inl v_held))]) hD hS hA [0, 1, 2, 3, 4, 5, 6, 7, 8, 9] rfl
        refine va_callv (va_runV (As := []) (rest := []) ⟨hx, hb, hml, hown, hts⟩ (c_X4_tickOnce l dC dI cI cZ cO aM a_w a_past a_images a_text a_rowOf a_readLetter a_readCue a_readPassage a_held H.size v_w_26 v_past_26 v_pastMany_26 v_images v_filled v_text v_length v_faultKind v_faultPlace v_rowOf v_rows v_wrongKind v_wrongPlace v_readWords v_readPassages v_readLetter v_readCue v_readPassage v_held q_32 hq_32) (cwV 0 hts gX4_tick_X4_tickOnce rfl rfl rfl (by decide +kernel) ⟨Nat.le_of_ble_eq_true rfl, Nat.le_of_ble_eq_true rfl⟩) ⟨fb_wr, va_recv hK hPc (ci := 4) (q0 := 0) rfl rfl, pre_wr hPc hK hN hDc⟩ rfl rfl hl.1 rfl (lv_room (Nat.le_of_ble_eq_true rfl)) dX4_tick_32 ⟨Nat.zero_le _, Nat.zero_le _⟩) hS (fun q _ h => hFc q h) hFc (fun _ t H1 locs ht hvm hw hB hz1 hk1 hS => ?_)
        obtain ⟨hP1, hD1⟩ := hB
        rw [ht] at hP1
        obtain ⟨hP, hD⟩ := va_join (wr := []) (w1 := [(aM, .inr (4, [.ref a_w, .ref a_past, .int v_pastMany_26, .ref a_images, .int v_filled, .ref a_text, .int v_length, .int v_faultKind, .int v_faultPlace, .ref a_rowOf, .int v_rows, .int v_wrongKind, .int v_wrongPlace, .int v_readWords, .int v_readPassages, .ref a_readLetter, .ref a_readCue, .ref a_readPassage, .ref a_held])), (a_w, .inl (cI, 510, .inl q_32)), (a_past, .inl (cI, 4080, .inl v_past_26)), (a_images, .inl (cI, 1020, .inl v_images)), (a_text, .inl (cI, 140, .inl v_text)), (a_rowOf, .inl (cI, 120, .inl v_rowOf)), (a_readLetter, .inl (cI, 120, .inl v_readLetter)), (a_readCue, .inl (cI, 120, .inl v_readCue)), (a_readPassage, .inl (cI, 120, .inl v_readPassage)), (a_held, .inl (cI, 510, .inl v_held))]) hP hD [0, 1, 2, 3, 4, 5, 6, 7, 8, 9] [] rfl rfl (by decide) (by decide) hk1 hFc hP1 hD1
        generalize H1 = H at hP hS ⊢
        have hP : va_P (dC, dI) vwCl [(aM, .inr (4, [.ref a_w, .ref a_past, .int v_pastMany_26, .ref a_images, .int v_filled, .ref a_text, .int v_length, .int v_faultKind, .int v_faultPlace, .ref a_rowOf, .int v_rows, .int v_wrongKind, .int v_wrongPlace, .int v_readWords, .int v_readPassages, .ref a_readLetter, .ref a_readCue, .ref a_readPassage, .ref a_held])), (a_w, .inl (cI, 510, .inl q_32)), (a_past, .inl (cI, 4080, .inl v_past_26)), (a_images, .inl (cI, 1020, .inl v_images)), (a_text, .inl (cI, 140, .inl v_text)), (a_rowOf, .inl (cI, 120, .inl v_rowOf)), (a_readLetter, .inl (cI, 120, .inl v_readLetter)), (a_readCue, .inl (cI, 120, .inl v_readCue)), (a_readPassage, .inl (cI, 120, .inl v_readPassage)), (a_held, .inl (cI, 510, .inl v_held))] H := hP
        have hD : va_D A [(aM, .inr (4, [.ref a_w, .ref a_past, .int v_pastMany_26, .ref a_images, .int v_filled, .ref a_text, .int v_length, .int v_faultKind, .int v_faultPlace, .ref a_rowOf, .int v_rows, .int v_wrongKind, .int v_wrongPlace, .int v_readWords, .int v_readPassages, .ref a_readLetter, .ref a_readCue, .ref a_readPassage, .ref a_held])), (a_w, .inl (cI, 510, .inl q_32)), (a_past, .inl (cI, 4080, .inl v_past_26)), (a_images, .inl (cI, 1020, .inl v_images)), (a_text, .inl (cI, 140, .inl v_text)), (a_rowOf, .inl (cI, 120, .inl v_rowOf)), (a_readLetter, .inl (cI, 120, .inl v_readLetter)), (a_readCue, .inl (cI, 120, .inl v_readCue)), (a_readPassage, .inl (cI, 120, .inl v_readPassage)), (a_held, .inl (cI, 510, .inl v_held))] := hD
        refine lv_iinc (v := (x3_26 + 1)) (lv' := [(3, .int (x3_26 + 1)), (0, .ref aM), (1, .int x1_26), (2, .int x2_26)]) hx hb dX4_tick_35 hl (k := 3) rfl rfl (by decide) rfl (fun ls hl => ?_)
        refine lv_goto (tgt := 26) hx hb dX4_tick_38 (by decide) ?_
        exact ih26 x1_26 x2_26 v_past_26 v_pastMany_26 (x3_26 + 1) q_32 hF _ _ hP hD hS _ (lv_sub hl [1, 2, 3, 0] rfl)
  unfold f_X4_tick at hF
  refine lv_iload_n hx hb dX4_tick_0 rfl (lv_at hl 1 rfl) ?_
  refine lv_iconst (v := (1 : Int32)) hx hb dX4_tick_1 (by decide) ?_
  refine lv_bipush (v := (100 : Int32)) hx hb dX4_tick_2 (by decide) ?_
  obtain ⟨q_4, hq_4, hF⟩ := bindE hF
  have hPc := hP.sub (ws' := []) [] rfl
  refine vp_callSi (va_Run.run (va_runS (As := [.int p1, .int (1 : Int32), .int (100 : Int32)]) (rest := []) ⟨hx, hb, hml, hown, hts⟩ (c_X4_isIn l dC dI cI cZ cO p1 (1 : Int32) (100 : Int32) q_4 hq_4) (cwS 3 hts gX4_tick_X4_isIn rfl rfl rfl (by decide +kernel) ⟨Nat.le_of_ble_eq_true rfl, Nat.le_of_ble_eq_true rfl⟩) ⟨fb_rd, pre_rd hPc hK hN⟩ rfl rfl hl.1 rfl (lv_room (Nat.le_of_ble_eq_true rfl)) dX4_tick_4 ⟨Nat.zero_le _, Nat.zero_le _⟩)) (fun z_4 hz_4 => ?_)
  subst hz_4
  refine lv_if_ne (tgt := 12) hx hb dX4_tick_7 (by decide) (fun c_7 => ?_) (fun c_7 => ?_)
  · have hF := (if_neg c_7).symm.trans hF
    refine lv_aload_n hx hb dX4_tick_12 rfl (lv_at hl 0 rfl) ?_
    obtain ⟨q_13, hq_13, hF⟩ := bindE hF
    obtain ⟨u_13_past, u_13_pastMany⟩ := q_13
    have hPc := hP
    have hDc := hD
    have hFc := va_free (wc := [(aM, .inr (4, [.ref a_w, .ref a_past, .int v_pastMany, .ref a_images, .int v_filled, .ref a_text, .int v_length, .int v_faultKind, .int v_faultPlace, .ref a_rowOf, .int v_rows, .int v_wrongKind, .int v_wrongPlace, .int v_readWords, .int v_readPassages, .ref a_readLetter, .ref a_readCue, .ref a_readPassage, .ref a_held])), (a_w, .inl (cI, 510, .inl v_w)), (a_past, .inl (cI, 4080, .inl v_past)), (a_images, .inl (cI, 1020, .inl v_images)), (a_text, .inl (cI, 140, .inl v_text)), (a_rowOf, .inl (cI, 120, .inl v_rowOf)), (a_readLetter, .inl (cI, 120, .inl v_readLetter)), (a_readCue, .inl (cI, 120, .inl v_readCue)), (a_readPassage, .inl (cI, 120, .inl v_readPassage)), (a_held, .inl (cI, 510, .inl v_held))]) hD hS hA [0, 1, 2, 3, 4, 5, 6, 7, 8, 9] rfl
    refine va_callv (va_runV (As := []) (rest := []) ⟨hx, hb, hml, hown, hts⟩ (c_X4_remember l dC dI cI cZ cO aM a_w a_past a_images a_text a_rowOf a_readLetter a_readCue a_readPassage a_held H.size v_w v_past v_pastMany v_images v_filled v_text v_length v_faultKind v_faultPlace v_rowOf v_rows v_wrongKind v_wrongPlace v_readWords v_readPassages v_readLetter v_readCue v_readPassage v_held u_13_past u_13_pastMany hq_13) (cwV 0 hts gX4_tick_X4_remember rfl rfl rfl (by decide +kernel) ⟨Nat.le_of_ble_eq_true rfl, Nat.le_of_ble_eq_true rfl⟩) ⟨fb_wr, va_recv hK hPc (ci := 4) (q0 := 0) rfl rfl, pre_wr hPc hK hN hDc⟩ rfl rfl hl.1 rfl (lv_room (Nat.le_of_ble_eq_true rfl)) dX4_tick_13 ⟨Nat.zero_le _, Nat.zero_le _⟩) hS (fun q _ h => hFc q h) hFc (fun _ t H1 locs ht hvm hw hB hz1 hk1 hS => ?_)
    obtain ⟨hP1, hD1⟩ := hB
    rw [ht] at hP1
    obtain ⟨hP, hD⟩ := va_join (wr := []) (w1 := [(aM, .inr (4, [.ref a_w, .ref a_past, .int u_13_pastMany, .ref a_images, .int v_filled, .ref a_text, .int v_length, .int v_faultKind, .int v_faultPlace, .ref a_rowOf, .int v_rows, .int v_wrongKind, .int v_wrongPlace, .int v_readWords, .int v_readPassages, .ref a_readLetter, .ref a_readCue, .ref a_readPassage, .ref a_held])), (a_w, .inl (cI, 510, .inl v_w)), (a_past, .inl (cI, 4080, .inl u_13_past)), (a_images, .inl (cI, 1020, .inl v_images)), (a_text, .inl (cI, 140, .inl v_text)), (a_rowOf, .inl (cI, 120, .inl v_rowOf)), (a_readLetter, .inl (cI, 120, .inl v_readLetter)), (a_readCue, .inl (cI, 120, .inl v_readCue)), (a_readPassage, .inl (cI, 120, .inl v_readPassage)), (a_held, .inl (cI, 510, .inl v_held))]) hP hD [0, 1, 2, 3, 4, 5, 6, 7, 8, 9] [] rfl rfl (by decide) (by decide) hk1 hFc hP1 hD1
    generalize H1 = H at hP hS ⊢
    have hP : va_P (dC, dI) vwCl [(aM, .inr (4, [.ref a_w, .ref a_past, .int u_13_pastMany, .ref a_images, .int v_filled, .ref a_text, .int v_length, .int v_faultKind, .int v_faultPlace, .ref a_rowOf, .int v_rows, .int v_wrongKind, .int v_wrongPlace, .int v_readWords, .int v_readPassages, .ref a_readLetter, .ref a_readCue, .ref a_readPassage, .ref a_held])), (a_w, .inl (cI, 510, .inl v_w)), (a_past, .inl (cI, 4080, .inl u_13_past)), (a_images, .inl (cI, 1020, .inl v_images)), (a_text, .inl (cI, 140, .inl v_text)), (a_rowOf, .inl (cI, 120, .inl v_rowOf)), (a_readLetter, .inl (cI, 120, .inl v_readLetter)), (a_readCue, .inl (cI, 120, .inl v_readCue)), (a_readPassage, .inl (cI, 120, .inl v_readPassage)), (a_held, .inl (cI, 510, .inl v_held))] H := hP
    have hD : va_D A [(aM, .inr (4, [.ref a_w, .ref a_past, .int u_13_pastMany, .ref a_images, .int v_filled, .ref a_text, .int v_length, .int v_faultKind, .int v_faultPlace, .ref a_rowOf, .int v_rows, .int v_wrongKind, .int v_wrongPlace, .int v_readWords, .int v_readPassages, .ref a_readLetter, .ref a_readCue, .ref a_readPassage, .ref a_held])), (a_w, .inl (cI, 510, .inl v_w)), (a_past, .inl (cI, 4080, .inl u_13_past)), (a_images, .inl (cI, 1020, .inl v_images)), (a_text, .inl (cI, 140, .inl v_text)), (a_rowOf, .inl (cI, 120, .inl v_rowOf)), (a_readLetter, .inl (cI, 120, .inl v_readLetter)), (a_readCue, .inl (cI, 120, .inl v_readCue)), (a_readPassage, .inl (cI, 120, .inl v_readPassage)), (a_held, .inl (cI, 510, .inl v_held))] := hD
    refine lv_aload_n hx hb dX4_tick_16 rfl (lv_at hl 0 rfl) ?_
    refine va_get (D := (dC, dI)) (ci := 4) (v := .ref a_w) (C := RX4) (T := TX4) (N := 19) hx hb hts inX4 hown hK hP 0 rfl rfl 0 (by decide) fl7 (fun _ h9 => h9) rfl dX4_tick_17 ?_
    refine lv_bipush (v := (18 : Int32)) hx hb dX4_tick_20 (by decide) ?_
    refine va_ialdK hx hb hK hP 1 0 rfl rfl (inK (by decide)) (j := 18) (by decide) dX4_tick_22 ?_
    refine lv_istore_n (lv' := [(2, .int (v_w 18)), (0, .ref aM), (1, .int p1)]) hx hb dX4_tick_23 rfl hl (by decide) rfl (fun ls hl => ?_)
    refine lv_iconst (v := (0 : Int32)) hx hb dX4_tick_24 (by decide) ?_
    refine lv_istore_n (lv' := [(3, .int (0 : Int32)), (2, .int (v_w 18)), (0, .ref aM), (1, .int p1)]) hx hb dX4_tick_25 rfl hl (by decide) rfl (fun ls hl => ?_)
    exact B26 gas p1 (v_w 18) u_13_past u_13_pastMany (0 : Int32) v_w hF _ _ hP hD hS _ (lv_sub hl [2, 3, 1, 0] rfl)
  · have hF := (if_pos c_7).symm.trans hF
    refine lv_iconst (v := (-1 : Int32)) hx hb dX4_tick_10 (by decide) ?_
    have hF : some ((-1 : Int32), v_w, v_past, v_pastMany) = some (r, o_w, o_past, o_pastMany) := hF
    have hP9 := hP
    have hD9 := hD
    cases hF
    subst hQ
    subst hAe
    exact W.iret hx hb hr (fun t ht hW => ⟨⟨_, (), rfl, rfl, ⟨by rw [ht]; exact hP9, hD9⟩⟩, hS.F ht⟩) hS.2.2 dX4_tick_11
def f_X4_release (v_w : (Nat → Int32)) (v_past : (Nat → Int32)) (v_pastMany : Int32) : Option (Int32 × (Nat → Int32) × (Nat → Int32) × Int32) :=
  (f_X4_nextCue v_w).bind fun q1 =>
  if q1 = (-9 : Int32) then
    some ((-2 : Int32), v_w, v_past, v_pastMany)
  else
    (f_X4_remember v_w v_past v_pastMany).bind fun q13 =>
    (f_X4_releaseNext v_w).bind fun q17 =>
    some (q17.1, q17.2, q13.1, q13.2)
def rm_X4_release : Room := { frames := 2, cells := 0, slots := 0, locals := 42 }
set_option maxHeartbeats 4000000 in
set_option maxRecDepth 100000 in
theorem c_X4_release (l : Launch) (dC : Nat → ClassId) (dI : Nat → Nat → Nat) (cI cZ cO : ClassId) (aM a_w a_past a_images a_text a_rowOf a_readLetter a_readCue a_readPassage a_held : Nat) (sz : Nat) (v_w : (Nat → Int32)) (v_past : (Nat → Int32)) (v_pastMany : Int32) (v_images : (Nat → Int32)) (v_filled : Int32) (v_text : (Nat → Int32)) (v_length : Int32) (v_faultKind : Int32) (v_faultPlace : Int32) (v_rowOf : (Nat → Int32)) (v_rows : Int32) (v_wrongKind : Int32) (v_wrongPlace : Int32) (v_readWords : Int32) (v_readPassages : Int32) (v_readLetter : (Nat → Int32)) (v_readCue : (Nat → Int32)) (v_readPassage : (Nat → Int32)) (v_held : (Nat → Int32)) (r : Int32) (o_w : (Nat → Int32)) (o_past : (Nat → Int32)) (o_pastMany : Int32) (hF : f_X4_release v_w v_past v_pastMany = some (r, o_w, o_past, o_pastMany)) : Met l yX4_release wsX4_release rm_X4_release (va_Pc [.ref aM] (wrW dC dI cI cZ cO sz [(aM, .inr (4, [.ref a_w, .ref a_past, .int v_pastMany, .ref a_images, .int v_filled, .ref a_text, .int v_length, .int v_faultKind, .int v_faultPlace, .ref a_rowOf, .int v_rows, .int v_wrongKind, .int v_wrongPlace, .int v_readWords, .int v_readPassages, .ref a_readLetter, .ref a_readCue, .ref a_readPassage, .ref a_held])), (a_w, .inl (cI, 510, .inl v_w)), (a_past, .inl (cI, 4080, .inl v_past)), (a_images, .inl (cI, 1020, .inl v_images)), (a_text, .inl (cI, 140, .inl v_text)), (a_rowOf, .inl (cI, 120, .inl v_rowOf)), (a_readLetter, .inl (cI, 120, .inl v_readLetter)), (a_readCue, .inl (cI, 120, .inl v_readCue)), (a_readPassage, .inl (cI, 120, .inl v_readPassage)), (a_held, .inl (cI, 510, .inl v_held))])) (va_Qi (fun (q : Int32) (_ : Unit) => r = q) (wrE dC dI [(aM, .inr (4, [.ref a_w, .ref a_past, .int v_pastMany, .ref a_images, .int v_filled, .ref a_text, .int v_length, .int v_faultKind, .int v_faultPlace, .ref a_rowOf, .int v_rows, .int v_wrongKind, .int v_wrongPlace, .int v_readWords, .int v_readPassages, .ref a_readLetter, .ref a_readCue, .ref a_readPassage, .ref a_held])), (a_w, .inl (cI, 510, .inl v_w)), (a_past, .inl (cI, 4080, .inl v_past)), (a_images, .inl (cI, 1020, .inl v_images)), (a_text, .inl (cI, 140, .inl v_text)), (a_rowOf, .inl (cI, 120, .inl v_rowOf)), (a_readLetter, .inl (cI, 120, .inl v_readLetter)), (a_readCue, .inl (cI, 120, .inl v_readCue)), (a_readPassage, .inl (cI, 120, .inl v_readPassage)), (a_held, .inl (cI, 510, .inl v_held))] sz [(aM, .inr (4, [.ref a_w, .ref a_past, .int o_pastMany, .ref a_images, .int v_filled, .ref a_text, .int v_length, .int v_faultKind, .int v_faultPlace, .ref a_rowOf, .int v_rows, .int v_wrongKind, .int v_wrongPlace, .int v_readWords, .int v_readPassages, .ref a_readLetter, .ref a_readCue, .ref a_readPassage, .ref a_held])), (a_w, .inl (cI, 510, .inl o_w)), (a_past, .inl (cI, 4080, .inl o_past)), (a_images, .inl (cI, 1020, .inl v_images)), (a_text, .inl (cI, 140, .inl v_text)), (a_rowOf, .inl (cI, 120, .inl v_rowOf)), (a_readLetter, .inl (cI, 120, .inl v_readLetter)), (a_readCue, .inl (cI, 120, .inl v_readCue)), (a_readPassage, .inl (cI, 120, .inl v_readPassage)), (a_held, .inl (cI, 510, .inl v_held))]) (va_A [(aM, .inr (4, [.ref a_w, .ref a_past, .int v_pastMany, .ref a_images, .int v_filled, .ref a_text, .int v_length, .int v_faultKind, .int v_faultPlace, .ref a_rowOf, .int v_rows, .int v_wrongKind, .int v_wrongPlace, .int v_readWords, .int v_readPassages, .ref a_readLetter, .ref a_readCue, .ref a_readPassage, .ref a_held])), (a_w, .inl (cI, 510, .inl v_w)), (a_past, .inl (cI, 4080, .inl v_past)), (a_images, .inl (cI, 1020, .inl v_images)), (a_text, .inl (cI, 140, .inl v_text)), (a_rowOf, .inl (cI, 120, .inl v_rowOf)), (a_readLetter, .inl (cI, 120, .inl v_readLetter)), (a_readCue, .inl (cI, 120, .inl v_readCue)), (a_readPassage, .inl (cI, 120, .inl v_readPassage)), (a_held, .inl (cI, 510, .inl v_held))] sz)) 0 0 (va_A [(aM, .inr (4, [.ref a_w, .ref a_past, .int v_pastMany, .ref a_images, .int v_filled, .ref a_text, .int v_length, .int v_faultKind, .int v_faultPlace, .ref a_rowOf, .int v_rows, .int v_wrongKind, .int v_wrongPlace, .int v_readWords, .int v_readPassages, .ref a_readLetter, .ref a_readCue, .ref a_readPassage, .ref a_held])), (a_w, .inl (cI, 510, .inl v_w)), (a_past, .inl (cI, 4080, .inl v_past)), (a_images, .inl (cI, 1020, .inl v_images)), (a_text, .inl (cI, 140, .inl v_text)), (a_rowOf, .inl (cI, 120, .inl v_rowOf)), (a_readLetter, .inl (cI, 120, .inl v_readLetter)), (a_readCue, .inl (cI, 120, .inl v_readCue)), (a_readPassage, .inl (cI, 120, .inl v_readPassage)), (a_held, .inl (cI, 510, .inl v_held))] sz) := by
  refine Met.ofW (cc := cX4_release) (maxL := 1) (ret := (some .int)) (by decide) rfl ?_
  intro p e s m args below meth c s₁ B hml hv
  obtain ⟨rfl, hsz, hP, hK, hN, hD0⟩ := hv
  have hx := B.exec
  have hb := B.bytes
  have hr := B.returns
  have hts := atoms_spec (ws := wsX4_release) B.pre
  have hown : s.vm.findClass RX4 = some m.cls := findClass_of_methodNamed B.named
  have hlocks := B.notSynchronized
  subst hsz
  have hD := hD0.self (sz := s.heap.size)
  obtain ⟨Q, hQ⟩ : ∃ Q, Q = MQ below (va_Qi (fun (q : Int32) (_ : Unit) => r = q) (wrE dC dI [(aM, .inr (4, [.ref a_w, .ref a_past, .int v_pastMany, .ref a_images, .int v_filled, .ref a_text, .int v_length, .int v_faultKind, .int v_faultPlace, .ref a_rowOf, .int v_rows, .int v_wrongKind, .int v_wrongPlace, .int v_readWords, .int v_readPassages, .ref a_readLetter, .ref a_readCue, .ref a_readPassage, .ref a_held])), (a_w, .inl (cI, 510, .inl v_w)), (a_past, .inl (cI, 4080, .inl v_past)), (a_images, .inl (cI, 1020, .inl v_images)), (a_text, .inl (cI, 140, .inl v_text)), (a_rowOf, .inl (cI, 120, .inl v_rowOf)), (a_readLetter, .inl (cI, 120, .inl v_readLetter)), (a_readCue, .inl (cI, 120, .inl v_readCue)), (a_readPassage, .inl (cI, 120, .inl v_readPassage)), (a_held, .inl (cI, 510, .inl v_held))] s.heap.size [(aM, .inr (4, [.ref a_w, .ref a_past, .int o_pastMany, .ref a_images, .int v_filled, .ref a_text, .int v_length, .int v_faultKind, .int v_faultPlace, .ref a_rowOf, .int v_rows, .int v_wrongKind, .int v_wrongPlace, .int v_readWords, .int v_readPassages, .ref a_readLetter, .ref a_readCue, .ref a_readPassage, .ref a_held])), (a_w, .inl (cI, 510, .inl o_w)), (a_past, .inl (cI, 4080, .inl o_past)), (a_images, .inl (cI, 1020, .inl v_images)), (a_text, .inl (cI, 140, .inl v_text)), (a_rowOf, .inl (cI, 120, .inl v_rowOf)), (a_readLetter, .inl (cI, 120, .inl v_readLetter)), (a_readCue, .inl (cI, 120, .inl v_readCue)), (a_readPassage, .inl (cI, 120, .inl v_readPassage)), (a_held, .inl (cI, 510, .inl v_held))]) (va_A [(aM, .inr (4, [.ref a_w, .ref a_past, .int v_pastMany, .ref a_images, .int v_filled, .ref a_text, .int v_length, .int v_faultKind, .int v_faultPlace, .ref a_rowOf, .int v_rows, .int v_wrongKind, .int v_wrongPlace, .int v_readWords, .int v_readPassages, .ref a_readLetter, .ref a_readCue, .ref a_readPassage, .ref a_held])), (a_w, .inl (cI, 510, .inl v_w)), (a_past, .inl (cI, 4080, .inl v_past)), (a_images, .inl (cI, 1020, .inl v_images)), (a_text, .inl (cI, 140, .inl v_text)), (a_rowOf, .inl (cI, 120, .inl v_rowOf)), (a_readLetter, .inl (cI, 120, .inl v_readLetter)), (a_readCue, .inl (cI, 120, .inl v_readCue)), (a_readPassage, .inl (cI, 120, .inl v_readPassage)), (a_held, .inl (cI, 510, .inl v_held))] s.heap.size)) ([.ref aM] : List Value).toArray s 0 0 (va_A [(aM, .inr (4, [.ref a_w, .ref a_past, .int v_pastMany, .ref a_images, .int v_filled, .ref a_text, .int v_length, .int v_faultKind, .int v_faultPlace, .ref a_rowOf, .int v_rows, .int v_wrongKind, .int v_wrongPlace, .int v_readWords, .int v_readPassages, .ref a_readLetter, .ref a_readCue, .ref a_readPassage, .ref a_held])), (a_w, .inl (cI, 510, .inl v_w)), (a_past, .inl (cI, 4080, .inl v_past)), (a_images, .inl (cI, 1020, .inl v_images)), (a_text, .inl (cI, 140, .inl v_text)), (a_rowOf, .inl (cI, 120, .inl v_rowOf)), (a_readLetter, .inl (cI, 120, .inl v_readLetter)), (a_readCue, .inl (cI, 120, .inl v_readCue)), (a_readPassage, .inl (cI, 120, .inl v_readPassage)), (a_held, .inl (cI, 510, .inl v_held))] s.heap.size) := ⟨_, rfl⟩
  rw [← hQ]
  obtain ⟨A, hAe⟩ : ∃ A, A = va_A [(aM, .inr (4, [.ref a_w, .ref a_past, .int v_pastMany, .ref a_images, .int v_filled, .ref a_text, .int v_length, .int v_faultKind, .int v_faultPlace, .ref a_rowOf, .int v_rows, .int v_wrongKind, .int v_wrongPlace, .int v_readWords, .int v_readPassages, .ref a_readLetter, .ref a_readCue, .ref a_readPassage, .ref a_held])), (a_w, .inl (cI, 510, .inl v_w)), (a_past, .inl (cI, 4080, .inl v_past)), (a_images, .inl (cI, 1020, .inl v_images)), (a_text, .inl (cI, 140, .inl v_text)), (a_rowOf, .inl (cI, 120, .inl v_rowOf)), (a_readLetter, .inl (cI, 120, .inl v_readLetter)), (a_readCue, .inl (cI, 120, .inl v_readCue)), (a_readPassage, .inl (cI, 120, .inl v_readPassage)), (a_held, .inl (cI, 510, .inl v_held))] s.heap.size := ⟨_, rfl⟩
  rw [← hAe] at hD
  have hA : ∀ q : Nat, s.heap.size ≤ q → A q := fun q h => by rw [hAe]; exact Or.inr h
  obtain ⟨H, hH⟩ : ∃ H, H = s.heap := ⟨_, rfl⟩
  have hS : va_S A s.heap H [] := by rw [hH]; exact va_S.rf
  rw [← hH] at hP
  rw [← hH]
  have hl := lv_entry ([.ref aM]) (n := 1) (Nat.le_of_ble_eq_true rfl)
  rw [lg_entry_eq]
  generalize (lg_sl ([.ref aM]) ++ List.replicate (1 - (lg_sl ([.ref aM])).length) Slot.unset).toArray = ls at hl ⊢
  have hl : lv_has ls 1 [(0, .ref aM)] := hl
  unfold f_X4_release at hF
  refine lv_aload_n hx hb dX4_release_0 rfl (lv_at hl 0 rfl) ?_
  obtain ⟨q_1, hq_1, hF⟩ := bindE hF
  have hPc := hP
  refine vp_callSi (va_Run.run (va_runV (As := []) (rest := []) ⟨hx, hb, hml, hown, hts⟩ (c_X4_nextCue l dC dI cI cZ cO aM a_w a_past a_images a_text a_rowOf a_readLetter a_readCue a_readPassage a_held v_w v_past v_pastMany v_images v_filled v_text v_length v_faultKind v_faultPlace v_rowOf v_rows v_wrongKind v_wrongPlace v_readWords v_readPassages v_readLetter v_readCue v_readPassage v_held q_1 hq_1) (cwV 0 hts gX4_release_X4_nextCue rfl rfl rfl (by decide +kernel) ⟨Nat.le_of_ble_eq_true rfl, Nat.le_of_ble_eq_true rfl⟩) ⟨fb_rd, va_recv hK hPc (ci := 4) (q0 := 0) rfl rfl, pre_rd hPc hK hN⟩ rfl rfl hl.1 rfl (lv_room (Nat.le_of_ble_eq_true rfl)) dX4_release_1 ⟨Nat.zero_le _, Nat.zero_le _⟩)) (fun z_1 hz_1 => ?_)
  subst hz_1
  refine lv_bipush (v := (-9 : Int32)) hx hb dX4_release_4 (by decide) ?_
  refine lv_icmp_ne (tgt := 12) hx hb dX4_release_6 (by decide) (fun c_6 => ?_) (fun c_6 => ?_)
  · have hF := (if_neg c_6).symm.trans hF
    refine lv_aload_n hx hb dX4_release_12 rfl (lv_at hl 0 rfl) ?_
    obtain ⟨q_13, hq_13, hF⟩ := bindE hF
    obtain ⟨u_13_past, u_13_pastMany⟩ := q_13
    have hPc := hP
    have hDc := hD
    have hFc := va_free (wc := [(aM, .inr (4, [.ref a_w, .ref a_past, .int v_pastMany, .ref a_images, .int v_filled, .ref a_text, .int v_length, .int v_faultKind, .int v_faultPlace, .ref a_rowOf, .int v_rows, .int v_wrongKind, .int v_wrongPlace, .int v_readWords, .int v_readPassages, .ref a_readLetter, .ref a_readCue, .ref a_readPassage, .ref a_held])), (a_w, .inl (cI, 510, .inl v_w)), (a_past, .inl (cI, 4080, .inl v_past)), (a_images, .inl (cI, 1020, .inl v_images)), (a_text, .inl (cI, 140, .inl v_text)), (a_rowOf, .inl (cI, 120, .inl v_rowOf)), (a_readLetter, .inl (cI, 120, .inl v_readLetter)), (a_readCue, .inl (cI, 120, .inl v_readCue)), (a_readPassage, .inl (cI, 120, .inl v_readPassage)), (a_held, .inl (cI, 510, .inl v_held))]) hD hS hA [0, 1, 2, 3, 4, 5, 6, 7, 8, 9] rfl
    refine va_callv (va_runV (As := []) (rest := []) ⟨hx, hb, hml, hown, hts⟩ (c_X4_remember l dC dI cI cZ cO aM a_w a_past a_images a_text a_rowOf a_readLetter a_readCue a_readPassage a_held H.size v_w v_past v_pastMany v_images v_filled v_text v_length v_faultKind v_faultPlace v_rowOf v_rows v_wrongKind v_wrongPlace v_readWords v_readPassages v_readLetter v_readCue v_readPassage v_held u_13_past u_13_pastMany hq_13) (cwV 0 hts gX4_release_X4_remember rfl rfl rfl (by decide +kernel) ⟨Nat.le_of_ble_eq_true rfl, Nat.le_of_ble_eq_true rfl⟩) ⟨fb_wr, va_recv hK hPc (ci := 4) (q0 := 0) rfl rfl, pre_wr hPc hK hN hDc⟩ rfl rfl hl.1 rfl (lv_room (Nat.le_of_ble_eq_true rfl)) dX4_release_13 ⟨Nat.zero_le _, Nat.zero_le _⟩) hS (fun q _ h => hFc q h) hFc (fun _ t H1 locs ht hvm hw hB hz1 hk1 hS => ?_)
    obtain ⟨hP1, hD1⟩ := hB
    rw [ht] at hP1
    obtain ⟨hP, hD⟩ := va_join (wr := []) (w1 := [(aM, .inr (4, [.ref a_w, .ref a_past, .int u_13_pastMany, .ref a_images, .int v_filled, .ref a_text, .int v_length, .int v_faultKind, .int v_faultPlace, .ref a_rowOf, .int v_rows, .int v_wrongKind, .int v_wrongPlace, .int v_readWords, .int v_readPassages, .ref a_readLetter, .ref a_readCue, .ref a_readPassage, .ref a_held])), (a_w, .inl (cI, 510, .inl v_w)), (a_past, .inl (cI, 4080, .inl u_13_past)), (a_images, .inl (cI, 1020, .inl v_images)), (a_text, .inl (cI, 140, .inl v_text)), (a_rowOf, .inl (cI, 120, .inl v_rowOf)), (a_readLetter, .inl (cI, 120, .inl v_readLetter)), (a_readCue, .inl (cI, 120, .inl v_readCue)), (a_readPassage, .inl (cI, 120, .inl v_readPassage)), (a_held, .inl (cI, 510, .inl v_held))]) hP hD [0, 1, 2, 3, 4, 5, 6, 7, 8, 9] [] rfl rfl (by decide) (by decide) hk1 hFc hP1 hD1
    generalize H1 = H at hP hS ⊢
    have hP : va_P (dC, dI) vwCl [(aM, .inr (4, [.ref a_w, .ref a_past, .int u_13_pastMany, .ref a_images, .int v_filled, .ref a_text, .int v_length, .int v_faultKind, .int v_faultPlace, .ref a_rowOf, .int v_rows, .int v_wrongKind, .int v_wrongPlace, .int v_readWords, .int v_readPassages, .ref a_readLetter, .ref a_readCue, .ref a_readPassage, .ref a_held])), (a_w, .inl (cI, 510, .inl v_w)), (a_past, .inl (cI, 4080, .inl u_13_past)), (a_images, .inl (cI, 1020, .inl v_images)), (a_text, .inl (cI, 140, .inl v_text)), (a_rowOf, .inl (cI, 120, .inl v_rowOf)), (a_readLetter, .inl (cI, 120, .inl v_readLetter)), (a_readCue, .inl (cI, 120, .inl v_readCue)), (a_readPassage, .inl (cI, 120, .inl v_readPassage)), (a_held, .inl (cI, 510, .inl v_held))] H := hP
    have hD : va_D A [(aM, .inr (4, [.ref a_w, .ref a_past, .int u_13_pastMany, .ref a_images, .int v_filled, .ref a_text, .int v_length, .int v_faultKind, .int v_faultPlace, .ref a_rowOf, .int v_rows, .int v_wrongKind, .int v_wrongPlace, .int v_readWords, .int v_readPassages, .ref a_readLetter, .ref a_readCue, .ref a_readPassage, .ref a_held])), (a_w, .inl (cI, 510, .inl v_w)), (a_past, .inl (cI, 4080, .inl u_13_past)), (a_images, .inl (cI, 1020, .inl v_images)), (a_text, .inl (cI, 140, .inl v_text)), (a_rowOf, .inl (cI, 120, .inl v_rowOf)), (a_readLetter, .inl (cI, 120, .inl v_readLetter)), (a_readCue, .inl (cI, 120, .inl v_readCue)), (a_readPassage, .inl (cI, 120, .inl v_readPassage)), (a_held, .inl (cI, 510, .inl v_held))] := hD
    refine lv_aload_n hx hb dX4_release_16 rfl (lv_at hl 0 rfl) ?_
    obtain ⟨q_17, hq_17, hF⟩ := bindE hF
    obtain ⟨r_17, u_17_w⟩ := q_17
    have hPc := hP
    have hDc := hD
    have hFc := va_free (wc := [(aM, .inr (4, [.ref a_w, .ref a_past, .int u_13_pastMany, .ref a_images, .int v_filled, .ref a_text, .int v_length, .int v_faultKind, .int v_faultPlace, .ref a_rowOf, .int v_rows, .int v_wrongKind, .int v_wrongPlace, .int v_readWords, .int v_readPassages, .ref a_readLetter, .ref a_readCue, .ref a_readPassage, .ref a_held])), (a_w, .inl (cI, 510, .inl v_w)), (a_past, .inl (cI, 4080, .inl u_13_past)), (a_images, .inl (cI, 1020, .inl v_images)), (a_text, .inl (cI, 140, .inl v_text)), (a_rowOf, .inl (cI, 120, .inl v_rowOf)), (a_readLetter, .inl (cI, 120, .inl v_readLetter)), (a_readCue, .inl (cI, 120, .inl v_readCue)), (a_readPassage, .inl (cI, 120, .inl v_readPassage)), (a_held, .inl (cI, 510, .inl v_held))]) hD hS hA [0, 1, 2, 3, 4, 5, 6, 7, 8, 9] rfl
    refine va_calli (va_runV (As := []) (rest := []) ⟨hx, hb, hml, hown, hts⟩ (c_X4_releaseNext l dC dI cI cZ cO aM a_w a_past a_images a_text a_rowOf a_readLetter a_readCue a_readPassage a_held H.size v_w u_13_past u_13_pastMany v_images v_filled v_text v_length v_faultKind v_faultPlace v_rowOf v_rows v_wrongKind v_wrongPlace v_readWords v_readPassages v_readLetter v_readCue v_readPassage v_held r_17 u_17_w hq_17) (cwV 0 hts gX4_release_X4_releaseNext rfl rfl rfl (by decide +kernel) ⟨Nat.le_of_ble_eq_true rfl, Nat.le_of_ble_eq_true rfl⟩) ⟨fb_wr, va_recv hK hPc (ci := 4) (q0 := 0) rfl rfl, pre_wr hPc hK hN hDc⟩ rfl rfl hl.1 rfl (lv_room (Nat.le_of_ble_eq_true rfl)) dX4_release_17 ⟨Nat.zero_le _, Nat.zero_le _⟩) hS (fun q _ h => hFc q h) hFc (fun z_17 _ t H1 locs ht hvm hw hB hz1 hk1 hS => ?_)
    subst hw
    obtain ⟨hP1, hD1⟩ := hB
    rw [ht] at hP1
    obtain ⟨hP, hD⟩ := va_join (wr := []) (w1 := [(aM, .inr (4, [.ref a_w, .ref a_past, .int u_13_pastMany, .ref a_images, .int v_filled, .ref a_text, .int v_length, .int v_faultKind, .int v_faultPlace, .ref a_rowOf, .int v_rows, .int v_wrongKind, .int v_wrongPlace, .int v_readWords, .int v_readPassages, .ref a_readLetter, .ref a_readCue, .ref a_readPassage, .ref a_held])), (a_w, .inl (cI, 510, .inl u_17_w)), (a_past, .inl (cI, 4080, .inl u_13_past)), (a_images, .inl (cI, 1020, .inl v_images)), (a_text, .inl (cI, 140, .inl v_text)), (a_rowOf, .inl (cI, 120, .inl v_rowOf)), (a_readLetter, .inl (cI, 120, .inl v_readLetter)), (a_readCue, .inl (cI, 120, .inl v_readCue)), (a_readPassage, .inl (cI, 120, .inl v_readPassage)), (a_held, .inl (cI, 510, .inl v_held))]) hP hD [0, 1, 2, 3, 4, 5, 6, 7, 8, 9] [] rfl rfl (by decide) (by decide) hk1 hFc hP1 hD1
    generalize H1 = H at hP hS ⊢
    have hP : va_P (dC, dI) vwCl [(aM, .inr (4, [.ref a_w, .ref a_past, .int u_13_pastMany, .ref a_images, .int v_filled, .ref a_text, .int v_length, .int v_faultKind, .int v_faultPlace, .ref a_rowOf, .int v_rows, .int v_wrongKind, .int v_wrongPlace, .int v_readWords, .int v_readPassages, .ref a_readLetter, .ref a_readCue, .ref a_readPassage, .ref a_held])), (a_w, .inl (cI, 510, .inl u_17_w)), (a_past, .inl (cI, 4080, .inl u_13_past)), (a_images, .inl (cI, 1020, .inl v_images)), (a_text, .inl (cI, 140, .inl v_text)), (a_rowOf, .inl (cI, 120, .inl v_rowOf)), (a_readLetter, .inl (cI, 120, .inl v_readLetter)), (a_readCue, .inl (cI, 120, .inl v_readCue)), (a_readPassage, .inl (cI, 120, .inl v_readPassage)), (a_held, .inl (cI, 510, .inl v_held))] H := hP
    have hD : va_D A [(aM, .inr (4, [.ref a_w, .ref a_past, .int u_13_pastMany, .ref a_images, .int v_filled, .ref a_text, .int v_length, .int v_faultKind, .int v_faultPlace, .ref a_rowOf, .int v_rows, .int v_wrongKind, .int v_wrongPlace, .int v_readWords, .int v_readPassages, .ref a_readLetter, .ref a_readCue, .ref a_readPassage, .ref a_held])), (a_w, .inl (cI, 510, .inl u_17_w)), (a_past, .inl (cI, 4080, .inl u_13_past)), (a_images, .inl (cI, 1020, .inl v_images)), (a_text, .inl (cI, 140, .inl v_text)), (a_rowOf, .inl (cI, 120, .inl v_rowOf)), (a_readLetter, .inl (cI, 120, .inl v_readLetter)), (a_readCue, .inl (cI, 120, .inl v_readCue)), (a_readPassage, .inl (cI, 120, .inl v_readPassage)), (a_held, .inl (cI, 510, .inl v_held))] := hD
    have hF : some (r_17, u_17_w, u_13_past, u_13_pastMany) = some (r, o_w, o_past, o_pastMany) := hF
    have hP9 := hP
    have hD9 := hD
    cases hF
    subst hQ
    subst hAe
    exact W.iret hx hb hr (fun t ht hW => ⟨⟨_, (), rfl, rfl, ⟨by rw [ht]; exact hP9, hD9⟩⟩, hS.F ht⟩) hS.2.2 dX4_release_20
  · have hF := (if_pos c_6).symm.trans hF
    refine lv_bipush (v := (-2 : Int32)) hx hb dX4_release_9 (by decide) ?_
    have hF : some ((-2 : Int32), v_w, v_past, v_pastMany) = some (r, o_w, o_past, o_pastMany) := hF
    have hP9 := hP
    have hD9 := hD
    cases hF
    subst hQ
    subst hAe
    exact W.iret hx hb hr (fun t ht hW => ⟨⟨_, (), rfl, rfl, ⟨by rw [ht]; exact hP9, hD9⟩⟩, hS.F ht⟩) hS.2.2 dX4_release_11
def f_X4_place_62 (x1 : Int32) (x2 : Int32) (v_past : (Nat → Int32)) (v_pastMany : Int32) : Nat → Int32 → (Nat → Int32) → Option (Int32 × (Nat → Int32) × (Nat → Int32) × Int32)
  | 0, _, _ => none
  | n + 1, x3, v_w =>
    if (v_w 9) ≤ x3 then
      some (x2, v_w, v_past, v_pastMany)
    else
      if ((270 : Int32) + x3) < 0 ∨ 510 ≤ (((270 : Int32) + x3)).toNatClampNeg then none else
      if (v_w ((((270 : Int32) + x3)).toNatClampNeg)) = (0 : Int32) then
        if ((270 : Int32) + x3) < 0 ∨ 510 ≤ (((270 : Int32) + x3)).toNatClampNeg then none else
        (some (upd v_w ((((270 : Int32) + x3)).toNatClampNeg) (0 : Int32))).bind fun a109 =>
        f_X4_place_62 x1 x2 v_past v_pastMany n (x3 + 1) a109
      else
        if x3 < x1 then
          if ((270 : Int32) + x3) < 0 ∨ 510 ≤ (((270 : Int32) + x3)).toNatClampNeg then none else
          (some (upd v_w ((((270 : Int32) + x3)).toNatClampNeg) (3 : Int32))).bind fun a109 =>
          f_X4_place_62 x1 x2 v_past v_pastMany n (x3 + 1) a109
        else
          if ((270 : Int32) + x3) < 0 ∨ 510 ≤ (((270 : Int32) + x3)).toNatClampNeg then none else
          (some (upd v_w ((((270 : Int32) + x3)).toNatClampNeg) (1 : Int32))).bind fun a109 =>
          f_X4_place_62 x1 x2 v_past v_pastMany n (x3 + 1) a109
def f_X4_place (p1 : Int32) (v_w : (Nat → Int32)) (v_past : (Nat → Int32)) (v_pastMany : Int32) : Option (Int32 × (Nat → Int32) × (Nat → Int32) × Int32) :=
  (f_X4_isWord p1 v_w).bind fun q2 =>
  if q2 = (0 : Int32) then
    some ((-1 : Int32), v_w, v_past, v_pastMany)
  else
    (f_X4_remember v_w v_past v_pastMany).bind fun q11 =>
    (some (upd v_w 11 p1)).bind fun a29 =>
    (some (upd a29 20 (0 : Int32))).bind fun a37 =>
    (some (upd a37 25 (0 : Int32))).bind fun a45 =>
    (some (upd a45 13 (a45 10))).bind fun a59 =>
    f_X4_place_62 p1 (v_w 11) q11.1 q11.2 gas (0 : Int32) a59
def rm_X4_place : Room := { frames := 2, cells := 0, slots := 0, locals := 43 }
set_option maxHeartbeats 4000000 in
set_option maxRecDepth 100000 in
theorem c_X4_place (l : Launch) (dC : Nat → ClassId) (dI : Nat → Nat → Nat) (cI cZ cO : ClassId) (aM a_w a_past a_images a_text a_rowOf a_readLetter a_readCue a_readPassage a_held : Nat) (sz : Nat) (p1 : Int32) (v_w : (Nat → Int32)) (v_past : (Nat → Int32)) (v_pastMany : Int32) (v_images : (Nat → Int32)) (v_filled : Int32) (v_text : (Nat → Int32)) (v_length : Int32) (v_faultKind : Int32) (v_faultPlace : Int32) (v_rowOf : (Nat → Int32)) (v_rows : Int32) (v_wrongKind : Int32) (v_wrongPlace : Int32) (v_readWords : Int32) (v_readPassages : Int32) (v_readLetter : (Nat → Int32)) (v_readCue : (Nat → Int32)) (v_readPassage : (Nat → Int32)) (v_held : (Nat → Int32)) (r : Int32) (o_w : (Nat → Int32)) (o_past : (Nat → Int32)) (o_pastMany : Int32) (hF : f_X4_place p1 v_w v_past v_pastMany = some (r, o_w, o_past, o_pastMany)) : Met l yX4_place wsX4_place rm_X4_place (va_Pc [.ref aM, .int p1] (wrW dC dI cI cZ cO sz [(aM, .inr (4, [.ref a_w, .ref a_past, .int v_pastMany, .ref a_images, .int v_filled, .ref a_text, .int v_length, .int v_faultKind, .int v_faultPlace, .ref a_rowOf, .int v_rows, .int v_wrongKind, .int v_wrongPlace, .int v_readWords, .int v_readPassages, .ref a_readLetter, .ref a_readCue, .ref a_readPassage, .ref a_held])), (a_w, .inl (cI, 510, .inl v_w)), (a_past, .inl (cI, 4080, .inl v_past)), (a_images, .inl (cI, 1020, .inl v_images)), (a_text, .inl (cI, 140, .inl v_text)), (a_rowOf, .inl (cI, 120, .inl v_rowOf)), (a_readLetter, .inl (cI, 120, .inl v_readLetter)), (a_readCue, .inl (cI, 120, .inl v_readCue)), (a_readPassage, .inl (cI, 120, .inl v_readPassage)), (a_held, .inl (cI, 510, .inl v_held))])) (va_Qi (fun (q : Int32) (_ : Unit) => r = q) (wrE dC dI [(aM, .inr (4, [.ref a_w, .ref a_past, .int v_pastMany, .ref a_images, .int v_filled, .ref a_text, .int v_length, .int v_faultKind, .int v_faultPlace, .ref a_rowOf, .int v_rows, .int v_wrongKind, .int v_wrongPlace, .int v_readWords, .int v_readPassages, .ref a_readLetter, .ref a_readCue, .ref a_readPassage, .ref a_held])), (a_w, .inl (cI, 510, .inl v_w)), (a_past, .inl (cI, 4080, .inl v_past)), (a_images, .inl (cI, 1020, .inl v_images)), (a_text, .inl (cI, 140, .inl v_text)), (a_rowOf, .inl (cI, 120, .inl v_rowOf)), (a_readLetter, .inl (cI, 120, .inl v_readLetter)), (a_readCue, .inl (cI, 120, .inl v_readCue)), (a_readPassage, .inl (cI, 120, .inl v_readPassage)), (a_held, .inl (cI, 510, .inl v_held))] sz [(aM, .inr (4, [.ref a_w, .ref a_past, .int o_pastMany, .ref a_images, .int v_filled, .ref a_text, .int v_length, .int v_faultKind, .int v_faultPlace, .ref a_rowOf, .int v_rows, .int v_wrongKind, .int v_wrongPlace, .int v_readWords, .int v_readPassages, .ref a_readLetter, .ref a_readCue, .ref a_readPassage, .ref a_held])), (a_w, .inl (cI, 510, .inl o_w)), (a_past, .inl (cI, 4080, .inl o_past)), (a_images, .inl (cI, 1020, .inl v_images)), (a_text, .inl (cI, 140, .inl v_text)), (a_rowOf, .inl (cI, 120, .inl v_rowOf)), (a_readLetter, .inl (cI, 120, .inl v_readLetter)), (a_readCue, .inl (cI, 120, .inl v_readCue)), (a_readPassage, .inl (cI, 120, .inl v_readPassage)), (a_held, .inl (cI, 510, .inl v_held))]) (va_A [(aM, .inr (4, [.ref a_w, .ref a_past, .int v_pastMany, .ref a_images, .int v_filled, .ref a_text, .int v_length, .int v_faultKind, .int v_faultPlace, .ref a_rowOf, .int v_rows, .int v_wrongKind, .int v_wrongPlace, .int v_readWords, .int v_readPassages, .ref a_readLetter, .ref a_readCue, .ref a_readPassage, .ref a_held])), (a_w, .inl (cI, 510, .inl v_w)), (a_past, .inl (cI, 4080, .inl v_past)), (a_images, .inl (cI, 1020, .inl v_images)), (a_text, .inl (cI, 140, .inl v_text)), (a_rowOf, .inl (cI, 120, .inl v_rowOf)), (a_readLetter, .inl (cI, 120, .inl v_readLetter)), (a_readCue, .inl (cI, 120, .inl v_readCue)), (a_readPassage, .inl (cI, 120, .inl v_readPassage)), (a_held, .inl (cI, 510, .inl v_held))] sz)) 0 0 (va_A [(aM, .inr (4, [.ref a_w, .ref a_past, .int v_pastMany, .ref a_images, .int v_filled, .ref a_text, .int v_length, .int v_faultKind, .int v_faultPlace, .ref a_rowOf, .int v_rows, .int v_wrongKind, .int v_wrongPlace, .int v_readWords, .int v_readPassages, .ref a_readLetter, .ref a_readCue, .ref a_readPassage, .ref a_held])), (a_w, .inl (cI, 510, .inl v_w)), (a_past, .inl (cI, 4080, .inl v_past)), (a_images, .inl (cI, 1020, .inl v_images)), (a_text, .inl (cI, 140, .inl v_text)), (a_rowOf, .inl (cI, 120, .inl v_rowOf)), (a_readLetter, .inl (cI, 120, .inl v_readLetter)), (a_readCue, .inl (cI, 120, .inl v_readCue)), (a_readPassage, .inl (cI, 120, .inl v_readPassage)), (a_held, .inl (cI, 510, .inl v_held))] sz) := by
  refine Met.ofW (cc := cX4_place) (maxL := 4) (ret := (some .int)) (by decide) rfl ?_
  intro p e s m args below meth c s₁ B hml hv
  obtain ⟨rfl, hsz, hP, hK, hN, hD0⟩ := hv
  have hx := B.exec
  have hb := B.bytes
  have hr := B.returns
  have hts := atoms_spec (ws := wsX4_place) B.pre
  have hown : s.vm.findClass RX4 = some m.cls := findClass_of_methodNamed B.named
  have hlocks := B.notSynchronized
  subst hsz
  have hD := hD0.self (sz := s.heap.size)
  obtain ⟨Q, hQ⟩ : ∃ Q, Q = MQ below (va_Qi (fun (q : Int32) (_ : Unit) => r = q) (wrE dC dI [(aM, .inr (4, [.ref a_w, .ref a_past, .int v_pastMany, .ref a_images, .int v_filled, .ref a_text, .int v_length, .int v_faultKind, .int v_faultPlace, .ref a_rowOf, .int v_rows, .int v_wrongKind, .int v_wrongPlace, .int v_readWords, .int v_readPassages, .ref a_readLetter, .ref a_readCue, .ref a_readPassage, .ref a_held])), (a_w, .inl (cI, 510, .inl v_w)), (a_past, .inl (cI, 4080, .inl v_past)), (a_images, .inl (cI, 1020, .inl v_images)), (a_text, .inl (cI, 140, .inl v_text)), (a_rowOf, .inl (cI, 120, .inl v_rowOf)), (a_readLetter, .inl (cI, 120, .inl v_readLetter)), (a_readCue, .inl (cI, 120, .inl v_readCue)), (a_readPassage, .inl (cI, 120, .inl v_readPassage)), (a_held, .inl (cI, 510, .inl v_held))] s.heap.size [(aM, .inr (4, [.ref a_w, .ref a_past, .int o_pastMany, .ref a_images, .int v_filled, .ref a_text, .int v_length, .int v_faultKind, .int v_faultPlace, .ref a_rowOf, .int v_rows, .int v_wrongKind, .int v_wrongPlace, .int v_readWords, .int v_readPassages, .ref a_readLetter, .ref a_readCue, .ref a_readPassage, .ref a_held])), (a_w, .inl (cI, 510, .inl o_w)), (a_past, .inl (cI, 4080, .inl o_past)), (a_images, .inl (cI, 1020, .inl v_images)), (a_text, .inl (cI, 140, .inl v_text)), (a_rowOf, .inl (cI, 120, .inl v_rowOf)), (a_readLetter, .inl (cI, 120, .inl v_readLetter)), (a_readCue, .inl (cI, 120, .inl v_readCue)), (a_readPassage, .inl (cI, 120, .inl v_readPassage)), (a_held, .inl (cI, 510, .inl v_held))]) (va_A [(aM, .inr (4, [.ref a_w, .ref a_past, .int v_pastMany, .ref a_images, .int v_filled, .ref a_text, .int v_length, .int v_faultKind, .int v_faultPlace, .ref a_rowOf, .int v_rows, .int v_wrongKind, .int v_wrongPlace, .int v_readWords, .int v_readPassages, .ref a_readLetter, .ref a_readCue, .ref a_readPassage, .ref a_held])), (a_w, .inl (cI, 510, .inl v_w)), (a_past, .inl (cI, 4080, .inl v_past)), (a_images, .inl (cI, 1020, .inl v_images)), (a_text, .inl (cI, 140, .inl v_text)), (a_rowOf, .inl (cI, 120, .inl v_rowOf)), (a_readLetter, .inl (cI, 120, .inl v_readLetter)), (a_readCue, .inl (cI, 120, .inl v_readCue)), (a_readPassage, .inl (cI, 120, .inl v_readPassage)), (a_held, .inl (cI, 510, .inl v_held))] s.heap.size)) ([.ref aM, .int p1] : List Value).toArray s 0 0 (va_A [(aM, .inr (4, [.ref a_w, .ref a_past, .int v_pastMany, .ref a_images, .int v_filled, .ref a_text, .int v_length, .int v_faultKind, .int v_faultPlace, .ref a_rowOf, .int v_rows, .int v_wrongKind, .int v_wrongPlace, .int v_readWords, .int v_readPassages, .ref a_readLetter, .ref a_readCue, .ref a_readPassage, .ref a_held])), (a_w, .inl (cI, 510, .inl v_w)), (a_past, .inl (cI, 4080, .inl v_past)), (a_images, .inl (cI, 1020, .inl v_images)), (a_text, .inl (cI, 140, .inl v_text)), (a_rowOf, .inl (cI, 120, .inl v_rowOf)), (a_readLetter, .inl (cI, 120, .inl v_readLetter)), (a_readCue, .inl (cI, 120, .inl v_readCue)), (a_readPassage, .inl (cI, 120, .inl v_readPassage)), (a_held, .inl (cI, 510, .inl v_held))] s.heap.size) := ⟨_, rfl⟩
  rw [← hQ]
  obtain ⟨A, hAe⟩ : ∃ A, A = va_A [(aM, .inr (4, [.ref a_w, .ref a_past, .int v_pastMany, .ref a_images, .int v_filled, .ref a_text, .int v_length, .int v_faultKind, .int v_faultPlace, .ref a_rowOf, .int v_rows, .int v_wrongKind, .int v_wrongPlace, .int v_readWords, .int v_readPassages, .ref a_readLetter, .ref a_readCue, .ref a_readPassage, .ref a_held])), (a_w, .inl (cI, 510, .inl v_w)), (a_past, .inl (cI, 4080, .inl v_past)), (a_images, .inl (cI, 1020, .inl v_images)), (a_text, .inl (cI, 140, .inl v_text)), (a_rowOf, .inl (cI, 120, .inl v_rowOf)), (a_readLetter, .inl (cI, 120, .inl v_readLetter)), (a_readCue, .inl (cI, 120, .inl v_readCue)), (a_readPassage, .inl (cI, 120, .inl v_readPassage)), (a_held, .inl (cI, 510, .inl v_held))] s.heap.size := ⟨_, rfl⟩
  rw [← hAe] at hD
  have hA : ∀ q : Nat, s.heap.size ≤ q → A q := fun q h => by rw [hAe]; exact Or.inr h
  obtain ⟨H, hH⟩ : ∃ H, H = s.heap := ⟨_, rfl⟩
  have hS : va_S A s.heap H [] := by rw [hH]; exact va_S.rf
  rw [← hH] at hP
  rw [← hH]
  have fl7 := hts (.fieldLink RX4 7 "TeleprompterModel" "w" "[I") (by decide +kernel)
  have inX4 : ∀ w ∈ u_ws RX4 TX4 19, w ∈ wsX4_place := by decide +kernel
  have hl := lv_entry ([.ref aM, .int p1]) (n := 4) (Nat.le_of_ble_eq_true rfl)
  rw [lg_entry_eq]
  generalize (lg_sl ([.ref aM, .int p1]) ++ List.replicate (4 - (lg_sl ([.ref aM, .int p1])).length) Slot.unset).toArray = ls at hl ⊢
  have hl : lv_has ls 4 [(0, .ref aM), (1, .int p1)] := hl
  have B62 : ∀ (n_62 : Nat) (x1_62 : Int32) (x2_62 : Int32) (v_past_62 : (Nat → Int32)) (v_pastMany_62 : Int32) (x3_62 : Int32) (v_w_62 : (Nat → Int32)), f_X4_place_62 x1_62 x2_62 v_past_62 v_pastMany_62 n_62 x3_62 v_w_62 = some (r, o_w, o_past, o_pastMany) → ∀ (H : Heap) (locs : List Loc), va_P (dC, dI) vwCl [(aM, .inr (4, [.ref a_w, .ref a_past, .int v_pastMany_62, .ref a_images, .int v_filled, .ref a_text, .int v_length, .int v_faultKind, .int v_faultPlace, .ref a_rowOf, .int v_rows, .int v_wrongKind, .int v_wrongPlace, .int v_readWords, .int v_readPassages, .ref a_readLetter, .ref a_readCue, .ref a_readPassage, .ref a_held])), (a_w, .inl (cI, 510, .inl v_w_62)), (a_past, .inl (cI, 4080, .inl v_past_62)), (a_images, .inl (cI, 1020, .inl v_images)), (a_text, .inl (cI, 140, .inl v_text)), (a_rowOf, .inl (cI, 120, .inl v_rowOf)), (a_readLetter, .inl (cI, 120, .inl v_readLetter)), (a_readCue, .inl (cI, 120, .inl v_readCue)), (a_readPassage, .inl (cI, 120, .inl v_readPassage)), (a_held, .inl (cI, 510, .inl v_held))] H → va_D A [(aM, .inr (4, [.ref a_w, .ref a_past, .int v_pastMany_62, .ref a_images, .int v_filled, .ref a_text, .int v_length, .int v_faultKind, .int v_faultPlace, .ref a_rowOf, .int v_rows, .int v_wrongKind, .int v_wrongPlace, .int v_readWords, .int v_readPassages, .ref a_readLetter, .ref a_readCue, .ref a_readPassage, .ref a_held])), (a_w, .inl (cI, 510, .inl v_w_62)), (a_past, .inl (cI, 4080, .inl v_past_62)), (a_images, .inl (cI, 1020, .inl v_images)), (a_text, .inl (cI, 140, .inl v_text)), (a_rowOf, .inl (cI, 120, .inl v_rowOf)), (a_readLetter, .inl (cI, 120, .inl v_readLetter)), (a_readCue, .inl (cI, 120, .inl v_readCue)), (a_readPassage, .inl (cI, 120, .inl v_readPassage)), (a_held, .inl (cI, 510, .inl v_held))] → va_S A s.heap H locs → ∀ ls : Array Slot, lv_has ls 4 [(0, .ref aM), (1, .int x1_62), (2, .int x2_62), (3, .int x3_62)] → W p l e (headSpec wsX4_place rm_X4_place).room s m ([.ref aM, .int p1] : List Value).toArray below meth c H locs 0 0 Q (F0 m 62 ls []) := by
    intro n_62
    induction n_62 with
    | zero => intro x1_62 x2_62 v_past_62 v_pastMany_62 x3_62 v_w_62 hF; exact noneE hF
    | succ n_62 ih62 =>
      intro x1_62 x2_62 v_past_62 v_pastMany_62 x3_62 v_w_62 hF H locs hP hD hS ls hl
      rw [f_X4_place_62] at hF
      refine lv_iload_n hx hb dX4_place_62 rfl (lv_at hl 3 rfl) ?_
      refine lv_aload_n hx hb dX4_place_63 rfl (lv_at hl 0 rfl) ?_
      refine va_get (D := (dC, dI)) (ci := 4) (v := .ref a_w) (C := RX4) (T := TX4) (N := 19) hx hb hts inX4 hown hK hP 0 rfl rfl 0 (by decide) fl7 (fun _ h9 => h9) rfl dX4_place_64 ?_
      refine lv_bipush (v := (9 : Int32)) hx hb dX4_place_67 (by decide) ?_
      refine va_ialdK hx hb hK hP 1 0 rfl rfl (inK (by decide)) (j := 9) (by decide) dX4_place_69 ?_
      refine lv_icmp_ge (tgt := 116) hx hb dX4_place_70 (by decide) (fun c_70 => ?_) (fun c_70 => ?_)
      · have hF := (if_pos c_70).symm.trans hF
        refine lv_iload_n hx hb dX4_place_116 rfl (lv_at hl 2 rfl) ?_
        have hF : some (x2_62, v_w_62, v_past_62, v_pastMany_62) = some (r, o_w, o_past, o_pastMany) := hF
        have hP9 := hP
        have hD9 := hD
        cases hF
        subst hQ
        subst hAe
        exact W.iret hx hb hr (fun t ht hW => ⟨⟨_, (), rfl, rfl, ⟨by rw [ht]; exact hP9, hD9⟩⟩, hS.F ht⟩) hS.2.2 dX4_place_117
      · have hF := (if_neg c_70).symm.trans hF
        refine lv_aload_n hx hb dX4_place_73 rfl (lv_at hl 0 rfl) ?_
        refine va_get (D := (dC, dI)) (ci := 4) (v := .ref a_w) (C := RX4) (T := TX4) (N := 19) hx hb hts inX4 hown hK hP 0 rfl rfl 0 (by decide) fl7 (fun _ h9 => h9) rfl dX4_place_74 ?_
        refine lv_sipush (v := (270 : Int32)) hx hb dX4_place_77 (by decide) ?_
        refine lv_iload_n hx hb dX4_place_80 rfl (lv_at hl 3 rfl) ?_
        refine lv_iadd hx hb dX4_place_81 ?_
        refine lv_aload_n hx hb dX4_place_82 rfl (lv_at hl 0 rfl) ?_
        refine va_get (D := (dC, dI)) (ci := 4) (v := .ref a_w) (C := RX4) (T := TX4) (N := 19) hx hb hts inX4 hown hK hP 0 rfl rfl 0 (by decide) fl7 (fun _ h9 => h9) rfl dX4_place_83 ?_
        refine lv_sipush (v := (270 : Int32)) hx hb dX4_place_86 (by decide) ?_
        refine lv_iload_n hx hb dX4_place_89 rfl (lv_at hl 3 rfl) ?_
        refine lv_iadd hx hb dX4_place_90 ?_
        by_cases b_91 : (((270 : Int32) + x3_62) < 0 ∨ 510 ≤ (((270 : Int32) + x3_62)).toNatClampNeg)
        · exact noneE ((if_pos b_91).symm.trans hF)
        have hF := (if_neg b_91).symm.trans hF
        refine va_iald hx hb hK hP 1 0 rfl rfl b_91 dX4_place_91 ?_
        refine lv_if_ne (tgt := 99) hx hb dX4_place_92 (by decide) (fun c_92 => ?_) (fun c_92 => ?_)
        · have hF := (if_neg c_92).symm.trans hF
          refine lv_iload_n hx hb dX4_place_99 rfl (lv_at hl 3 rfl) ?_
          refine lv_iload_n hx hb dX4_place_100 rfl (lv_at hl 1 rfl) ?_
          refine lv_icmp_lt (tgt := 108) hx hb dX4_place_101 (by decide) (fun c_101 => ?_) (fun c_101 => ?_)
          · have hF := (if_pos c_101).symm.trans hF
            refine lv_iconst (v := (3 : Int32)) hx hb dX4_place_108 (by decide) ?_
            by_cases b_109 : (((270 : Int32) + x3_62) < 0 ∨ 510 ≤ (((270 : Int32) + x3_62)).toNatClampNeg)
            · exact noneE ((if_pos b_109).symm.trans hF)
            have hF := (if_neg b_109).symm.trans hF
            refine va_iast hx hb hK hP hD hS 1 0 rfl rfl b_109 dX4_place_109 (fun H locs hP hD hS => ?_)
            have hP : va_P (dC, dI) vwCl [(aM, .inr (4, [.ref a_w, .ref a_past, .int v_pastMany_62, .ref a_images, .int v_filled, .ref a_text, .int v_length, .int v_faultKind, .int v_faultPlace, .ref a_rowOf, .int v_rows, .int v_wrongKind, .int v_wrongPlace, .int v_readWords, .int v_readPassages, .ref a_readLetter, .ref a_readCue, .ref a_readPassage, .ref a_held])), (a_w, .inl (cI, 510, .inl (upd v_w_62 ((((270 : Int32) + x3_62)).toNatClampNeg) (3 : Int32)))), (a_past, .inl (cI, 4080, .inl v_past_62)), (a_images, .inl (cI, 1020, .inl v_images)), (a_text, .inl (cI, 140, .inl v_text)), (a_rowOf, .inl (cI, 120, .inl v_rowOf)), (a_readLetter, .inl (cI, 120, .inl v_readLetter)), (a_readCue, .inl (cI, 120, .inl v_readCue)), (a_readPassage, .inl (cI, 120, .inl v_readPassage)), (a_held, .inl (cI, 510, .inl v_held))] H := hP
            have hD : va_D A [(aM, .inr (4, [.ref a_w, .ref a_past, .int v_pastMany_62, .ref a_images, .int v_filled, .ref a_text, .int v_length, .int v_faultKind, .int v_faultPlace, .ref a_rowOf, .int v_rows, .int v_wrongKind, .int v_wrongPlace, .int v_readWords, .int v_readPassages, .ref a_readLetter, .ref a_readCue, .ref a_readPassage, .ref a_held])), (a_w, .inl (cI, 510, .inl (upd v_w_62 ((((270 : Int32) + x3_62)).toNatClampNeg) (3 : Int32)))), (a_past, .inl (cI, 4080, .inl v_past_62)), (a_images, .inl (cI, 1020, .inl v_images)), (a_text, .inl (cI, 140, .inl v_text)), (a_rowOf, .inl (cI, 120, .inl v_rowOf)), (a_readLetter, .inl (cI, 120, .inl v_readLetter)), (a_readCue, .inl (cI, 120, .inl v_readCue)), (a_readPassage, .inl (cI, 120, .inl v_readPassage)), (a_held, .inl (cI, 510, .inl v_held))] := hD
            obtain ⟨a_109, ha_109, hF⟩ := bindE hF
            have ha_109 := Option.some.inj ha_109
            rw [ha_109] at hP hD
            refine lv_iinc (v := (x3_62 + 1)) (lv' := [(3, .int (x3_62 + 1)), (0, .ref aM), (1, .int x1_62), (2, .int x2_62)]) hx hb dX4_place_110 hl (k := 3) rfl rfl (by decide) rfl (fun ls hl => ?_)
            refine lv_goto (tgt := 62) hx hb dX4_place_113 (by decide) ?_
            exact ih62 x1_62 x2_62 v_past_62 v_pastMany_62 (x3_62 + 1) a_109 hF _ _ hP hD hS _ (lv_sub hl [1, 2, 3, 0] rfl)
          · have hF := (if_neg c_101).symm.trans hF
            refine lv_iconst (v := (1 : Int32)) hx hb dX4_place_104 (by decide) ?_
            refine lv_goto (tgt := 109) hx hb dX4_place_105 (by decide) ?_
            by_cases b_109 : (((270 : Int32) + x3_62) < 0 ∨ 510 ≤ (((270 : Int32) + x3_62)).toNatClampNeg)
            · exact noneE ((if_pos b_109).symm.trans hF)
            have hF := (if_neg b_109).symm.trans hF
            refine va_iast hx hb hK hP hD hS 1 0 rfl rfl b_109 dX4_place_109 (fun H locs hP hD hS => ?_)
            have hP : va_P (dC, dI) vwCl [(aM, .inr (4, [.ref a_w, .ref a_past, .int v_pastMany_62, .ref a_images, .int v_filled, .ref a_text, .int v_length, .int v_faultKind, .int v_faultPlace, .ref a_rowOf, .int v_rows, .int v_wrongKind, .int v_wrongPlace, .int v_readWords, .int v_readPassages, .ref a_readLetter, .ref a_readCue, .ref a_readPassage, .ref a_held])), (a_w, .inl (cI, 510, .inl (upd v_w_62 ((((270 : Int32) + x3_62)).toNatClampNeg) (1 : Int32)))), (a_past, .inl (cI, 4080, .inl v_past_62)), (a_images, .inl (cI, 1020, .inl v_images)), (a_text, .inl (cI, 140, .inl v_text)), (a_rowOf, .inl (cI, 120, .inl v_rowOf)), (a_readLetter, .inl (cI, 120, .inl v_readLetter)), (a_readCue, .inl (cI, 120, .inl v_readCue)), (a_readPassage, .inl (cI, 120, .inl v_readPassage)), (a_held, .inl (cI, 510, .inl v_held))] H := hP
            have hD : va_D A [(aM, .inr (4, [.ref a_w, .ref a_past, .int v_pastMany_62, .ref a_images, .int v_filled, .ref a_text, .int v_length, .int v_faultKind, .int v_faultPlace, .ref a_rowOf, .int v_rows, .int v_wrongKind, .int v_wrongPlace, .int v_readWords, .int v_readPassages, .ref a_readLetter, .ref a_readCue, .ref a_readPassage, .ref a_held])), (a_w, .inl (cI, 510, .inl (upd v_w_62 ((((270 : Int32) + x3_62)).toNatClampNeg) (1 : Int32)))), (a_past, .inl (cI, 4080, .inl v_past_62)), (a_images, .inl (cI, 1020, .inl v_images)), (a_text, .inl (cI, 140, .inl v_text)), (a_rowOf, .inl (cI, 120, .inl v_rowOf)), (a_readLetter, .inl (cI, 120, .inl v_readLetter)), (a_readCue, .inl (cI, 120, .inl v_readCue)), (a_readPassage, .inl (cI, 120, .inl v_readPassage)), (a_held, .inl (cI, 510, .inl v_held))] := hD
            obtain ⟨a_109, ha_109, hF⟩ := bindE hF
            have ha_109 := Option.some.inj ha_109
            rw [ha_109] at hP hD
            refine lv_iinc (v := (x3_62 + 1)) (lv' := [(3, .int (x3_62 + 1)), (0, .ref aM), (1, .int x1_62), (2, .int x2_62)]) hx hb dX4_place_110 hl (k := 3) rfl rfl (by decide) rfl (fun ls hl => ?_)
            refine lv_goto (tgt := 62) hx hb dX4_place_113 (by decide) ?_
            exact ih62 x1_62 x2_62 v_past_62 v_pastMany_62 (x3_62 + 1) a_109 hF _ _ hP hD hS _ (lv_sub hl [1, 2, 3, 0] rfl)
        · have hF := (if_pos c_92).symm.trans hF
          refine lv_iconst (v := (0 : Int32)) hx hb dX4_place_95 (by decide) ?_
          refine lv_goto (tgt := 109) hx hb dX4_place_96 (by decide) ?_
          by_cases b_109 : (((270 : Int32) + x3_62) < 0 ∨ 510 ≤ (((270 : Int32) + x3_62)).toNatClampNeg)
          · exact noneE ((if_pos b_109).symm.trans hF)
          have hF := (if_neg b_109).symm.trans hF
          refine va_iast hx hb hK hP hD hS 1 0 rfl rfl b_109 dX4_place_109 (fun H locs hP hD hS => ?_)
          have hP : va_P (dC, dI) vwCl [(aM, .inr (4, [.ref a_w, .ref a_past, .int v_pastMany_62, .ref a_images, .int v_filled, .ref a_text, .int v_length, .int v_faultKind, .int v_faultPlace, .ref a_rowOf, .int v_rows, .int v_wrongKind, .int v_wrongPlace, .int v_readWords, .int v_readPassages, .ref a_readLetter, .ref a_readCue, .ref a_readPassage, .ref a_held])), (a_w, .inl (cI, 510, .inl (upd v_w_62 ((((270 : Int32) + x3_62)).toNatClampNeg) (0 : Int32)))), (a_past, .inl (cI, 4080, .inl v_past_62)), (a_images, .inl (cI, 1020, .inl v_images)), (a_text, .inl (cI, 140, .inl v_text)), (a_rowOf, .inl (cI, 120, .inl v_rowOf)), (a_readLetter, .inl (cI, 120, .inl v_readLetter)), (a_readCue, .inl (cI, 120, .inl v_readCue)), (a_readPassage, .inl (cI, 120, .inl v_readPassage)), (a_held, .inl (cI, 510, .inl v_held))] H := hP
          have hD : va_D A [(aM, .inr (4, [.ref a_w, .ref a_past, .int v_pastMany_62, .ref a_images, .int v_filled, .ref a_text, .int v_length, .int v_faultKind, .int v_faultPlace, .ref a_rowOf, .int v_rows, .int v_wrongKind, .int v_wrongPlace, .int v_readWords, .int v_readPassages, .ref a_readLetter, .ref a_readCue, .ref a_readPassage, .ref a_held])), (a_w, .inl (cI, 510, .inl (upd v_w_62 ((((270 : Int32) + x3_62)).toNatClampNeg) (0 : Int32)))), (a_past, .inl (cI, 4080, .inl v_past_62)), (a_images, .inl (cI, 1020, .inl v_images)), (a_text, .inl (cI, 140, .inl v_text)), (a_rowOf, .inl (cI, 120, .inl v_rowOf)), (a_readLetter, .inl (cI, 120, .inl v_readLetter)), (a_readCue, .inl (cI, 120, .inl v_readCue)), (a_readPassage, .inl (cI, 120, .inl v_readPassage)), (a_held, .inl (cI, 510, .inl v_held))] := hD
          obtain ⟨a_109, ha_109, hF⟩ := bindE hF
          have ha_109 := Option.some.inj ha_109
          rw [ha_109] at hP hD
          refine lv_iinc (v := (x3_62 + 1)) (lv' := [(3, .int (x3_62 + 1)), (0, .ref aM), (1, .int x1_62), (2, .int x2_62)]) hx hb dX4_place_110 hl (k := 3) rfl rfl (by decide) rfl (fun ls hl => ?_)
          refine lv_goto (tgt := 62) hx hb dX4_place_113 (by decide) ?_
          exact ih62 x1_62 x2_62 v_past_62 v_pastMany_62 (x3_62 + 1) a_109 hF _ _ hP hD hS _ (lv_sub hl [1, 2, 3, 0] rfl)
  unfold f_X4_place at hF
  refine lv_aload_n hx hb dX4_place_0 rfl (lv_at hl 0 rfl) ?_
  refine lv_iload_n hx hb dX4_place_1 rfl (lv_at hl 1 rfl) ?_
  obtain ⟨q_2, hq_2, hF⟩ := bindE hF
  have hPc := hP
  refine vp_callSi (va_Run.run (va_runV (As := [.int p1]) (rest := []) ⟨hx, hb, hml, hown, hts⟩ (c_X4_isWord l dC dI cI cZ cO aM a_w a_past a_images a_text a_rowOf a_readLetter a_readCue a_readPassage a_held p1 v_w v_past v_pastMany v_images v_filled v_text v_length v_faultKind v_faultPlace v_rowOf v_rows v_wrongKind v_wrongPlace v_readWords v_readPassages v_readLetter v_readCue v_readPassage v_held q_2 hq_2) (cwV 1 hts gX4_place_X4_isWord rfl rfl rfl (by decide +kernel) ⟨Nat.le_of_ble_eq_true rfl, Nat.le_of_ble_eq_true rfl⟩) ⟨fb_rd, va_recv hK hPc (ci := 4) (q0 := 0) rfl rfl, pre_rd hPc hK hN⟩ rfl rfl hl.1 rfl (lv_room (Nat.le_of_ble_eq_true rfl)) dX4_place_2 ⟨Nat.zero_le _, Nat.zero_le _⟩)) (fun z_2 hz_2 => ?_)
  subst hz_2
  refine lv_if_ne (tgt := 10) hx hb dX4_place_5 (by decide) (fun c_5 => ?_) (fun c_5 => ?_)
  · have hF := (if_neg c_5).symm.trans hF
    refine lv_aload_n hx hb dX4_place_10 rfl (lv_at hl 0 rfl) ?_
    obtain ⟨q_11, hq_11, hF⟩ := bindE hF
    obtain ⟨u_11_past, u_11_pastMany⟩ := q_11
    have hPc := hP
    have hDc := hD
    have hFc := va_free (wc := [(aM, .inr (4, [.ref a_w, .ref a_past, .int v_pastMany, .ref a_images, .int v_filled, .ref a_text, .int v_length, .int v_faultKind, .int v_faultPlace, .ref a_rowOf, .int v_rows, .int v_wrongKind, .int v_wrongPlace, .int v_readWords, .int v_readPassages, .ref a_readLetter, .ref a_readCue, .ref a_readPassage, .ref a_held])), (a_w, .inl (cI, 510, .inl v_w)), (a_past, .inl (cI, 4080, .inl v_past)), (a_images, .inl (cI, 1020, .inl v_images)), (a_text, .inl (cI, 140, .inl v_text)), (a_rowOf, .inl (cI, 120, .inl v_rowOf)), (a_readLetter, .inl (cI, 120, .inl v_readLetter)), (a_readCue, .inl (cI, 120, .inl v_readCue)), (a_readPassage, .inl (cI, 120, .inl v_readPassage)), (a_held, .inl (cI, 510, .inl v_held))]) hD hS hA [0, 1, 2, 3, 4, 5, 6, 7, 8, 9] rfl
    refine va_callv (va_runV (As := []) (rest := []) ⟨hx, hb, hml, hown, hts⟩ (c_X4_remember l dC dI cI cZ cO aM a_w a_past a_images a_text a_rowOf a_readLetter a_readCue a_readPassage a_held H.size v_w v_past v_pastMany v_images v_filled v_text v_length v_faultKind v_faultPlace v_rowOf v_rows v_wrongKind v_wrongPlace v_readWords v_readPassages v_readLetter v_readCue v_readPassage v_held u_11_past u_11_pastMany hq_11) (cwV 0 hts gX4_place_X4_remember rfl rfl rfl (by decide +kernel) ⟨Nat.le_of_ble_eq_true rfl, Nat.le_of_ble_eq_true rfl⟩) ⟨fb_wr, va_recv hK hPc (ci := 4) (q0 := 0) rfl rfl, pre_wr hPc hK hN hDc⟩ rfl rfl hl.1 rfl (lv_room (Nat.le_of_ble_eq_true rfl)) dX4_place_11 ⟨Nat.zero_le _, Nat.zero_le _⟩) hS (fun q _ h => hFc q h) hFc (fun _ t H1 locs ht hvm hw hB hz1 hk1 hS => ?_)
    obtain ⟨hP1, hD1⟩ := hB
    rw [ht] at hP1
    obtain ⟨hP, hD⟩ := va_join (wr := []) (w1 := [(aM, .inr (4, [.ref a_w, .ref a_past, .int u_11_pastMany, .ref a_images, .int v_filled, .ref a_text, .int v_length, .int v_faultKind, .int v_faultPlace, .ref a_rowOf, .int v_rows, .int v_wrongKind, .int v_wrongPlace, .int v_readWords, .int v_readPassages, .ref a_readLetter, .ref a_readCue, .ref a_readPassage, .ref a_held])), (a_w, .inl (cI, 510, .inl v_w)), (a_past, .inl (cI, 4080, .inl u_11_past)), (a_images, .inl (cI, 1020, .inl v_images)), (a_text, .inl (cI, 140, .inl v_text)), (a_rowOf, .inl (cI, 120, .inl v_rowOf)), (a_readLetter, .inl (cI, 120, .inl v_readLetter)), (a_readCue, .inl (cI, 120, .inl v_readCue)), (a_readPassage, .inl (cI, 120, .inl v_readPassage)), (a_held, .inl (cI, 510, .inl v_held))]) hP hD [0, 1, 2, 3, 4, 5, 6, 7, 8, 9] [] rfl rfl (by decide) (by decide) hk1 hFc hP1 hD1
    generalize H1 = H at hP hS ⊢
    have hP : va_P (dC, dI) vwCl [(aM, .inr (4, [.ref a_w, .ref a_past, .int u_11_pastMany, .ref a_images, .int v_filled, .ref a_text, .int v_length, .int v_faultKind, .int v_faultPlace, .ref a_rowOf, .int v_rows, .int v_wrongKind, .int v_wrongPlace, .int v_readWords, .int v_readPassages, .ref a_readLetter, .ref a_readCue, .ref a_readPassage, .ref a_held])), (a_w, .inl (cI, 510, .inl v_w)), (a_past, .inl (cI, 4080, .inl u_11_past)), (a_images, .inl (cI, 1020, .inl v_images)), (a_text, .inl (cI, 140, .inl v_text)), (a_rowOf, .inl (cI, 120, .inl v_rowOf)), (a_readLetter, .inl (cI, 120, .inl v_readLetter)), (a_readCue, .inl (cI, 120, .inl v_readCue)), (a_readPassage, .inl (cI, 120, .inl v_readPassage)), (a_held, .inl (cI, 510, .inl v_held))] H := hP
    have hD : va_D A [(aM, .inr (4, [.ref a_w, .ref a_past, .int u_11_pastMany, .ref a_images, .int v_filled, .ref a_text, .int v_length, .int v_faultKind, .int v_faultPlace, .ref a_rowOf, .int v_rows, .int v_wrongKind, .int v_wrongPlace, .int v_readWords, .int v_readPassages, .ref a_readLetter, .ref a_readCue, .ref a_readPassage, .ref a_held])), (a_w, .inl (cI, 510, .inl v_w)), (a_past, .inl (cI, 4080, .inl u_11_past)), (a_images, .inl (cI, 1020, .inl v_images)), (a_text, .inl (cI, 140, .inl v_text)), (a_rowOf, .inl (cI, 120, .inl v_rowOf)), (a_readLetter, .inl (cI, 120, .inl v_readLetter)), (a_readCue, .inl (cI, 120, .inl v_readCue)), (a_readPassage, .inl (cI, 120, .inl v_readPassage)), (a_held, .inl (cI, 510, .inl v_held))] := hD
    refine lv_aload_n hx hb dX4_place_14 rfl (lv_at hl 0 rfl) ?_
    refine va_get (D := (dC, dI)) (ci := 4) (v := .ref a_w) (C := RX4) (T := TX4) (N := 19) hx hb hts inX4 hown hK hP 0 rfl rfl 0 (by decide) fl7 (fun _ h9 => h9) rfl dX4_place_15 ?_
    refine lv_bipush (v := (11 : Int32)) hx hb dX4_place_18 (by decide) ?_
    refine va_ialdK hx hb hK hP 1 0 rfl rfl (inK (by decide)) (j := 11) (by decide) dX4_place_20 ?_
    refine lv_istore_n (lv' := [(2, .int (v_w 11)), (0, .ref aM), (1, .int p1)]) hx hb dX4_place_21 rfl hl (by decide) rfl (fun ls hl => ?_)
    refine lv_aload_n hx hb dX4_place_22 rfl (lv_at hl 1 rfl) ?_
    refine va_get (D := (dC, dI)) (ci := 4) (v := .ref a_w) (C := RX4) (T := TX4) (N := 19) hx hb hts inX4 hown hK hP 0 rfl rfl 0 (by decide) fl7 (fun _ h9 => h9) rfl dX4_place_23 ?_
    refine lv_bipush (v := (11 : Int32)) hx hb dX4_place_26 (by decide) ?_
    refine lv_iload_n hx hb dX4_place_28 rfl (lv_at hl 2 rfl) ?_
    refine va_iastK hx hb hK hP hD hS 1 0 rfl rfl (inK (by decide)) (j := 11) (by decide) dX4_place_29 (fun H locs hP hD hS => ?_)
    have hP : va_P (dC, dI) vwCl [(aM, .inr (4, [.ref a_w, .ref a_past, .int u_11_pastMany, .ref a_images, .int v_filled, .ref a_text, .int v_length, .int v_faultKind, .int v_faultPlace, .ref a_rowOf, .int v_rows, .int v_wrongKind, .int v_wrongPlace, .int v_readWords, .int v_readPassages, .ref a_readLetter, .ref a_readCue, .ref a_readPassage, .ref a_held])), (a_w, .inl (cI, 510, .inl (upd v_w 11 p1))), (a_past, .inl (cI, 4080, .inl u_11_past)), (a_images, .inl (cI, 1020, .inl v_images)), (a_text, .inl (cI, 140, .inl v_text)), (a_rowOf, .inl (cI, 120, .inl v_rowOf)), (a_readLetter, .inl (cI, 120, .inl v_readLetter)), (a_readCue, .inl (cI, 120, .inl v_readCue)), (a_readPassage, .inl (cI, 120, .inl v_readPassage)), (a_held, .inl (cI, 510, .inl v_held))] H := hP
    have hD : va_D A [(aM, .inr (4, [.ref a_w, .ref a_past, .int u_11_pastMany, .ref a_images, .int v_filled, .ref a_text, .int v_length, .int v_faultKind, .int v_faultPlace, .ref a_rowOf, .int v_rows, .int v_wrongKind, .int v_wrongPlace, .int v_readWords, .int v_readPassages, .ref a_readLetter, .ref a_readCue, .ref a_readPassage, .ref a_held])), (a_w, .inl (cI, 510, .inl (upd v_w 11 p1))), (a_past, .inl (cI, 4080, .inl u_11_past)), (a_images, .inl (cI, 1020, .inl v_images)), (a_text, .inl (cI, 140, .inl v_text)), (a_rowOf, .inl (cI, 120, .inl v_rowOf)), (a_readLetter, .inl (cI, 120, .inl v_readLetter)), (a_readCue, .inl (cI, 120, .inl v_readCue)), (a_readPassage, .inl (cI, 120, .inl v_readPassage)), (a_held, .inl (cI, 510, .inl v_held))] := hD
    obtain ⟨a_29, ha_29, hF⟩ := bindE hF
    have ha_29 := Option.some.inj ha_29
    rw [ha_29] at hP hD
    refine lv_aload_n hx hb dX4_place_30 rfl (lv_at hl 1 rfl) ?_
    refine va_get (D := (dC, dI)) (ci := 4) (v := .ref a_w) (C := RX4) (T := TX4) (N := 19) hx hb hts inX4 hown hK hP 0 rfl rfl 0 (by decide) fl7 (fun _ h9 => h9) rfl dX4_place_31 ?_
    refine lv_bipush (v := (20 : Int32)) hx hb dX4_place_34 (by decide) ?_
    refine lv_iconst (v := (0 : Int32)) hx hb dX4_place_36 (by decide) ?_
    refine va_iastK hx hb hK hP hD hS 1 0 rfl rfl (inK (by decide)) (j := 20) (by decide) dX4_place_37 (fun H locs hP hD hS => ?_)
    have hP : va_P (dC, dI) vwCl [(aM, .inr (4, [.ref a_w, .ref a_past, .int u_11_pastMany, .ref a_images, .int v_filled, .ref a_text, .int v_length, .int v_faultKind, .int v_faultPlace, .ref a_rowOf, .int v_rows, .int v_wrongKind, .int v_wrongPlace, .int v_readWords, .int v_readPassages, .ref a_readLetter, .ref a_readCue, .ref a_readPassage, .ref a_held])), (a_w, .inl (cI, 510, .inl (upd a_29 20 (0 : Int32)))), (a_past, .inl (cI, 4080, .inl u_11_past)), (a_images, .inl (cI, 1020, .inl v_images)), (a_text, .inl (cI, 140, .inl v_text)), (a_rowOf, .inl (cI, 120, .inl v_rowOf)), (a_readLetter, .inl (cI, 120, .inl v_readLetter)), (a_readCue, .inl (cI, 120, .inl v_readCue)), (a_readPassage, .inl (cI, 120, .inl v_readPassage)), (a_held, .inl (cI, 510, .inl v_held))] H := hP
    have hD : va_D A [(aM, .inr (4, [.ref a_w, .ref a_past, .int u_11_pastMany, .ref a_images, .int v_filled, .ref a_text, .int v_length, .int v_faultKind, .int v_faultPlace, .ref a_rowOf, .int v_rows, .int v_wrongKind, .int v_wrongPlace, .int v_readWords, .int v_readPassages, .ref a_readLetter, .ref a_readCue, .ref a_readPassage, .ref a_held])), (a_w, .inl (cI, 510, .inl (upd a_29 20 (0 : Int32)))), (a_past, .inl (cI, 4080, .inl u_11_past)), (a_images, .inl (cI, 1020, .inl v_images)), (a_text, .inl (cI, 140, .inl v_text)), (a_rowOf, .inl (cI, 120, .inl v_rowOf)), (a_readLetter, .inl (cI, 120, .inl v_readLetter)), (a_readCue, .inl (cI, 120, .inl v_readCue)), (a_readPassage, .inl (cI, 120, .inl v_readPassage)), (a_held, .inl (cI, 510, .inl v_held))] := hD
    obtain ⟨a_37, ha_37, hF⟩ := bindE hF
    have ha_37 := Option.some.inj ha_37
    rw [ha_37] at hP hD
    refine lv_aload_n hx hb dX4_place_38 rfl (lv_at hl 1 rfl) ?_
    refine va_get (D := (dC, dI)) (ci := 4) (v := .ref a_w) (C := RX4) (T := TX4) (N := 19) hx hb hts inX4 hown hK hP 0 rfl rfl 0 (by decide) fl7 (fun _ h9 => h9) rfl dX4_place_39 ?_
    refine lv_bipush (v := (25 : Int32)) hx hb dX4_place_42 (by decide) ?_
    refine lv_iconst (v := (0 : Int32)) hx hb dX4_place_44 (by decide) ?_
    refine va_iastK hx hb hK hP hD hS 1 0 rfl rfl (inK (by decide)) (j := 25) (by decide) dX4_place_45 (fun H locs hP hD hS => ?_)
    have hP : va_P (dC, dI) vwCl [(aM, .inr (4, [.ref a_w, .ref a_past, .int u_11_pastMany, .ref a_images, .int v_filled, .ref a_text, .int v_length, .int v_faultKind, .int v_faultPlace, .ref a_rowOf, .int v_rows, .int v_wrongKind, .int v_wrongPlace, .int v_readWords, .int v_readPassages, .ref a_readLetter, .ref a_readCue, .ref a_readPassage, .ref a_held])), (a_w, .inl (cI, 510, .inl (upd a_37 25 (0 : Int32)))), (a_past, .inl (cI, 4080, .inl u_11_past)), (a_images, .inl (cI, 1020, .inl v_images)), (a_text, .inl (cI, 140, .inl v_text)), (a_rowOf, .inl (cI, 120, .inl v_rowOf)), (a_readLetter, .inl (cI, 120, .inl v_readLetter)), (a_readCue, .inl (cI, 120, .inl v_readCue)), (a_readPassage, .inl (cI, 120, .inl v_readPassage)), (a_held, .inl (cI, 510, .inl v_held))] H := hP
    have hD : va_D A [(aM, .inr (4, [.ref a_w, .ref a_past, .int u_11_pastMany, .ref a_images, .int v_filled, .ref a_text, .int v_length, .int v_faultKind, .int v_faultPlace, .ref a_rowOf, .int v_rows, .int v_wrongKind, .int v_wrongPlace, .int v_readWords, .int v_readPassages, .ref a_readLetter, .ref a_readCue, .ref a_readPassage, .ref a_held])), (a_w, .inl (cI, 510, .inl (upd a_37 25 (0 : Int32)))), (a_past, .inl (cI, 4080, .inl u_11_past)), (a_images, .inl (cI, 1020, .inl v_images)), (a_text, .inl (cI, 140, .inl v_text)), (a_rowOf, .inl (cI, 120, .inl v_rowOf)), (a_readLetter, .inl (cI, 120, .inl v_readLetter)), (a_readCue, .inl (cI, 120, .inl v_readCue)), (a_readPassage, .inl (cI, 120, .inl v_readPassage)), (a_held, .inl (cI, 510, .inl v_held))] := hD
    obtain ⟨a_45, ha_45, hF⟩ := bindE hF
    have ha_45 := Option.some.inj ha_45
    rw [ha_45] at hP hD
    refine lv_aload_n hx hb dX4_place_46 rfl (lv_at hl 1 rfl) ?_
    refine va_get (D := (dC, dI)) (ci := 4) (v := .ref a_w) (C := RX4) (T := TX4) (N := 19) hx hb hts inX4 hown hK hP 0 rfl rfl 0 (by decide) fl7 (fun _ h9 => h9) rfl dX4_place_47 ?_
    refine lv_bipush (v := (13 : Int32)) hx hb dX4_place_50 (by decide) ?_
    refine lv_aload_n hx hb dX4_place_52 rfl (lv_at hl 1 rfl) ?_
    refine va_get (D := (dC, dI)) (ci := 4) (v := .ref a_w) (C := RX4) (T := TX4) (N := 19) hx hb hts inX4 hown hK hP 0 rfl rfl 0 (by decide) fl7 (fun _ h9 => h9) rfl dX4_place_53 ?_
    refine lv_bipush (v := (10 : Int32)) hx hb dX4_place_56 (by decide) ?_
    refine va_ialdK hx hb hK hP 1 0 rfl rfl (inK (by decide)) (j := 10) (by decide) dX4_place_58 ?_
    refine va_iastK hx hb hK hP hD hS 1 0 rfl rfl (inK (by decide)) (j := 13) (by decide) dX4_place_59 (fun H locs hP hD hS => ?_)
    have hP : va_P (dC, dI) vwCl [(aM, .inr (4, [.ref a_w, .ref a_past, .int u_11_pastMany, .ref a_images, .int v_filled, .ref a_text, .int v_length, .int v_faultKind, .int v_faultPlace, .ref a_rowOf, .int v_rows, .int v_wrongKind, .int v_wrongPlace, .int v_readWords, .int v_readPassages, .ref a_readLetter, .ref a_readCue, .ref a_readPassage, .ref a_held])), (a_w, .inl (cI, 510, .inl (upd a_45 13 (a_45 10)))), (a_past, .inl (cI, 4080, .inl u_11_past)), (a_images, .inl (cI, 1020, .inl v_images)), (a_text, .inl (cI, 140, .inl v_text)), (a_rowOf, .inl (cI, 120, .inl v_rowOf)), (a_readLetter, .inl (cI, 120, .inl v_readLetter)), (a_readCue, .inl (cI, 120, .inl v_readCue)), (a_readPassage, .inl (cI, 120, .inl v_readPassage)), (a_held, .inl (cI, 510, .inl v_held))] H := hP
    have hD : va_D A [(aM, .inr (4, [.ref a_w, .ref a_past, .int u_11_pastMany, .ref a_images, .int v_filled, .ref a_text, .int v_length, .int v_faultKind, .int v_faultPlace, .ref a_rowOf, .int v_rows, .int v_wrongKind, .int v_wrongPlace, .int v_readWords, .int v_readPassages, .ref a_readLetter, .ref a_readCue, .ref a_readPassage, .ref a_held])), (a_w, .inl (cI, 510, .inl (upd a_45 13 (a_45 10)))), (a_past, .inl (cI, 4080, .inl u_11_past)), (a_images, .inl (cI, 1020, .inl v_images)), (a_text, .inl (cI, 140, .inl v_text)), (a_rowOf, .inl (cI, 120, .inl v_rowOf)), (a_readLetter, .inl (cI, 120, .inl v_readLetter)), (a_readCue, .inl (cI, 120, .inl v_readCue)), (a_readPassage, .inl (cI, 120, .inl v_readPassage)), (a_held, .inl (cI, 510, .inl v_held))] := hD
    obtain ⟨a_59, ha_59, hF⟩ := bindE hF
    have ha_59 := Option.some.inj ha_59
    rw [ha_59] at hP hD
    refine lv_iconst (v := (0 : Int32)) hx hb dX4_place_60 (by decide) ?_
    refine lv_istore_n (lv' := [(3, .int (0 : Int32)), (2, .int (v_w 11)), (0, .ref aM), (1, .int p1)]) hx hb dX4_place_61 rfl hl (by decide) rfl (fun ls hl => ?_)
    exact B62 gas p1 (v_w 11) u_11_past u_11_pastMany (0 : Int32) a_59 hF _ _ hP hD hS _ (lv_sub hl [2, 3, 1, 0] rfl)
  · have hF := (if_pos c_5).symm.trans hF
    refine lv_iconst (v := (-1 : Int32)) hx hb dX4_place_8 (by decide) ?_
    have hF : some ((-1 : Int32), v_w, v_past, v_pastMany) = some (r, o_w, o_past, o_pastMany) := hF
    have hP9 := hP
    have hD9 := hD
    cases hF
    subst hQ
    subst hAe
    exact W.iret hx hb hr (fun t ht hW => ⟨⟨_, (), rfl, rfl, ⟨by rw [ht]; exact hP9, hD9⟩⟩, hS.F ht⟩) hS.2.2 dX4_place_9
def f_X4_undo_22 (v_past : (Nat → Int32)) (v_pastMany : Int32) (v_rowOf : (Nat → Int32)) (v_rows : Int32) : Nat → Int32 → (Nat → Int32) → Option (Int32 × (Nat → Int32) × Int32 × (Nat → Int32) × Int32)
  | 0, _, _ => none
  | n + 1, x1, v_w =>
    if (510 : Int32) ≤ x1 then
      (f_X4_layRows v_w v_rowOf v_rows).bind fun q57 =>
      some (v_pastMany, v_w, v_pastMany, q57.1, q57.2)
    else
      if (((510 : Int32) * v_pastMany) + x1) < 0 ∨ 4080 ≤ ((((510 : Int32) * v_pastMany) + x1)).toNatClampNeg then none else
      if x1 < 0 ∨ 510 ≤ x1.toNatClampNeg then none else
      f_X4_undo_22 v_past v_pastMany v_rowOf v_rows n (x1 + 1) (upd v_w x1.toNatClampNeg (v_past (((((510 : Int32) * v_pastMany) + x1)).toNatClampNeg)))
def f_X4_undo (v_w : (Nat → Int32)) (v_past : (Nat → Int32)) (v_pastMany : Int32) (v_rowOf : (Nat → Int32)) (v_rows : Int32) : Option (Int32 × (Nat → Int32) × Int32 × (Nat → Int32) × Int32) :=
  if v_pastMany = (0 : Int32) then
    some ((-2 : Int32), v_w, v_pastMany, v_rowOf, v_rows)
  else
    f_X4_undo_22 v_past (v_pastMany - (1 : Int32)) v_rowOf v_rows gas (0 : Int32) v_w
def rm_X4_undo : Room := { frames := 1, cells := 0, slots := 0, locals := 23 }
set_option maxHeartbeats 4000000 in
set_option maxRecDepth 100000 in
theorem c_X4_undo (l : Launch) (dC : Nat → ClassId) (dI : Nat → Nat → Nat) (cI cZ cO : ClassId) (aM a_w a_past a_images a_text a_rowOf a_readLetter a_readCue a_readPassage a_held : Nat) (sz : Nat) (v_w : (Nat → Int32)) (v_past : (Nat → Int32)) (v_pastMany : Int32) (v_images : (Nat → Int32)) (v_filled : Int32) (v_text : (Nat → Int32)) (v_length : Int32) (v_faultKind : Int32) (v_faultPlace : Int32) (v_rowOf : (Nat → Int32)) (v_rows : Int32) (v_wrongKind : Int32) (v_wrongPlace : Int32) (v_readWords : Int32) (v_readPassages : Int32) (v_readLetter : (Nat → Int32)) (v_readCue : (Nat → Int32)) (v_readPassage : (Nat → Int32)) (v_held : (Nat → Int32)) (r : Int32) (o_w : (Nat → Int32)) (o_pastMany : Int32) (o_rowOf : (Nat → Int32)) (o_rows : Int32) (hF : f_X4_undo v_w v_past v_pastMany v_rowOf v_rows = some (r, o_w, o_pastMany, o_rowOf, o_rows)) : Met l yX4_undo wsX4_undo rm_X4_undo (va_Pc [.ref aM] (wrW dC dI cI cZ cO sz [(aM, .inr (4, [.ref a_w, .ref a_past, .int v_pastMany, .ref a_images, .int v_filled, .ref a_text, .int v_length, .int v_faultKind, .int v_faultPlace, .ref a_rowOf, .int v_rows, .int v_wrongKind, .int v_wrongPlace, .int v_readWords, .int v_readPassages, .ref a_readLetter, .ref a_readCue, .ref a_readPassage, .ref a_held])), (a_w, .inl (cI, 510, .inl v_w)), (a_past, .inl (cI, 4080, .inl v_past)), (a_images, .inl (cI, 1020, .inl v_images)), (a_text, .inl (cI, 140, .inl v_text)), (a_rowOf, .inl (cI, 120, .inl v_rowOf)), (a_readLetter, .inl (cI, 120, .inl v_readLetter)), (a_readCue, .inl (cI, 120, .inl v_readCue)), (a_readPassage, .inl (cI, 120, .inl v_readPassage)), (a_held, .inl (cI, 510, .inl v_held))])) (va_Qi (fun (q : Int32) (_ : Unit) => r = q) (wrE dC dI [(aM, .inr (4, [.ref a_w, .ref a_past, .int v_pastMany, .ref a_images, .int v_filled, .ref a_text, .int v_length, .int v_faultKind, .int v_faultPlace, .ref a_rowOf, .int v_rows, .int v_wrongKind, .int v_wrongPlace, .int v_readWords, .int v_readPassages, .ref a_readLetter, .ref a_readCue, .ref a_readPassage, .ref a_held])), (a_w, .inl (cI, 510, .inl v_w)), (a_past, .inl (cI, 4080, .inl v_past)), (a_images, .inl (cI, 1020, .inl v_images)), (a_text, .inl (cI, 140, .inl v_text)), (a_rowOf, .inl (cI, 120, .inl v_rowOf)), (a_readLetter, .inl (cI, 120, .inl v_readLetter)), (a_readCue, .inl (cI, 120, .inl v_readCue)), (a_readPassage, .inl (cI, 120, .inl v_readPassage)), (a_held, .inl (cI, 510, .inl v_held))] sz [(aM, .inr (4, [.ref a_w, .ref a_past, .int o_pastMany, .ref a_images, .int v_filled, .ref a_text, .int v_length, .int v_faultKind, .int v_faultPlace, .ref a_rowOf, .int o_rows, .int v_wrongKind, .int v_wrongPlace, .int v_readWords, .int v_readPassages, .ref a_readLetter, .ref a_readCue, .ref a_readPassage, .ref a_held])), (a_w, .inl (cI, 510, .inl o_w)), (a_past, .inl (cI, 4080, .inl v_past)), (a_images, .inl (cI, 1020, .inl v_images)), (a_text, .inl (cI, 140, .inl v_text)), (a_rowOf, .inl (cI, 120, .inl o_rowOf)), (a_readLetter, .inl (cI, 120, .inl v_readLetter)), (a_readCue, .inl (cI, 120, .inl v_readCue)), (a_readPassage, .inl (cI, 120, .inl v_readPassage)), (a_held, .inl (cI, 510, .inl v_held))]) (va_A [(aM, .inr (4, [.ref a_w, .ref a_past, .int v_pastMany, .ref a_images, .int v_filled, .ref a_text, .int v_length, .int v_faultKind, .int v_faultPlace, .ref a_rowOf, .int v_rows, .int v_wrongKind, .int v_wrongPlace, .int v_readWords, .int v_readPassages, .ref a_readLetter, .ref a_readCue, .ref a_readPassage, .ref a_held])), (a_w, .inl (cI, 510, .inl v_w)), (a_past, .inl (cI, 4080, .inl v_past)), (a_images, .inl (cI, 1020, .inl v_images)), (a_text, .inl (cI, 140, .inl v_text)), (a_rowOf, .inl (cI, 120, .inl v_rowOf)), (a_readLetter, .inl (cI, 120, .inl v_readLetter)), (a_readCue, .inl (cI, 120, .inl v_readCue)), (a_readPassage, .inl (cI, 120, .inl v_readPassage)), (a_held, .inl (cI, 510, .inl v_held))] sz)) 0 0 (va_A [(aM, .inr (4, [.ref a_w, .ref a_past, .int v_pastMany, .ref a_images, .int v_filled, .ref a_text, .int v_length, .int v_faultKind, .int v_faultPlace, .ref a_rowOf, .int v_rows, .int v_wrongKind, .int v_wrongPlace, .int v_readWords, .int v_readPassages, .ref a_readLetter, .ref a_readCue, .ref a_readPassage, .ref a_held])), (a_w, .inl (cI, 510, .inl v_w)), (a_past, .inl (cI, 4080, .inl v_past)), (a_images, .inl (cI, 1020, .inl v_images)), (a_text, .inl (cI, 140, .inl v_text)), (a_rowOf, .inl (cI, 120, .inl v_rowOf)), (a_readLetter, .inl (cI, 120, .inl v_readLetter)), (a_readCue, .inl (cI, 120, .inl v_readCue)), (a_readPassage, .inl (cI, 120, .inl v_readPassage)), (a_held, .inl (cI, 510, .inl v_held))] sz) := by
  refine Met.ofW (cc := cX4_undo) (maxL := 2) (ret := (some .int)) (by decide) rfl ?_
  intro p e s m args below meth c s₁ B hml hv
  obtain ⟨rfl, hsz, hP, hK, hN, hD0⟩ := hv
  have hx := B.exec
  have hb := B.bytes
  have hr := B.returns
  have hts := atoms_spec (ws := wsX4_undo) B.pre
  have hown : s.vm.findClass RX4 = some m.cls := findClass_of_methodNamed B.named
  have hlocks := B.notSynchronized
  subst hsz
  have hD := hD0.self (sz := s.heap.size)
  obtain ⟨Q, hQ⟩ : ∃ Q, Q = MQ below (va_Qi (fun (q : Int32) (_ : Unit) => r = q) (wrE dC dI [(aM, .inr (4, [.ref a_w, .ref a_past, .int v_pastMany, .ref a_images, .int v_filled, .ref a_text, .int v_length, .int v_faultKind, .int v_faultPlace, .ref a_rowOf, .int v_rows, .int v_wrongKind, .int v_wrongPlace, .int v_readWords, .int v_readPassages, .ref a_readLetter, .ref a_readCue, .ref a_readPassage, .ref a_held])), (a_w, .inl (cI, 510, .inl v_w)), (a_past, .inl (cI, 4080, .inl v_past)), (a_images, .inl (cI, 1020, .inl v_images)), (a_text, .inl (cI, 140, .inl v_text)), (a_rowOf, .inl (cI, 120, .inl v_rowOf)), (a_readLetter, .inl (cI, 120, .inl v_readLetter)), (a_readCue, .inl (cI, 120, .inl v_readCue)), (a_readPassage, .inl (cI, 120, .inl v_readPassage)), (a_held, .inl (cI, 510, .inl v_held))] s.heap.size [(aM, .inr (4, [.ref a_w, .ref a_past, .int o_pastMany, .ref a_images, .int v_filled, .ref a_text, .int v_length, .int v_faultKind, .int v_faultPlace, .ref a_rowOf, .int o_rows, .int v_wrongKind, .int v_wrongPlace, .int v_readWords, .int v_readPassages, .ref a_readLetter, .ref a_readCue, .ref a_readPassage, .ref a_held])), (a_w, .inl (cI, 510, .inl o_w)), (a_past, .inl (cI, 4080, .inl v_past)), (a_images, .inl (cI, 1020, .inl v_images)), (a_text, .inl (cI, 140, .inl v_text)), (a_rowOf, .inl (cI, 120, .inl o_rowOf)), (a_readLetter, .inl (cI, 120, .inl v_readLetter)), (a_readCue, .inl (cI, 120, .inl v_readCue)), (a_readPassage, .inl (cI, 120, .inl v_readPassage)), (a_held, .inl (cI, 510, .inl v_held))]) (va_A [(aM, .inr (4, [.ref a_w, .ref a_past, .int v_pastMany, .ref a_images, .int v_filled, .ref a_text, .int v_length, .int v_faultKind, .int v_faultPlace, .ref a_rowOf, .int v_rows, .int v_wrongKind, .int v_wrongPlace, .int v_readWords, .int v_readPassages, .ref a_readLetter, .ref a_readCue, .ref a_readPassage, .ref a_held])), (a_w, .inl (cI, 510, .inl v_w)), (a_past, .inl (cI, 4080, .inl v_past)), (a_images, .inl (cI, 1020, .inl v_images)), (a_text, .inl (cI, 140, .inl v_text)), (a_rowOf, .inl (cI, 120, .inl v_rowOf)), (a_readLetter, .inl (cI, 120, .inl v_readLetter)), (a_readCue, .inl (cI, 120, .inl v_readCue)), (a_readPassage, .inl (cI, 120, .inl v_readPassage)), (a_held, .inl (cI, 510, .inl v_held))] s.heap.size)) ([.ref aM] : List Value).toArray s 0 0 (va_A [(aM, .inr (4, [.ref a_w, .ref a_past, .int v_pastMany, .ref a_images, .int v_filled, .ref a_text, .int v_length, .int v_faultKind, .int v_faultPlace, .ref a_rowOf, .int v_rows, .int v_wrongKind, .int v_wrongPlace, .int v_readWords, .int v_readPassages, .ref a_readLetter, .ref a_readCue, .ref a_readPassage, .ref a_held])), (a_w, .inl (cI, 510, .inl v_w)), (a_past, .inl (cI, 4080, .inl v_past)), (a_images, .inl (cI, 1020, .inl v_images)), (a_text, .inl (cI, 140, .inl v_text)), (a_rowOf, .inl (cI, 120, .inl v_rowOf)), (a_readLetter, .inl (cI, 120, .inl v_readLetter)), (a_readCue, .inl (cI, 120, .inl v_readCue)), (a_readPassage, .inl (cI, 120, .inl v_readPassage)), (a_held, .inl (cI, 510, .inl v_held))] s.heap.size) := ⟨_, rfl⟩
  rw [← hQ]
  obtain ⟨A, hAe⟩ : ∃ A, A = va_A [(aM, .inr (4, [.ref a_w, .ref a_past, .int v_pastMany, .ref a_images, .int v_filled, .ref a_text, .int v_length, .int v_faultKind, .int v_faultPlace, .ref a_rowOf, .int v_rows, .int v_wrongKind, .int v_wrongPlace, .int v_readWords, .int v_readPassages, .ref a_readLetter, .ref a_readCue, .ref a_readPassage, .ref a_held])), (a_w, .inl (cI, 510, .inl v_w)), (a_past, .inl (cI, 4080, .inl v_past)), (a_images, .inl (cI, 1020, .inl v_images)), (a_text, .inl (cI, 140, .inl v_text)), (a_rowOf, .inl (cI, 120, .inl v_rowOf)), (a_readLetter, .inl (cI, 120, .inl v_readLetter)), (a_readCue, .inl (cI, 120, .inl v_readCue)), (a_readPassage, .inl (cI, 120, .inl v_readPassage)), (a_held, .inl (cI, 510, .inl v_held))] s.heap.size := ⟨_, rfl⟩
  rw [← hAe] at hD
  have hA : ∀ q : Nat, s.heap.size ≤ q → A q := fun q h => by rw [hAe]; exact Or.inr h
  obtain ⟨H, hH⟩ : ∃ H, H = s.heap := ⟨_, rfl⟩
  have hS : va_S A s.heap H [] := by rw [hH]; exact va_S.rf
  rw [← hH] at hP
  rw [← hH]
  have fl47 := hts (.fieldLink RX4 47 "TeleprompterModel" "pastMany" "I") (by decide +kernel)
  have fl7 := hts (.fieldLink RX4 7 "TeleprompterModel" "w" "[I") (by decide +kernel)
  have fl13 := hts (.fieldLink RX4 13 "TeleprompterModel" "past" "[I") (by decide +kernel)
  have inX4 : ∀ w ∈ u_ws RX4 TX4 19, w ∈ wsX4_undo := by decide +kernel
  have hl := lv_entry ([.ref aM]) (n := 2) (Nat.le_of_ble_eq_true rfl)
  rw [lg_entry_eq]
  generalize (lg_sl ([.ref aM]) ++ List.replicate (2 - (lg_sl ([.ref aM])).length) Slot.unset).toArray = ls at hl ⊢
  have hl : lv_has ls 2 [(0, .ref aM)] := hl
  have B22 : ∀ (n_22 : Nat) (v_pastMany_22 : Int32) (v_rowOf_22 : (Nat → Int32)) (v_rows_22 : Int32) (x1_22 : Int32) (v_w_22 : (Nat → Int32)), f_X4_undo_22 v_past v_pastMany_22 v_rowOf_22 v_rows_22 n_22 x1_22 v_w_22 = some (r, o_w, o_pastMany, o_rowOf, o_rows) → ∀ (H : Heap) (locs : List Loc), va_P (dC, dI) vwCl [(aM, .inr (4, [.ref a_w, .ref a_past, .int v_pastMany_22, .ref a_images, .int v_filled, .ref a_text, .int v_length, .int v_faultKind, .int v_faultPlace, .ref a_rowOf, .int v_rows_22, .int v_wrongKind, .int v_wrongPlace, .int v_readWords, .int v_readPassages, .ref a_readLetter, .ref a_readCue, .ref a_readPassage, .ref a_held])), (a_w, .inl (cI, 510, .inl v_w_22)), (a_past, .inl (cI, 4080, .inl v_past)), (a_images, .inl (cI, 1020, .inl v_images)), (a_text, .inl (cI, 140, .inl v_text)), (a_rowOf, .inl (cI, 120, .inl v_rowOf_22)), (a_readLetter, .inl (cI, 120, .inl v_readLetter)), (a_readCue, .inl (cI, 120, .inl v_readCue)), (a_readPassage, .inl (cI, 120, .inl v_readPassage)), (a_held, .inl (cI, 510, .inl v_held))] H → va_D A [(aM, .inr (4, [.ref a_w, .ref a_past, .int v_pastMany_22, .ref a_images, .int v_filled, .ref a_text, .int v_length, .int v_faultKind, .int v_faultPlace, .ref a_rowOf, .int v_rows_22, .int v_wrongKind, .int v_wrongPlace, .int v_readWords, .int v_readPassages, .ref a_readLetter, .ref a_readCue, .ref a_readPassage, .ref a_held])), (a_w, .inl (cI, 510, .inl v_w_22)), (a_past, .inl (cI, 4080, .inl v_past)), (a_images, .inl (cI, 1020, .inl v_images)), (a_text, .inl (cI, 140, .inl v_text)), (a_rowOf, .inl (cI, 120, .inl v_rowOf_22)), (a_readLetter, .inl (cI, 120, .inl v_readLetter)), (a_readCue, .inl (cI, 120, .inl v_readCue)), (a_readPassage, .inl (cI, 120, .inl v_readPassage)), (a_held, .inl (cI, 510, .inl v_held))] → va_S A s.heap H locs → ∀ ls : Array Slot, lv_has ls 2 [(0, .ref aM), (1, .int x1_22)] → W p l e (headSpec wsX4_undo rm_X4_undo).room s m ([.ref aM] : List Value).toArray below meth c H locs 0 0 Q (F0 m 22 ls []) := by
    intro n_22
    induction n_22 with
    | zero => intro v_pastMany_22 v_rowOf_22 v_rows_22 x1_22 v_w_22 hF; exact noneE hF
    | succ n_22 ih22 =>
      intro v_pastMany_22 v_rowOf_22 v_rows_22 x1_22 v_w_22 hF H locs hP hD hS ls hl
      rw [f_X4_undo_22] at hF
      refine lv_iload_n hx hb dX4_undo_22 rfl (lv_at hl 1 rfl) ?_
      refine lv_sipush (v := (510 : Int32)) hx hb dX4_undo_23 (by decide) ?_
      refine lv_icmp_ge (tgt := 56) hx hb dX4_undo_26 (by decide) (fun c_26 => ?_) (fun c_26 => ?_)
      · have hF := (if_pos c_26).symm.trans hF
        refine lv_aload_n hx hb dX4_undo_56 rfl (lv_at hl 0 rfl) ?_
        obtain ⟨q_57, hq_57, hF⟩ := bindE hF
        obtain ⟨u_57_rowOf, u_57_rows⟩ := q_57
        have hPc := hP
        have hDc := hD
        have hFc := va_free (wc := [(aM, .inr (4, [.ref a_w, .ref a_past, .int v_pastMany_22, .ref a_images, .int v_filled, .ref a_text, .int v_length, .int v_faultKind, .int v_faultPlace, .ref a_rowOf, .int v_rows_22, .int v_wrongKind, .int v_wrongPlace, .int v_readWords, .int v_readPassages, .ref a_readLetter, .ref a_readCue, .ref a_readPassage, .ref a_held])), (a_w, .inl (cI, 510, .inl v_w_22)), (a_past, .inl (cI, 4080, .inl v_past)), (a_images, .inl (cI, 1020, .inl v_images)), (a_text, .inl (cI, 140, .inl v_text)), (a_rowOf, .inl (cI, 120, .inl v_rowOf_22)), (a_readLetter, .inl (cI, 120, .inl v_readLetter)), (a_readCue, .inl (cI, 120, .inl v_readCue)), (a_readPassage, .inl (cI, 120, .inl v_readPassage)), (a_held, .inl (cI, 510, .inl v_held))]) hD hS hA [0, 1, 2, 3, 4, 5, 6, 7, 8, 9] rfl
        refine va_callv (va_runV (As := []) (rest := []) ⟨hx, hb, hml, hown, hts⟩ (c_X4_layRows l dC dI cI cZ cO aM a_w a_past a_images a_text a_rowOf a_readLetter a_readCue a_readPassage a_held H.size v_w_22 v_past v_pastMany_22 v_images v_filled v_text v_length v_faultKind v_faultPlace v_rowOf_22 v_rows_22 v_wrongKind v_wrongPlace v_readWords v_readPassages v_readLetter v_readCue v_readPassage v_held u_57_rowOf u_57_rows hq_57) (cwV 0 hts gX4_undo_X4_layRows rfl rfl rfl (by decide +kernel) ⟨Nat.le_of_ble_eq_true rfl, Nat.le_of_ble_eq_true rfl⟩) ⟨fb_wr, va_recv hK hPc (ci := 4) (q0 := 0) rfl rfl, pre_wr hPc hK hN hDc⟩ rfl rfl hl.1 rfl (lv_room (Nat.le_of_ble_eq_true rfl)) dX4_undo_57 ⟨Nat.zero_le _, Nat.zero_le _⟩) hS (fun q _ h => hFc q h) hFc (fun _ t H1 locs ht hvm hw hB hz1 hk1 hS => ?_)
        obtain ⟨hP1, hD1⟩ := hB
        rw [ht] at hP1
        obtain ⟨hP, hD⟩ := va_join (wr := []) (w1 := [(aM, .inr (4, [.ref a_w, .ref a_past, .int v_pastMany_22, .ref a_images, .int v_filled, .ref a_text, .int v_length, .int v_faultKind, .int v_faultPlace, .ref a_rowOf, .int u_57_rows, .int v_wrongKind, .int v_wrongPlace, .int v_readWords, .int v_readPassages, .ref a_readLetter, .ref a_readCue, .ref a_readPassage, .ref a_held])), (a_w, .inl (cI, 510, .inl v_w_22)), (a_past, .inl (cI, 4080, .inl v_past)), (a_images, .inl (cI, 1020, .inl v_images)), (a_text, .inl (cI, 140, .inl v_text)), (a_rowOf, .inl (cI, 120, .inl u_57_rowOf)), (a_readLetter, .inl (cI, 120, .inl v_readLetter)), (a_readCue, .inl (cI, 120, .inl v_readCue)), (a_readPassage, .inl (cI, 120, .inl v_readPassage)), (a_held, .inl (cI, 510, .inl v_held))]) hP hD [0, 1, 2, 3, 4, 5, 6, 7, 8, 9] [] rfl rfl (by decide) (by decide) hk1 hFc hP1 hD1
        generalize H1 = H at hP hS ⊢
        have hP : va_P (dC, dI) vwCl [(aM, .inr (4, [.ref a_w, .ref a_past, .int v_pastMany_22, .ref a_images, .int v_filled, .ref a_text, .int v_length, .int v_faultKind, .int v_faultPlace, .ref a_rowOf, .int u_57_rows, .int v_wrongKind, .int v_wrongPlace, .int v_readWords, .int v_readPassages, .ref a_readLetter, .ref a_readCue, .ref a_readPassage, .ref a_held])), (a_w, .inl (cI, 510, .inl v_w_22)), (a_past, .inl (cI, 4080, .inl v_past)), (a_images, .inl (cI, 1020, .inl v_images)), (a_text, .inl (cI, 140, .inl v_text)), (a_rowOf, .inl (cI, 120, .inl u_57_rowOf)), (a_readLetter, .inl (cI, 120, .inl v_readLetter)), (a_readCue, .inl (cI, 120, .inl v_readCue)), (a_readPassage, .inl (cI, 120, .inl v_readPassage)), (a_held, .inl (cI, 510, .inl v_held))] H := hP
        have hD : va_D A [(aM, .inr (4, [.ref a_w, .ref a_past, .int v_pastMany_22, .ref a_images, .int v_filled, .ref a_text, .int v_length, .int v_faultKind, .int v_faultPlace, .ref a_rowOf, .int u_57_rows, .int v_wrongKind, .int v_wrongPlace, .int v_readWords, .int v_readPassages, .ref a_readLetter, .ref a_readCue, .ref a_readPassage, .ref a_held])), (a_w, .inl (cI, 510, .inl v_w_22)), (a_past, .inl (cI, 4080, .inl v_past)), (a_images, .inl (cI, 1020, .inl v_images)), (a_text, .inl (cI, 140, .inl v_text)), (a_rowOf, .inl (cI, 120, .inl u_57_rowOf)), (a_readLetter, .inl (cI, 120, .inl v_readLetter)), (a_readCue, .inl (cI, 120, .inl v_readCue)), (a_readPassage, .inl (cI, 120, .inl v_readPassage)), (a_held, .inl (cI, 510, .inl v_held))] := hD
        refine lv_aload_n hx hb dX4_undo_60 rfl (lv_at hl 0 rfl) ?_
        refine va_get (D := (dC, dI)) (ci := 4) (v := .int v_pastMany_22) (C := RX4) (T := TX4) (N := 19) hx hb hts inX4 hown hK hP 0 rfl rfl 2 (by decide) fl47 (fun _ h9 => h9) rfl dX4_undo_61 ?_
        have hF : some (v_pastMany_22, v_w_22, v_pastMany_22, u_57_rowOf, u_57_rows) = some (r, o_w, o_pastMany, o_rowOf, o_rows) := hF
        have hP9 := hP
        have hD9 := hD
        cases hF
        subst hQ
        subst hAe
        exact W.iret hx hb hr (fun t ht hW => ⟨⟨_, (), rfl, rfl, ⟨by rw [ht]; exact hP9, hD9⟩⟩, hS.F ht⟩) hS.2.2 dX4_undo_64
      · have hF := (if_neg c_26).symm.trans hF
        refine lv_aload_n hx hb dX4_undo_29 rfl (lv_at hl 0 rfl) ?_
        refine va_get (D := (dC, dI)) (ci := 4) (v := .ref a_w) (C := RX4) (T := TX4) (N := 19) hx hb hts inX4 hown hK hP 0 rfl rfl 0 (by decide) fl7 (fun _ h9 => h9) rfl dX4_undo_30 ?_
        refine lv_iload_n hx hb dX4_undo_33 rfl (lv_at hl 1 rfl) ?_
        refine lv_aload_n hx hb dX4_undo_34 rfl (lv_at hl 0 rfl) ?_
        refine va_get (D := (dC, dI)) (ci := 4) (v := .ref a_past) (C := RX4) (T := TX4) (N := 19) hx hb hts inX4 hown hK hP 0 rfl rfl 1 (by decide) fl13 (fun _ h9 => h9) rfl dX4_undo_35 ?_
        refine lv_sipush (v := (510 : Int32)) hx hb dX4_undo_38 (by decide) ?_
        refine lv_aload_n hx hb dX4_undo_41 rfl (lv_at hl 0 rfl) ?_
        refine va_get (D := (dC, dI)) (ci := 4) (v := .int v_pastMany_22) (C := RX4) (T := TX4) (N := 19) hx hb hts inX4 hown hK hP 0 rfl rfl 2 (by decide) fl47 (fun _ h9 => h9) rfl dX4_undo_42 ?_
        refine lv_imul hx hb dX4_undo_45 ?_
        refine lv_iload_n hx hb dX4_undo_46 rfl (lv_at hl 1 rfl) ?_
        refine lv_iadd hx hb dX4_undo_47 ?_
        by_cases b_48 : ((((510 : Int32) * v_pastMany_22) + x1_22) < 0 ∨ 4080 ≤ ((((510 : Int32) * v_pastMany_22) + x1_22)).toNatClampNeg)
        · exact noneE ((if_pos b_48).symm.trans hF)
        have hF := (if_neg b_48).symm.trans hF
        refine va_iald hx hb hK hP 2 0 rfl rfl b_48 dX4_undo_48 ?_
        by_cases b_49 : (x1_22 < 0 ∨ 510 ≤ x1_22.toNatClampNeg)
        · exact noneE ((if_pos b_49).symm.trans hF)
        have hF := (if_neg b_49).symm.trans hF
        refine va_iast hx hb hK hP hD hS 1 0 rfl rfl b_49 dX4_undo_49 (fun H locs hP hD hS => ?_)
        have hP : va_P (dC, dI) vwCl [(aM, .inr (4, [.ref a_w, .ref a_past, .int v_pastMany_22, .ref a_images, .int v_filled, .ref a_text, .int v_length, .int v_faultKind, .int v_faultPlace, .ref a_rowOf, .int v_rows_22, .int v_wrongKind, .int v_wrongPlace, .int v_readWords, .int v_readPassages, .ref a_readLetter, .ref a_readCue, .ref a_readPassage, .ref a_held])), (a_w, .inl (cI, 510, .inl (upd v_w_22 x1_22.toNatClampNeg (v_past (((((510 : Int32) * v_pastMany_22) + x1_22)).toNatClampNeg))))), (a_past, .inl (cI, 4080, .inl v_past)), (a_images, .inl (cI, 1020, .inl v_images)), (a_text, .inl (cI, 140, .inl v_text)), (a_rowOf, .inl (cI, 120, .inl v_rowOf_22)), (a_readLetter, .inl (cI, 120, .inl v_readLetter)), (a_readCue, .inl (cI, 120, .inl v_readCue)), (a_readPassage, .inl (cI, 120, .inl v_readPassage)), (a_held, .inl (cI, 510, .inl v_held))] H := hP
        have hD : va_D A [(aM, .inr (4, [.ref a_w, .ref a_past, .int v_pastMany_22, .ref a_images, .int v_filled, .ref a_text, .int v_length, .int v_faultKind, .int v_faultPlace, .ref a_rowOf, .int v_rows_22, .int v_wrongKind, .int v_wrongPlace, .int v_readWords, .int v_readPassages, .ref a_readLetter, .ref a_readCue, .ref a_readPassage, .ref a_held])), (a_w, .inl (cI, 510, .inl (upd v_w_22 x1_22.toNatClampNeg (v_past (((((510 : Int32) * v_pastMany_22) + x1_22)).toNatClampNeg))))), (a_past, .inl (cI, 4080, .inl v_past)), (a_images, .inl (cI, 1020, .inl v_images)), (a_text, .inl (cI, 140, .inl v_text)), (a_rowOf, .inl (cI, 120, .inl v_rowOf_22)), (a_readLetter, .inl (cI, 120, .inl v_readLetter)), (a_readCue, .inl (cI, 120, .inl v_readCue)), (a_readPassage, .inl (cI, 120, .inl v_readPassage)), (a_held, .inl (cI, 510, .inl v_held))] := hD
        refine lv_iinc (v := (x1_22 + 1)) (lv' := [(1, .int (x1_22 + 1)), (0, .ref aM)]) hx hb dX4_undo_50 hl (k := 1) rfl rfl (by decide) rfl (fun ls hl => ?_)
        refine lv_goto (tgt := 22) hx hb dX4_undo_53 (by decide) ?_
        exact ih22 v_pastMany_22 v_rowOf_22 v_rows_22 (x1_22 + 1) (upd v_w_22 x1_22.toNatClampNeg (v_past (((((510 : Int32) * v_pastMany_22) + x1_22)).toNatClampNeg))) hF _ _ hP hD hS _ (lv_sub hl [1, 0] rfl)
  unfold f_X4_undo at hF
  refine lv_aload_n hx hb dX4_undo_0 rfl (lv_at hl 0 rfl) ?_
  refine va_get (D := (dC, dI)) (ci := 4) (v := .int v_pastMany) (C := RX4) (T := TX4) (N := 19) hx hb hts inX4 hown hK hP 0 rfl rfl 2 (by decide) fl47 (fun _ h9 => h9) rfl dX4_undo_1 ?_
  refine lv_if_ne (tgt := 10) hx hb dX4_undo_4 (by decide) (fun c_4 => ?_) (fun c_4 => ?_)
  · have hF := (if_neg c_4).symm.trans hF
    refine lv_aload_n hx hb dX4_undo_10 rfl (lv_at hl 0 rfl) ?_
    refine lv_dup hx hb dX4_undo_11 rfl ?_
    refine va_get (D := (dC, dI)) (ci := 4) (v := .int v_pastMany) (C := RX4) (T := TX4) (N := 19) hx hb hts inX4 hown hK hP 0 rfl rfl 2 (by decide) fl47 (fun _ h9 => h9) rfl dX4_undo_12 ?_
    refine lv_iconst (v := (1 : Int32)) hx hb dX4_undo_15 (by decide) ?_
    refine lv_isub hx hb dX4_undo_16 ?_
    refine va_put (D := (dC, dI)) (ci := 4) (v := .int (v_pastMany - (1 : Int32))) (ty := .int) (C := RX4) (T := TX4) (N := 19) hx hb hts inX4 tyX4 tyX4_ok nmX4 hown hK hP hD hS 0 rfl rfl 2 (by decide) fl47 (fun _ h9 => h9) rfl (by decide +kernel) rfl rfl (Nat.le_of_ble_eq_true rfl) dX4_undo_17 (fun H locs hP hD hS => ?_)
    have hP : va_P (dC, dI) vwCl [(aM, .inr (4, [.ref a_w, .ref a_past, .int (v_pastMany - (1 : Int32)), .ref a_images, .int v_filled, .ref a_text, .int v_length, .int v_faultKind, .int v_faultPlace, .ref a_rowOf, .int v_rows, .int v_wrongKind, .int v_wrongPlace, .int v_readWords, .int v_readPassages, .ref a_readLetter, .ref a_readCue, .ref a_readPassage, .ref a_held])), (a_w, .inl (cI, 510, .inl v_w)), (a_past, .inl (cI, 4080, .inl v_past)), (a_images, .inl (cI, 1020, .inl v_images)), (a_text, .inl (cI, 140, .inl v_text)), (a_rowOf, .inl (cI, 120, .inl v_rowOf)), (a_readLetter, .inl (cI, 120, .inl v_readLetter)), (a_readCue, .inl (cI, 120, .inl v_readCue)), (a_readPassage, .inl (cI, 120, .inl v_readPassage)), (a_held, .inl (cI, 510, .inl v_held))] H := hP
    have hD : va_D A [(aM, .inr (4, [.ref a_w, .ref a_past, .int (v_pastMany - (1 : Int32)), .ref a_images, .int v_filled, .ref a_text, .int v_length, .int v_faultKind, .int v_faultPlace, .ref a_rowOf, .int v_rows, .int v_wrongKind, .int v_wrongPlace, .int v_readWords, .int v_readPassages, .ref a_readLetter, .ref a_readCue, .ref a_readPassage, .ref a_held])), (a_w, .inl (cI, 510, .inl v_w)), (a_past, .inl (cI, 4080, .inl v_past)), (a_images, .inl (cI, 1020, .inl v_images)), (a_text, .inl (cI, 140, .inl v_text)), (a_rowOf, .inl (cI, 120, .inl v_rowOf)), (a_readLetter, .inl (cI, 120, .inl v_readLetter)), (a_readCue, .inl (cI, 120, .inl v_readCue)), (a_readPassage, .inl (cI, 120, .inl v_readPassage)), (a_held, .inl (cI, 510, .inl v_held))] := hD
    refine lv_iconst (v := (0 : Int32)) hx hb dX4_undo_20 (by decide) ?_
    refine lv_istore_n (lv' := [(1, .int (0 : Int32)), (0, .ref aM)]) hx hb dX4_undo_21 rfl hl (by decide) rfl (fun ls hl => ?_)
    exact B22 gas (v_pastMany - (1 : Int32)) v_rowOf v_rows (0 : Int32) v_w hF _ _ hP hD hS _ (lv_sub hl [1, 0] rfl)
  · have hF := (if_pos c_4).symm.trans hF
    refine lv_bipush (v := (-2 : Int32)) hx hb dX4_undo_7 (by decide) ?_
    have hF : some ((-2 : Int32), v_w, v_pastMany, v_rowOf, v_rows) = some (r, o_w, o_pastMany, o_rowOf, o_rows) := hF
    have hP9 := hP
    have hD9 := hD
    cases hF
    subst hQ
    subst hAe
    exact W.iret hx hb hr (fun t ht hW => ⟨⟨_, (), rfl, rfl, ⟨by rw [ht]; exact hP9, hD9⟩⟩, hS.F ht⟩) hS.2.2 dX4_undo_9
def f_X4_hold_2 (v_w : (Nat → Int32)) : Nat → Int32 → (Nat → Int32) → Option (Nat → Int32)
  | 0, _, _ => none
  | n + 1, x1, v_held =>
    if (510 : Int32) ≤ x1 then
      some v_held
    else
      if x1 < 0 ∨ 510 ≤ x1.toNatClampNeg then none else
      if x1 < 0 ∨ 510 ≤ x1.toNatClampNeg then none else
      f_X4_hold_2 v_w n (x1 + 1) (upd v_held x1.toNatClampNeg (v_w x1.toNatClampNeg))
def f_X4_hold (v_w : (Nat → Int32)) (v_held : (Nat → Int32)) : Option (Nat → Int32) :=
  f_X4_hold_2 v_w gas (0 : Int32) v_held
def rm_X4_hold : Room := { frames := 0, cells := 0, slots := 0, locals := 0 }
set_option maxHeartbeats 4000000 in
set_option maxRecDepth 100000 in
theorem c_X4_hold (l : Launch) (dC : Nat → ClassId) (dI : Nat → Nat → Nat) (cI cZ cO : ClassId) (aM a_w a_past a_images a_text a_rowOf a_readLetter a_readCue a_readPassage a_held : Nat) (sz : Nat) (v_w : (Nat → Int32)) (v_past : (Nat → Int32)) (v_pastMany : Int32) (v_images : (Nat → Int32)) (v_filled : Int32) (v_text : (Nat → Int32)) (v_length : Int32) (v_faultKind : Int32) (v_faultPlace : Int32) (v_rowOf : (Nat → Int32)) (v_rows : Int32) (v_wrongKind : Int32) (v_wrongPlace : Int32) (v_readWords : Int32) (v_readPassages : Int32) (v_readLetter : (Nat → Int32)) (v_readCue : (Nat → Int32)) (v_readPassage : (Nat → Int32)) (v_held : (Nat → Int32)) (o_held : (Nat → Int32)) (hF : f_X4_hold v_w v_held = some o_held) : Met l yX4_hold wsX4_hold rm_X4_hold (va_Pc [.ref aM] (wrW dC dI cI cZ cO sz [(aM, .inr (4, [.ref a_w, .ref a_past, .int v_pastMany, .ref a_images, .int v_filled, .ref a_text, .int v_length, .int v_faultKind, .int v_faultPlace, .ref a_rowOf, .int v_rows, .int v_wrongKind, .int v_wrongPlace, .int v_readWords, .int v_readPassages, .ref a_readLetter, .ref a_readCue, .ref a_readPassage, .ref a_held])), (a_w, .inl (cI, 510, .inl v_w)), (a_past, .inl (cI, 4080, .inl v_past)), (a_images, .inl (cI, 1020, .inl v_images)), (a_text, .inl (cI, 140, .inl v_text)), (a_rowOf, .inl (cI, 120, .inl v_rowOf)), (a_readLetter, .inl (cI, 120, .inl v_readLetter)), (a_readCue, .inl (cI, 120, .inl v_readCue)), (a_readPassage, .inl (cI, 120, .inl v_readPassage)), (a_held, .inl (cI, 510, .inl v_held))])) (va_Qv (fun (_ : Unit) => True) (wrE dC dI [(aM, .inr (4, [.ref a_w, .ref a_past, .int v_pastMany, .ref a_images, .int v_filled, .ref a_text, .int v_length, .int v_faultKind, .int v_faultPlace, .ref a_rowOf, .int v_rows, .int v_wrongKind, .int v_wrongPlace, .int v_readWords, .int v_readPassages, .ref a_readLetter, .ref a_readCue, .ref a_readPassage, .ref a_held])), (a_w, .inl (cI, 510, .inl v_w)), (a_past, .inl (cI, 4080, .inl v_past)), (a_images, .inl (cI, 1020, .inl v_images)), (a_text, .inl (cI, 140, .inl v_text)), (a_rowOf, .inl (cI, 120, .inl v_rowOf)), (a_readLetter, .inl (cI, 120, .inl v_readLetter)), (a_readCue, .inl (cI, 120, .inl v_readCue)), (a_readPassage, .inl (cI, 120, .inl v_readPassage)), (a_held, .inl (cI, 510, .inl v_held))] sz [(aM, .inr (4, [.ref a_w, .ref a_past, .int v_pastMany, .ref a_images, .int v_filled, .ref a_text, .int v_length, .int v_faultKind, .int v_faultPlace, .ref a_rowOf, .int v_rows, .int v_wrongKind, .int v_wrongPlace, .int v_readWords, .int v_readPassages, .ref a_readLetter, .ref a_readCue, .ref a_readPassage, .ref a_held])), (a_w, .inl (cI, 510, .inl v_w)), (a_past, .inl (cI, 4080, .inl v_past)), (a_images, .inl (cI, 1020, .inl v_images)), (a_text, .inl (cI, 140, .inl v_text)), (a_rowOf, .inl (cI, 120, .inl v_rowOf)), (a_readLetter, .inl (cI, 120, .inl v_readLetter)), (a_readCue, .inl (cI, 120, .inl v_readCue)), (a_readPassage, .inl (cI, 120, .inl v_readPassage)), (a_held, .inl (cI, 510, .inl o_held))]) (va_A [(aM, .inr (4, [.ref a_w, .ref a_past, .int v_pastMany, .ref a_images, .int v_filled, .ref a_text, .int v_length, .int v_faultKind, .int v_faultPlace, .ref a_rowOf, .int v_rows, .int v_wrongKind, .int v_wrongPlace, .int v_readWords, .int v_readPassages, .ref a_readLetter, .ref a_readCue, .ref a_readPassage, .ref a_held])), (a_w, .inl (cI, 510, .inl v_w)), (a_past, .inl (cI, 4080, .inl v_past)), (a_images, .inl (cI, 1020, .inl v_images)), (a_text, .inl (cI, 140, .inl v_text)), (a_rowOf, .inl (cI, 120, .inl v_rowOf)), (a_readLetter, .inl (cI, 120, .inl v_readLetter)), (a_readCue, .inl (cI, 120, .inl v_readCue)), (a_readPassage, .inl (cI, 120, .inl v_readPassage)), (a_held, .inl (cI, 510, .inl v_held))] sz)) 0 0 (va_A [(aM, .inr (4, [.ref a_w, .ref a_past, .int v_pastMany, .ref a_images, .int v_filled, .ref a_text, .int v_length, .int v_faultKind, .int v_faultPlace, .ref a_rowOf, .int v_rows, .int v_wrongKind, .int v_wrongPlace, .int v_readWords, .int v_readPassages, .ref a_readLetter, .ref a_readCue, .ref a_readPassage, .ref a_held])), (a_w, .inl (cI, 510, .inl v_w)), (a_past, .inl (cI, 4080, .inl v_past)), (a_images, .inl (cI, 1020, .inl v_images)), (a_text, .inl (cI, 140, .inl v_text)), (a_rowOf, .inl (cI, 120, .inl v_rowOf)), (a_readLetter, .inl (cI, 120, .inl v_readLetter)), (a_readCue, .inl (cI, 120, .inl v_readCue)), (a_readPassage, .inl (cI, 120, .inl v_readPassage)), (a_held, .inl (cI, 510, .inl v_held))] sz) := by
  refine Met.ofW (cc := cX4_hold) (maxL := 2) (ret := none) (by decide) rfl ?_
  intro p e s m args below meth c s₁ B hml hv
  obtain ⟨rfl, hsz, hP, hK, hN, hD0⟩ := hv
  have hx := B.exec
  have hb := B.bytes
  have hr := B.returns
  have hts := atoms_spec (ws := wsX4_hold) B.pre
  have hown : s.vm.findClass RX4 = some m.cls := findClass_of_methodNamed B.named
  have hlocks := B.notSynchronized
  subst hsz
  have hD := hD0.self (sz := s.heap.size)
  obtain ⟨Q, hQ⟩ : ∃ Q, Q = MQ below (va_Qv (fun (_ : Unit) => True) (wrE dC dI [(aM, .inr (4, [.ref a_w, .ref a_past, .int v_pastMany, .ref a_images, .int v_filled, .ref a_text, .int v_length, .int v_faultKind, .int v_faultPlace, .ref a_rowOf, .int v_rows, .int v_wrongKind, .int v_wrongPlace, .int v_readWords, .int v_readPassages, .ref a_readLetter, .ref a_readCue, .ref a_readPassage, .ref a_held])), (a_w, .inl (cI, 510, .inl v_w)), (a_past, .inl (cI, 4080, .inl v_past)), (a_images, .inl (cI, 1020, .inl v_images)), (a_text, .inl (cI, 140, .inl v_text)), (a_rowOf, .inl (cI, 120, .inl v_rowOf)), (a_readLetter, .inl (cI, 120, .inl v_readLetter)), (a_readCue, .inl (cI, 120, .inl v_readCue)), (a_readPassage, .inl (cI, 120, .inl v_readPassage)), (a_held, .inl (cI, 510, .inl v_held))] s.heap.size [(aM, .inr (4, [.ref a_w, .ref a_past, .int v_pastMany, .ref a_images, .int v_filled, .ref a_text, .int v_length, .int v_faultKind, .int v_faultPlace, .ref a_rowOf, .int v_rows, .int v_wrongKind, .int v_wrongPlace, .int v_readWords, .int v_readPassages, .ref a_readLetter, .ref a_readCue, .ref a_readPassage, .ref a_held])), (a_w, .inl (cI, 510, .inl v_w)), (a_past, .inl (cI, 4080, .inl v_past)), (a_images, .inl (cI, 1020, .inl v_images)), (a_text, .inl (cI, 140, .inl v_text)), (a_rowOf, .inl (cI, 120, .inl v_rowOf)), (a_readLetter, .inl (cI, 120, .inl v_readLetter)), (a_readCue, .inl (cI, 120, .inl v_readCue)), (a_readPassage, .inl (cI, 120, .inl v_readPassage)), (a_held, .inl (cI, 510, .inl o_held))]) (va_A [(aM, .inr (4, [.ref a_w, .ref a_past, .int v_pastMany, .ref a_images, .int v_filled, .ref a_text, .int v_length, .int v_faultKind, .int v_faultPlace, .ref a_rowOf, .int v_rows, .int v_wrongKind, .int v_wrongPlace, .int v_readWords, .int v_readPassages, .ref a_readLetter, .ref a_readCue, .ref a_readPassage, .ref a_held])), (a_w, .inl (cI, 510, .inl v_w)), (a_past, .inl (cI, 4080, .inl v_past)), (a_images, .inl (cI, 1020, .inl v_images)), (a_text, .inl (cI, 140, .inl v_text)), (a_rowOf, .inl (cI, 120, .inl v_rowOf)), (a_readLetter, .inl (cI, 120, .inl v_readLetter)), (a_readCue, .inl (cI, 120, .inl v_readCue)), (a_readPassage, .inl (cI, 120, .inl v_readPassage)), (a_held, .inl (cI, 510, .inl v_held))] s.heap.size)) ([.ref aM] : List Value).toArray s 0 0 (va_A [(aM, .inr (4, [.ref a_w, .ref a_past, .int v_pastMany, .ref a_images, .int v_filled, .ref a_text, .int v_length, .int v_faultKind, .int v_faultPlace, .ref a_rowOf, .int v_rows, .int v_wrongKind, .int v_wrongPlace, .int v_readWords, .int v_readPassages, .ref a_readLetter, .ref a_readCue, .ref a_readPassage, .ref a_held])), (a_w, .inl (cI, 510, .inl v_w)), (a_past, .inl (cI, 4080, .inl v_past)), (a_images, .inl (cI, 1020, .inl v_images)), (a_text, .inl (cI, 140, .inl v_text)), (a_rowOf, .inl (cI, 120, .inl v_rowOf)), (a_readLetter, .inl (cI, 120, .inl v_readLetter)), (a_readCue, .inl (cI, 120, .inl v_readCue)), (a_readPassage, .inl (cI, 120, .inl v_readPassage)), (a_held, .inl (cI, 510, .inl v_held))] s.heap.size) := ⟨_, rfl⟩
  rw [← hQ]
  obtain ⟨A, hAe⟩ : ∃ A, A = va_A [(aM, .inr (4, [.ref a_w, .ref a_past, .int v_pastMany, .ref a_images, .int v_filled, .ref a_text, .int v_length, .int v_faultKind, .int v_faultPlace, .ref a_rowOf, .int v_rows, .int v_wrongKind, .int v_wrongPlace, .int v_readWords, .int v_readPassages, .ref a_readLetter, .ref a_readCue, .ref a_readPassage, .ref a_held])), (a_w, .inl (cI, 510, .inl v_w)), (a_past, .inl (cI, 4080, .inl v_past)), (a_images, .inl (cI, 1020, .inl v_images)), (a_text, .inl (cI, 140, .inl v_text)), (a_rowOf, .inl (cI, 120, .inl v_rowOf)), (a_readLetter, .inl (cI, 120, .inl v_readLetter)), (a_readCue, .inl (cI, 120, .inl v_readCue)), (a_readPassage, .inl (cI, 120, .inl v_readPassage)), (a_held, .inl (cI, 510, .inl v_held))] s.heap.size := ⟨_, rfl⟩
  rw [← hAe] at hD
  have hA : ∀ q : Nat, s.heap.size ≤ q → A q := fun q h => by rw [hAe]; exact Or.inr h
  obtain ⟨H, hH⟩ : ∃ H, H = s.heap := ⟨_, rfl⟩
  have hS : va_S A s.heap H [] := by rw [hH]; exact va_S.rf
  rw [← hH] at hP
  rw [← hH]
  have fl41 := hts (.fieldLink RX4 41 "TeleprompterModel" "held" "[I") (by decide +kernel)
  have fl7 := hts (.fieldLink RX4 7 "TeleprompterModel" "w" "[I") (by decide +kernel)
  have inX4 : ∀ w ∈ u_ws RX4 TX4 19, w ∈ wsX4_hold := by decide +kernel
  have hl := lv_entry ([.ref aM]) (n := 2) (Nat.le_of_ble_eq_true rfl)
  rw [lg_entry_eq]
  generalize (lg_sl ([.ref aM]) ++ List.replicate (2 - (lg_sl ([.ref aM])).length) Slot.unset).toArray = ls at hl ⊢
  have hl : lv_has ls 2 [(0, .ref aM)] := hl
  have B2 : ∀ (n_2 : Nat) (x1_2 : Int32) (v_held_2 : (Nat → Int32)), f_X4_hold_2 v_w n_2 x1_2 v_held_2 = some o_held → ∀ (H : Heap) (locs : List Loc), va_P (dC, dI) vwCl [(aM, .inr (4, [.ref a_w, .ref a_past, .int v_pastMany, .ref a_images, .int v_filled, .ref a_text, .int v_length, .int v_faultKind, .int v_faultPlace, .ref a_rowOf, .int v_rows, .int v_wrongKind, .int v_wrongPlace, .int v_readWords, .int v_readPassages, .ref a_readLetter, .ref a_readCue, .ref a_readPassage, .ref a_held])), (a_w, .inl (cI, 510, .inl v_w)), (a_past, .inl (cI, 4080, .inl v_past)), (a_images, .inl (cI, 1020, .inl v_images)), (a_text, .inl (cI, 140, .inl v_text)), (a_rowOf, .inl (cI, 120, .inl v_rowOf)), (a_readLetter, .inl (cI, 120, .inl v_readLetter)), (a_readCue, .inl (cI, 120, .inl v_readCue)), (a_readPassage, .inl (cI, 120, .inl v_readPassage)), (a_held, .inl (cI, 510, .inl v_held_2))] H → va_D A [(aM, .inr (4, [.ref a_w, .ref a_past, .int v_pastMany, .ref a_images, .int v_filled, .ref a_text, .int v_length, .int v_faultKind, .int v_faultPlace, .ref a_rowOf, .int v_rows, .int v_wrongKind, .int v_wrongPlace, .int v_readWords, .int v_readPassages, .ref a_readLetter, .ref a_readCue, .ref a_readPassage, .ref a_held])), (a_w, .inl (cI, 510, .inl v_w)), (a_past, .inl (cI, 4080, .inl v_past)), (a_images, .inl (cI, 1020, .inl v_images)), (a_text, .inl (cI, 140, .inl v_text)), (a_rowOf, .inl (cI, 120, .inl v_rowOf)), (a_readLetter, .inl (cI, 120, .inl v_readLetter)), (a_readCue, .inl (cI, 120, .inl v_readCue)), (a_readPassage, .inl (cI, 120, .inl v_readPassage)), (a_held, .inl (cI, 510, .inl v_held_2))] → va_S A s.heap H locs → ∀ ls : Array Slot, lv_has ls 2 [(0, .ref aM), (1, .int x1_2)] → W p l e (headSpec wsX4_hold rm_X4_hold).room s m ([.ref aM] : List Value).toArray below meth c H locs 0 0 Q (F0 m 2 ls []) := by
    intro n_2
    induction n_2 with
    | zero => intro x1_2 v_held_2 hF; exact noneE hF
    | succ n_2 ih2 =>
      intro x1_2 v_held_2 hF H locs hP hD hS ls hl
      rw [f_X4_hold_2] at hF
      refine lv_iload_n hx hb dX4_hold_2 rfl (lv_at hl 1 rfl) ?_
      refine lv_sipush (v := (510 : Int32)) hx hb dX4_hold_3 (by decide) ?_
      refine lv_icmp_ge (tgt := 27) hx hb dX4_hold_6 (by decide) (fun c_6 => ?_) (fun c_6 => ?_)
      · have hF := (if_pos c_6).symm.trans hF
        have hF : some v_held_2 = some o_held := hF
        have hP9 := hP
        have hD9 := hD
        cases hF
        subst hQ
        subst hAe
        exact W.vret hx hb hr (fun t ht hW => ⟨⟨(), rfl, trivial, ⟨by rw [ht]; exact hP9, hD9⟩⟩, hS.F ht⟩) hS.2.2 dX4_hold_27
      · have hF := (if_neg c_6).symm.trans hF
        refine lv_aload_n hx hb dX4_hold_9 rfl (lv_at hl 0 rfl) ?_
        refine va_get (D := (dC, dI)) (ci := 4) (v := .ref a_held) (C := RX4) (T := TX4) (N := 19) hx hb hts inX4 hown hK hP 0 rfl rfl 18 (by decide) fl41 (fun _ h9 => h9) rfl dX4_hold_10 ?_
        refine lv_iload_n hx hb dX4_hold_13 rfl (lv_at hl 1 rfl) ?_
        refine lv_aload_n hx hb dX4_hold_14 rfl (lv_at hl 0 rfl) ?_
        refine va_get (D := (dC, dI)) (ci := 4) (v := .ref a_w) (C := RX4) (T := TX4) (N := 19) hx hb hts inX4 hown hK hP 0 rfl rfl 0 (by decide) fl7 (fun _ h9 => h9) rfl dX4_hold_15 ?_
        refine lv_iload_n hx hb dX4_hold_18 rfl (lv_at hl 1 rfl) ?_
        by_cases b_19 : (x1_2 < 0 ∨ 510 ≤ x1_2.toNatClampNeg)
        · exact noneE ((if_pos b_19).symm.trans hF)
        have hF := (if_neg b_19).symm.trans hF
        refine va_iald hx hb hK hP 1 0 rfl rfl b_19 dX4_hold_19 ?_
        by_cases b_20 : (x1_2 < 0 ∨ 510 ≤ x1_2.toNatClampNeg)
        · exact noneE ((if_pos b_20).symm.trans hF)
        have hF := (if_neg b_20).symm.trans hF
        refine va_iast hx hb hK hP hD hS 9 0 rfl rfl b_20 dX4_hold_20 (fun H locs hP hD hS => ?_)
        have hP : va_P (dC, dI) vwCl [(aM, .inr (4, [.ref a_w, .ref a_past, .int v_pastMany, .ref a_images, .int v_filled, .ref a_text, .int v_length, .int v_faultKind, .int v_faultPlace, .ref a_rowOf, .int v_rows, .int v_wrongKind, .int v_wrongPlace, .int v_readWords, .int v_readPassages, .ref a_readLetter, .ref a_readCue, .ref a_readPassage, .ref a_held])), (a_w, .inl (cI, 510, .inl v_w)), (a_past, .inl (cI, 4080, .inl v_past)), (a_images, .inl (cI, 1020, .inl v_images)), (a_text, .inl (cI, 140, .inl v_text)), (a_rowOf, .inl (cI, 120, .inl v_rowOf)), (a_readLetter, .inl (cI, 120, .inl v_readLetter)), (a_readCue, .inl (cI, 120, .inl v_readCue)), (a_readPassage, .inl (cI, 120, .inl v_readPassage)), (a_held, .inl (cI, 510, .inl (upd v_held_2 x1_2.toNatClampNeg (v_w x1_2.toNatClampNeg))))] H := hP
        have hD : va_D A [(aM, .inr (4, [.ref a_w, .ref a_past, .int v_pastMany, .ref a_images, .int v_filled, .ref a_text, .int v_length, .int v_faultKind, .int v_faultPlace, .ref a_rowOf, .int v_rows, .int v_wrongKind, .int v_wrongPlace, .int v_readWords, .int v_readPassages, .ref a_readLetter, .ref a_readCue, .ref a_readPassage, .ref a_held])), (a_w, .inl (cI, 510, .inl v_w)), (a_past, .inl (cI, 4080, .inl v_past)), (a_images, .inl (cI, 1020, .inl v_images)), (a_text, .inl (cI, 140, .inl v_text)), (a_rowOf, .inl (cI, 120, .inl v_rowOf)), (a_readLetter, .inl (cI, 120, .inl v_readLetter)), (a_readCue, .inl (cI, 120, .inl v_readCue)), (a_readPassage, .inl (cI, 120, .inl v_readPassage)), (a_held, .inl (cI, 510, .inl (upd v_held_2 x1_2.toNatClampNeg (v_w x1_2.toNatClampNeg))))] := hD
        refine lv_iinc (v := (x1_2 + 1)) (lv' := [(1, .int (x1_2 + 1)), (0, .ref aM)]) hx hb dX4_hold_21 hl (k := 1) rfl rfl (by decide) rfl (fun ls hl => ?_)
        refine lv_goto (tgt := 2) hx hb dX4_hold_24 (by decide) ?_
        exact ih2 (x1_2 + 1) (upd v_held_2 x1_2.toNatClampNeg (v_w x1_2.toNatClampNeg)) hF _ _ hP hD hS _ (lv_sub hl [1, 0] rfl)
  unfold f_X4_hold at hF
  refine lv_iconst (v := (0 : Int32)) hx hb dX4_hold_0 (by decide) ?_
  refine lv_istore_n (lv' := [(1, .int (0 : Int32)), (0, .ref aM)]) hx hb dX4_hold_1 rfl hl (by decide) rfl (fun ls hl => ?_)
  exact B2 gas (0 : Int32) v_held hF _ _ hP hD hS _ (lv_sub hl [1, 0] rfl)
def f_X4_restore_2 (v_held : (Nat → Int32)) : Nat → Int32 → (Nat → Int32) → Option (Nat → Int32)
  | 0, _, _ => none
  | n + 1, x1, v_w =>
    if (510 : Int32) ≤ x1 then
      some v_w
    else
      if x1 < 0 ∨ 510 ≤ x1.toNatClampNeg then none else
      if x1 < 0 ∨ 510 ≤ x1.toNatClampNeg then none else
      f_X4_restore_2 v_held n (x1 + 1) (upd v_w x1.toNatClampNeg (v_held x1.toNatClampNeg))
def f_X4_restore (v_w : (Nat → Int32)) (v_held : (Nat → Int32)) : Option (Nat → Int32) :=
  f_X4_restore_2 v_held gas (0 : Int32) v_w
def rm_X4_restore : Room := { frames := 0, cells := 0, slots := 0, locals := 0 }
set_option maxHeartbeats 4000000 in
set_option maxRecDepth 100000 in
theorem c_X4_restore (l : Launch) (dC : Nat → ClassId) (dI : Nat → Nat → Nat) (cI cZ cO : ClassId) (aM a_w a_past a_images a_text a_rowOf a_readLetter a_readCue a_readPassage a_held : Nat) (sz : Nat) (v_w : (Nat → Int32)) (v_past : (Nat → Int32)) (v_pastMany : Int32) (v_images : (Nat → Int32)) (v_filled : Int32) (v_text : (Nat → Int32)) (v_length : Int32) (v_faultKind : Int32) (v_faultPlace : Int32) (v_rowOf : (Nat → Int32)) (v_rows : Int32) (v_wrongKind : Int32) (v_wrongPlace : Int32) (v_readWords : Int32) (v_readPassages : Int32) (v_readLetter : (Nat → Int32)) (v_readCue : (Nat → Int32)) (v_readPassage : (Nat → Int32)) (v_held : (Nat → Int32)) (o_w : (Nat → Int32)) (hF : f_X4_restore v_w v_held = some o_w) : Met l yX4_restore wsX4_restore rm_X4_restore (va_Pc [.ref aM] (wrW dC dI cI cZ cO sz [(aM, .inr (4, [.ref a_w, .ref a_past, .int v_pastMany, .ref a_images, .int v_filled, .ref a_text, .int v_length, .int v_faultKind, .int v_faultPlace, .ref a_rowOf, .int v_rows, .int v_wrongKind, .int v_wrongPlace, .int v_readWords, .int v_readPassages, .ref a_readLetter, .ref a_readCue, .ref a_readPassage, .ref a_held])), (a_w, .inl (cI, 510, .inl v_w)), (a_past, .inl (cI, 4080, .inl v_past)), (a_images, .inl (cI, 1020, .inl v_images)), (a_text, .inl (cI, 140, .inl v_text)), (a_rowOf, .inl (cI, 120, .inl v_rowOf)), (a_readLetter, .inl (cI, 120, .inl v_readLetter)), (a_readCue, .inl (cI, 120, .inl v_readCue)), (a_readPassage, .inl (cI, 120, .inl v_readPassage)), (a_held, .inl (cI, 510, .inl v_held))])) (va_Qv (fun (_ : Unit) => True) (wrE dC dI [(aM, .inr (4, [.ref a_w, .ref a_past, .int v_pastMany, .ref a_images, .int v_filled, .ref a_text, .int v_length, .int v_faultKind, .int v_faultPlace, .ref a_rowOf, .int v_rows, .int v_wrongKind, .int v_wrongPlace, .int v_readWords, .int v_readPassages, .ref a_readLetter, .ref a_readCue, .ref a_readPassage, .ref a_held])), (a_w, .inl (cI, 510, .inl v_w)), (a_past, .inl (cI, 4080, .inl v_past)), (a_images, .inl (cI, 1020, .inl v_images)), (a_text, .inl (cI, 140, .inl v_text)), (a_rowOf, .inl (cI, 120, .inl v_rowOf)), (a_readLetter, .inl (cI, 120, .inl v_readLetter)), (a_readCue, .inl (cI, 120, .inl v_readCue)), (a_readPassage, .inl (cI, 120, .inl v_readPassage)), (a_held, .inl (cI, 510, .inl v_held))] sz [(aM, .inr (4, [.ref a_w, .ref a_past, .int v_pastMany, .ref a_images, .int v_filled, .ref a_text, .int v_length, .int v_faultKind, .int v_faultPlace, .ref a_rowOf, .int v_rows, .int v_wrongKind, .int v_wrongPlace, .int v_readWords, .int v_readPassages, .ref a_readLetter, .ref a_readCue, .ref a_readPassage, .ref a_held])), (a_w, .inl (cI, 510, .inl o_w)), (a_past, .inl (cI, 4080, .inl v_past)), (a_images, .inl (cI, 1020, .inl v_images)), (a_text, .inl (cI, 140, .inl v_text)), (a_rowOf, .inl (cI, 120, .inl v_rowOf)), (a_readLetter, .inl (cI, 120, .inl v_readLetter)), (a_readCue, .inl (cI, 120, .inl v_readCue)), (a_readPassage, .inl (cI, 120, .inl v_readPassage)), (a_held, .inl (cI, 510, .inl v_held))]) (va_A [(aM, .inr (4, [.ref a_w, .ref a_past, .int v_pastMany, .ref a_images, .int v_filled, .ref a_text, .int v_length, .int v_faultKind, .int v_faultPlace, .ref a_rowOf, .int v_rows, .int v_wrongKind, .int v_wrongPlace, .int v_readWords, .int v_readPassages, .ref a_readLetter, .ref a_readCue, .ref a_readPassage, .ref a_held])), (a_w, .inl (cI, 510, .inl v_w)), (a_past, .inl (cI, 4080, .inl v_past)), (a_images, .inl (cI, 1020, .inl v_images)), (a_text, .inl (cI, 140, .inl v_text)), (a_rowOf, .inl (cI, 120, .inl v_rowOf)), (a_readLetter, .inl (cI, 120, .inl v_readLetter)), (a_readCue, .inl (cI, 120, .inl v_readCue)), (a_readPassage, .inl (cI, 120, .inl v_readPassage)), (a_held, .inl (cI, 510, .inl v_held))] sz)) 0 0 (va_A [(aM, .inr (4, [.ref a_w, .ref a_past, .int v_pastMany, .ref a_images, .int v_filled, .ref a_text, .int v_length, .int v_faultKind, .int v_faultPlace, .ref a_rowOf, .int v_rows, .int v_wrongKind, .int v_wrongPlace, .int v_readWords, .int v_readPassages, .ref a_readLetter, .ref a_readCue, .ref a_readPassage, .ref a_held])), (a_w, .inl (cI, 510, .inl v_w)), (a_past, .inl (cI, 4080, .inl v_past)), (a_images, .inl (cI, 1020, .inl v_images)), (a_text, .inl (cI, 140, .inl v_text)), (a_rowOf, .inl (cI, 120, .inl v_rowOf)), (a_readLetter, .inl (cI, 120, .inl v_readLetter)), (a_readCue, .inl (cI, 120, .inl v_readCue)), (a_readPassage, .inl (cI, 120, .inl v_readPassage)), (a_held, .inl (cI, 510, .inl v_held))] sz) := by
  refine Met.ofW (cc := cX4_restore) (maxL := 2) (ret := none) (by decide) rfl ?_
  intro p e s m args below meth c s₁ B hml hv
  obtain ⟨rfl, hsz, hP, hK, hN, hD0⟩ := hv
  have hx := B.exec
  have hb := B.bytes
  have hr := B.returns
  have hts := atoms_spec (ws := wsX4_restore) B.pre
  have hown : s.vm.findClass RX4 = some m.cls := findClass_of_methodNamed B.named
  have hlocks := B.notSynchronized
  subst hsz
  have hD := hD0.self (sz := s.heap.size)
  obtain ⟨Q, hQ⟩ : ∃ Q, Q = MQ below (va_Qv (fun (_ : Unit) => True) (wrE dC dI [(aM, .inr (4, [.ref a_w, .ref a_past, .int v_pastMany, .ref a_images, .int v_filled, .ref a_text, .int v_length, .int v_faultKind, .int v_faultPlace, .ref a_rowOf, .int v_rows, .int v_wrongKind, .int v_wrongPlace, .int v_readWords, .int v_readPassages, .ref a_readLetter, .ref a_readCue, .ref a_readPassage, .ref a_held])), (a_w, .inl (cI, 510, .inl v_w)), (a_past, .inl (cI, 4080, .inl v_past)), (a_images, .inl (cI, 1020, .inl v_images)), (a_text, .inl (cI, 140, .inl v_text)), (a_rowOf, .inl (cI, 120, .inl v_rowOf)), (a_readLetter, .inl (cI, 120, .inl v_readLetter)), (a_readCue, .inl (cI, 120, .inl v_readCue)), (a_readPassage, .inl (cI, 120, .inl v_readPassage)), (a_held, .inl (cI, 510, .inl v_held))] s.heap.size [(aM, .inr (4, [.ref a_w, .ref a_past, .int v_pastMany, .ref a_images, .int v_filled, .ref a_text, .int v_length, .int v_faultKind, .int v_faultPlace, .ref a_rowOf, .int v_rows, .int v_wrongKind, .int v_wrongPlace, .int v_readWords, .int v_readPassages, .ref a_readLetter, .ref a_readCue, .ref a_readPassage, .ref a_held])), (a_w, .inl (cI, 510, .inl o_w)), (a_past, .inl (cI, 4080, .inl v_past)), (a_images, .inl (cI, 1020, .inl v_images)), (a_text, .inl (cI, 140, .inl v_text)), (a_rowOf, .inl (cI, 120, .inl v_rowOf)), (a_readLetter, .inl (cI, 120, .inl v_readLetter)), (a_readCue, .inl (cI, 120, .inl v_readCue)), (a_readPassage, .inl (cI, 120, .inl v_readPassage)), (a_held, .inl (cI, 510, .inl v_held))]) (va_A [(aM, .inr (4, [.ref a_w, .ref a_past, .int v_pastMany, .ref a_images, .int v_filled, .ref a_text, .int v_length, .int v_faultKind, .int v_faultPlace, .ref a_rowOf, .int v_rows, .int v_wrongKind, .int v_wrongPlace, .int v_readWords, .int v_readPassages, .ref a_readLetter, .ref a_readCue, .ref a_readPassage, .ref a_held])), (a_w, .inl (cI, 510, .inl v_w)), (a_past, .inl (cI, 4080, .inl v_past)), (a_images, .inl (cI, 1020, .inl v_images)), (a_text, .inl (cI, 140, .inl v_text)), (a_rowOf, .inl (cI, 120, .inl v_rowOf)), (a_readLetter, .inl (cI, 120, .inl v_readLetter)), (a_readCue, .inl (cI, 120, .inl v_readCue)), (a_readPassage, .inl (cI, 120, .inl v_readPassage)), (a_held, .inl (cI, 510, .inl v_held))] s.heap.size)) ([.ref aM] : List Value).toArray s 0 0 (va_A [(aM, .inr (4, [.ref a_w, .ref a_past, .int v_pastMany, .ref a_images, .int v_filled, .ref a_text, .int v_length, .int v_faultKind, .int v_faultPlace, .ref a_rowOf, .int v_rows, .int v_wrongKind, .int v_wrongPlace, .int v_readWords, .int v_readPassages, .ref a_readLetter, .ref a_readCue, .ref a_readPassage, .ref a_held])), (a_w, .inl (cI, 510, .inl v_w)), (a_past, .inl (cI, 4080, .inl v_past)), (a_images, .inl (cI, 1020, .inl v_images)), (a_text, .inl (cI, 140, .inl v_text)), (a_rowOf, .inl (cI, 120, .inl v_rowOf)), (a_readLetter, .inl (cI, 120, .inl v_readLetter)), (a_readCue, .inl (cI, 120, .inl v_readCue)), (a_readPassage, .inl (cI, 120, .inl v_readPassage)), (a_held, .inl (cI, 510, .inl v_held))] s.heap.size) := ⟨_, rfl⟩
  rw [← hQ]
  obtain ⟨A, hAe⟩ : ∃ A, A = va_A [(aM, .inr (4, [.ref a_w, .ref a_past, .int v_pastMany, .ref a_images, .int v_filled, .ref a_text, .int v_length, .int v_faultKind, .int v_faultPlace, .ref a_rowOf, .int v_rows, .int v_wrongKind, .int v_wrongPlace, .int v_readWords, .int v_readPassages, .ref a_readLetter, .ref a_readCue, .ref a_readPassage, .ref a_held])), (a_w, .inl (cI, 510, .inl v_w)), (a_past, .inl (cI, 4080, .inl v_past)), (a_images, .inl (cI, 1020, .inl v_images)), (a_text, .inl (cI, 140, .inl v_text)), (a_rowOf, .inl (cI, 120, .inl v_rowOf)), (a_readLetter, .inl (cI, 120, .inl v_readLetter)), (a_readCue, .inl (cI, 120, .inl v_readCue)), (a_readPassage, .inl (cI, 120, .inl v_readPassage)), (a_held, .inl (cI, 510, .inl v_held))] s.heap.size := ⟨_, rfl⟩
  rw [← hAe] at hD
  have hA : ∀ q : Nat, s.heap.size ≤ q → A q := fun q h => by rw [hAe]; exact Or.inr h
  obtain ⟨H, hH⟩ : ∃ H, H = s.heap := ⟨_, rfl⟩
  have hS : va_S A s.heap H [] := by rw [hH]; exact va_S.rf
  rw [← hH] at hP
  rw [← hH]
  have fl7 := hts (.fieldLink RX4 7 "TeleprompterModel" "w" "[I") (by decide +kernel)
  have fl41 := hts (.fieldLink RX4 41 "TeleprompterModel" "held" "[I") (by decide +kernel)
  have inX4 : ∀ w ∈ u_ws RX4 TX4 19, w ∈ wsX4_restore := by decide +kernel
  have hl := lv_entry ([.ref aM]) (n := 2) (Nat.le_of_ble_eq_true rfl)
  rw [lg_entry_eq]
  generalize (lg_sl ([.ref aM]) ++ List.replicate (2 - (lg_sl ([.ref aM])).length) Slot.unset).toArray = ls at hl ⊢
  have hl : lv_has ls 2 [(0, .ref aM)] := hl
  have B2 : ∀ (n_2 : Nat) (x1_2 : Int32) (v_w_2 : (Nat → Int32)), f_X4_restore_2 v_held n_2 x1_2 v_w_2 = some o_w → ∀ (H : Heap) (locs : List Loc), va_P (dC, dI) vwCl [(aM, .inr (4, [.ref a_w, .ref a_past, .int v_pastMany, .ref a_images, .int v_filled, .ref a_text, .int v_length, .int v_faultKind, .int v_faultPlace, .ref a_rowOf, .int v_rows, .int v_wrongKind, .int v_wrongPlace, .int v_readWords, .int v_readPassages, .ref a_readLetter, .ref a_readCue, .ref a_readPassage, .ref a_held])), (a_w, .inl (cI, 510, .inl v_w_2)), (a_past, .inl (cI, 4080, .inl v_past)), (a_images, .inl (cI, 1020, .inl v_images)), (a_text, .inl (cI, 140, .inl v_text)), (a_rowOf, .inl (cI, 120, .inl v_rowOf)), (a_readLetter, .inl (cI, 120, .inl v_readLetter)), (a_readCue, .inl (cI, 120, .inl v_readCue)), (a_readPassage, .inl (cI, 120, .inl v_readPassage)), (a_held, .inl (cI, 510, .inl v_held))] H → va_D A [(aM, .inr (4, [.ref a_w, .ref a_past, .int v_pastMany, .ref a_images, .int v_filled, .ref a_text, .int v_length, .int v_faultKind, .int v_faultPlace, .ref a_rowOf, .int v_rows, .int v_wrongKind, .int v_wrongPlace, .int v_readWords, .int v_readPassages, .ref a_readLetter, .ref a_readCue, .ref a_readPassage, .ref a_held])), (a_w, .inl (cI, 510, .inl v_w_2)), (a_past, .inl (cI, 4080, .inl v_past)), (a_images, .inl (cI, 1020, .inl v_images)), (a_text, .inl (cI, 140, .inl v_text)), (a_rowOf, .inl (cI, 120, .inl v_rowOf)), (a_readLetter, .inl (cI, 120, .inl v_readLetter)), (a_readCue, .inl (cI, 120, .inl v_readCue)), (a_readPassage, .inl (cI, 120, .inl v_readPassage)), (a_held, .inl (cI, 510, .inl v_held))] → va_S A s.heap H locs → ∀ ls : Array Slot, lv_has ls 2 [(0, .ref aM), (1, .int x1_2)] → W p l e (headSpec wsX4_restore rm_X4_restore).room s m ([.ref aM] : List Value).toArray below meth c H locs 0 0 Q (F0 m 2 ls []) := by
    intro n_2
    induction n_2 with
    | zero => intro x1_2 v_w_2 hF; exact noneE hF
    | succ n_2 ih2 =>
      intro x1_2 v_w_2 hF H locs hP hD hS ls hl
      rw [f_X4_restore_2] at hF
      refine lv_iload_n hx hb dX4_restore_2 rfl (lv_at hl 1 rfl) ?_
      refine lv_sipush (v := (510 : Int32)) hx hb dX4_restore_3 (by decide) ?_
      refine lv_icmp_ge (tgt := 27) hx hb dX4_restore_6 (by decide) (fun c_6 => ?_) (fun c_6 => ?_)
      · have hF := (if_pos c_6).symm.trans hF
        have hF : some v_w_2 = some o_w := hF
        have hP9 := hP
        have hD9 := hD
        cases hF
        subst hQ
        subst hAe
        exact W.vret hx hb hr (fun t ht hW => ⟨⟨(), rfl, trivial, ⟨by rw [ht]; exact hP9, hD9⟩⟩, hS.F ht⟩) hS.2.2 dX4_restore_27
      · have hF := (if_neg c_6).symm.trans hF
        refine lv_aload_n hx hb dX4_restore_9 rfl (lv_at hl 0 rfl) ?_
        refine va_get (D := (dC, dI)) (ci := 4) (v := .ref a_w) (C := RX4) (T := TX4) (N := 19) hx hb hts inX4 hown hK hP 0 rfl rfl 0 (by decide) fl7 (fun _ h9 => h9) rfl dX4_restore_10 ?_
        refine lv_iload_n hx hb dX4_restore_13 rfl (lv_at hl 1 rfl) ?_
        refine lv_aload_n hx hb dX4_restore_14 rfl (lv_at hl 0 rfl) ?_
        refine va_get (D := (dC, dI)) (ci := 4) (v := .ref a_held) (C := RX4) (T := TX4) (N := 19) hx hb hts inX4 hown hK hP 0 rfl rfl 18 (by decide) fl41 (fun _ h9 => h9) rfl dX4_restore_15 ?_
        refine lv_iload_n hx hb dX4_restore_18 rfl (lv_at hl 1 rfl) ?_
        by_cases b_19 : (x1_2 < 0 ∨ 510 ≤ x1_2.toNatClampNeg)
        · exact noneE ((if_pos b_19).symm.trans hF)
        have hF := (if_neg b_19).symm.trans hF
        refine va_iald hx hb hK hP 9 0 rfl rfl b_19 dX4_restore_19 ?_
        by_cases b_20 : (x1_2 < 0 ∨ 510 ≤ x1_2.toNatClampNeg)
        · exact noneE ((if_pos b_20).symm.trans hF)
        have hF := (if_neg b_20).symm.trans hF
        refine va_iast hx hb hK hP hD hS 1 0 rfl rfl b_20 dX4_restore_20 (fun H locs hP hD hS => ?_)
        have hP : va_P (dC, dI) vwCl [(aM, .inr (4, [.ref a_w, .ref a_past, .int v_pastMany, .ref a_images, .int v_filled, .ref a_text, .int v_length, .int v_faultKind, .int v_faultPlace, .ref a_rowOf, .int v_rows, .int v_wrongKind, .int v_wrongPlace, .int v_readWords, .int v_readPassages, .ref a_readLetter, .ref a_readCue, .ref a_readPassage, .ref a_held])), (a_w, .inl (cI, 510, .inl (upd v_w_2 x1_2.toNatClampNeg (v_held x1_2.toNatClampNeg)))), (a_past, .inl (cI, 4080, .inl v_past)), (a_images, .inl (cI, 1020, .inl v_images)), (a_text, .inl (cI, 140, .inl v_text)), (a_rowOf, .inl (cI, 120, .inl v_rowOf)), (a_readLetter, .inl (cI, 120, .inl v_readLetter)), (a_readCue, .inl (cI, 120, .inl v_readCue)), (a_readPassage, .inl (cI, 120, .inl v_readPassage)), (a_held, .inl (cI, 510, .inl v_held))] H := hP
        have hD : va_D A [(aM, .inr (4, [.ref a_w, .ref a_past, .int v_pastMany, .ref a_images, .int v_filled, .ref a_text, .int v_length, .int v_faultKind, .int v_faultPlace, .ref a_rowOf, .int v_rows, .int v_wrongKind, .int v_wrongPlace, .int v_readWords, .int v_readPassages, .ref a_readLetter, .ref a_readCue, .ref a_readPassage, .ref a_held])), (a_w, .inl (cI, 510, .inl (upd v_w_2 x1_2.toNatClampNeg (v_held x1_2.toNatClampNeg)))), (a_past, .inl (cI, 4080, .inl v_past)), (a_images, .inl (cI, 1020, .inl v_images)), (a_text, .inl (cI, 140, .inl v_text)), (a_rowOf, .inl (cI, 120, .inl v_rowOf)), (a_readLetter, .inl (cI, 120, .inl v_readLetter)), (a_readCue, .inl (cI, 120, .inl v_readCue)), (a_readPassage, .inl (cI, 120, .inl v_readPassage)), (a_held, .inl (cI, 510, .inl v_held))] := hD
        refine lv_iinc (v := (x1_2 + 1)) (lv' := [(1, .int (x1_2 + 1)), (0, .ref aM)]) hx hb dX4_restore_21 hl (k := 1) rfl rfl (by decide) rfl (fun ls hl => ?_)
        refine lv_goto (tgt := 2) hx hb dX4_restore_24 (by decide) ?_
        exact ih2 (x1_2 + 1) (upd v_w_2 x1_2.toNatClampNeg (v_held x1_2.toNatClampNeg)) hF _ _ hP hD hS _ (lv_sub hl [1, 0] rfl)
  unfold f_X4_restore at hF
  refine lv_iconst (v := (0 : Int32)) hx hb dX4_restore_0 (by decide) ?_
  refine lv_istore_n (lv' := [(1, .int (0 : Int32)), (0, .ref aM)]) hx hb dX4_restore_1 rfl hl (by decide) rfl (fun ls hl => ?_)
  exact B2 gas (0 : Int32) v_w hF _ _ hP hD hS _ (lv_sub hl [1, 0] rfl)
def f_X4_reached_65 (x2 : Int32) (x3 : Int32) (s0 : Int32) (v_w : (Nat → Int32)) : Option (Int32 × (Nat → Int32)) :=
  (some (upd v_w 10 x2)).bind fun a74 =>
    if s0 = (0 : Int32) then
      some ((-9 : Int32), a74)
    else
      some (x3, a74)
def f_X4_reached_52 (x1 : Int32) (x2 : Int32) (x3 : Int32) (v_w : (Nat → Int32)) : Option (Int32 × (Nat → Int32)) :=
  (f_X4_estimated v_w).bind fun q53 =>
    if q53 < x1 then
      f_X4_reached_65 x2 x3 (0 : Int32) v_w
    else
      f_X4_reached_65 x2 x3 (1 : Int32) v_w
def f_X4_reached_20 (x1 : Int32) (x2 : Int32) : Nat → Int32 → (Nat → Int32) → Option (Int32 × (Nat → Int32))
  | 0, _, _ => none
  | n + 1, x3, v_w =>
    if (500 : Int32) ≤ x3 then
      f_X4_reached_52 x1 x2 x3 v_w
    else
      (f_X4_estimated v_w).bind fun q28 =>
      if x1 ≤ q28 then
        f_X4_reached_52 x1 x2 x3 v_w
      else
        (some (upd v_w 10 ((v_w 10) + (1 : Int32)))).bind fun a45 =>
        f_X4_reached_20 x1 x2 n (x3 + 1) a45
def f_X4_reached (p1 : Int32) (v_w : (Nat → Int32)) : Option (Int32 × (Nat → Int32)) :=
  (f_X4_isWord p1 v_w).bind fun q2 =>
  if q2 = (0 : Int32) then
    some ((-1 : Int32), v_w)
  else
    f_X4_reached_20 p1 (v_w 10) gas (0 : Int32) v_w
def rm_X4_reached : Room := { frames := 2, cells := 0, slots := 0, locals := 43 }
set_option maxHeartbeats 4000000 in
set_option maxRecDepth 100000 in
theorem c_X4_reached (l : Launch) (dC : Nat → ClassId) (dI : Nat → Nat → Nat) (cI cZ cO : ClassId) (aM a_w a_past a_images a_text a_rowOf a_readLetter a_readCue a_readPassage a_held : Nat) (sz : Nat) (p1 : Int32) (v_w : (Nat → Int32)) (v_past : (Nat → Int32)) (v_pastMany : Int32) (v_images : (Nat → Int32)) (v_filled : Int32) (v_text : (Nat → Int32)) (v_length : Int32) (v_faultKind : Int32) (v_faultPlace : Int32) (v_rowOf : (Nat → Int32)) (v_rows : Int32) (v_wrongKind : Int32) (v_wrongPlace : Int32) (v_readWords : Int32) (v_readPassages : Int32) (v_readLetter : (Nat → Int32)) (v_readCue : (Nat → Int32)) (v_readPassage : (Nat → Int32)) (v_held : (Nat → Int32)) (r : Int32) (o_w : (Nat → Int32)) (hF : f_X4_reached p1 v_w = some (r, o_w)) : Met l yX4_reached wsX4_reached rm_X4_reached (va_Pc [.ref aM, .int p1] (wrW dC dI cI cZ cO sz [(aM, .inr (4, [.ref a_w, .ref a_past, .int v_pastMany, .ref a_images, .int v_filled, .ref a_text, .int v_length, .int v_faultKind, .int v_faultPlace, .ref a_rowOf, .int v_rows, .int v_wrongKind, .int v_wrongPlace, .int v_readWords, .int v_readPassages, .ref a_readLetter, .ref a_readCue, .ref a_readPassage, .ref a_held])), (a_w, .inl (cI, 510, .inl v_w)), (a_past, .inl (cI, 4080, .inl v_past)), (a_images, .inl (cI, 1020, .inl v_images)), (a_text, .inl (cI, 140, .inl v_text)), (a_rowOf, .inl (cI, 120, .inl v_rowOf)), (a_readLetter, .inl (cI, 120, .inl v_readLetter)), (a_readCue, .inl (cI, 120, .inl v_readCue)), (a_readPassage, .inl (cI, 120, .inl v_readPassage)), (a_held, .inl (cI, 510, .inl v_held))])) (va_Qi (fun (q : Int32) (_ : Unit) => r = q) (wrE dC dI [(aM, .inr (4, [.ref a_w, .ref a_past, .int v_pastMany, .ref a_images, .int v_filled, .ref a_text, .int v_length, .int v_faultKind, .int v_faultPlace, .ref a_rowOf, .int v_rows, .int v_wrongKind, .int v_wrongPlace, .int v_readWords, .int v_readPassages, .ref a_readLetter, .ref a_readCue, .ref a_readPassage, .ref a_held])), (a_w, .inl (cI, 510, .inl v_w)), (a_past, .inl (cI, 4080, .inl v_past)), (a_images, .inl (cI, 1020, .inl v_images)), (a_text, .inl (cI, 140, .inl v_text)), (a_rowOf, .inl (cI, 120, .inl v_rowOf)), (a_readLetter, .inl (cI, 120, .inl v_readLetter)), (a_readCue, .inl (cI, 120, .inl v_readCue)), (a_readPassage, .inl (cI, 120, .inl v_readPassage)), (a_held, .inl (cI, 510, .inl v_held))] sz [(aM, .inr (4, [.ref a_w, .ref a_past, .int v_pastMany, .ref a_images, .int v_filled, .ref a_text, .int v_length, .int v_faultKind, .int v_faultPlace, .ref a_rowOf, .int v_rows, .int v_wrongKind, .int v_wrongPlace, .int v_readWords, .int v_readPassages, .ref a_readLetter, .ref a_readCue, .ref a_readPassage, .ref a_held])), (a_w, .inl (cI, 510, .inl o_w)), (a_past, .inl (cI, 4080, .inl v_past)), (a_images, .inl (cI, 1020, .inl v_images)), (a_text, .inl (cI, 140, .inl v_text)), (a_rowOf, .inl (cI, 120, .inl v_rowOf)), (a_readLetter, .inl (cI, 120, .inl v_readLetter)), (a_readCue, .inl (cI, 120, .inl v_readCue)), (a_readPassage, .inl (cI, 120, .inl v_readPassage)), (a_held, .inl (cI, 510, .inl v_held))]) (va_A [(aM, .inr (4, [.ref a_w, .ref a_past, .int v_pastMany, .ref a_images, .int v_filled, .ref a_text, .int v_length, .int v_faultKind, .int v_faultPlace, .ref a_rowOf, .int v_rows, .int v_wrongKind, .int v_wrongPlace, .int v_readWords, .int v_readPassages, .ref a_readLetter, .ref a_readCue, .ref a_readPassage, .ref a_held])), (a_w, .inl (cI, 510, .inl v_w)), (a_past, .inl (cI, 4080, .inl v_past)), (a_images, .inl (cI, 1020, .inl v_images)), (a_text, .inl (cI, 140, .inl v_text)), (a_rowOf, .inl (cI, 120, .inl v_rowOf)), (a_readLetter, .inl (cI, 120, .inl v_readLetter)), (a_readCue, .inl (cI, 120, .inl v_readCue)), (a_readPassage, .inl (cI, 120, .inl v_readPassage)), (a_held, .inl (cI, 510, .inl v_held))] sz)) 0 0 (va_A [(aM, .inr (4, [.ref a_w, .ref a_past, .int v_pastMany, .ref a_images, .int v_filled, .ref a_text, .int v_length, .int v_faultKind, .int v_faultPlace, .ref a_rowOf, .int v_rows, .int v_wrongKind, .int v_wrongPlace, .int v_readWords, .int v_readPassages, .ref a_readLetter, .ref a_readCue, .ref a_readPassage, .ref a_held])), (a_w, .inl (cI, 510, .inl v_w)), (a_past, .inl (cI, 4080, .inl v_past)), (a_images, .inl (cI, 1020, .inl v_images)), (a_text, .inl (cI, 140, .inl v_text)), (a_rowOf, .inl (cI, 120, .inl v_rowOf)), (a_readLetter, .inl (cI, 120, .inl v_readLetter)), (a_readCue, .inl (cI, 120, .inl v_readCue)), (a_readPassage, .inl (cI, 120, .inl v_readPassage)), (a_held, .inl (cI, 510, .inl v_held))] sz) := by
  refine Met.ofW (cc := cX4_reached) (maxL := 5) (ret := (some .int)) (by decide) rfl ?_
  intro p e s m args below meth c s₁ B hml hv
  obtain ⟨rfl, hsz, hP, hK, hN, hD0⟩ := hv
  have hx := B.exec
  have hb := B.bytes
  have hr := B.returns
  have hts := atoms_spec (ws := wsX4_reached) B.pre
  have hown : s.vm.findClass RX4 = some m.cls := findClass_of_methodNamed B.named
  have hlocks := B.notSynchronized
  subst hsz
  have hD := hD0.self (sz := s.heap.size)
  obtain ⟨Q, hQ⟩ : ∃ Q, Q = MQ below (va_Qi (fun (q : Int32) (_ : Unit) => r = q) (wrE dC dI [(aM, .inr (4, [.ref a_w, .ref a_past, .int v_pastMany, .ref a_images, .int v_filled, .ref a_text, .int v_length, .int v_faultKind, .int v_faultPlace, .ref a_rowOf, .int v_rows, .int v_wrongKind, .int v_wrongPlace, .int v_readWords, .int v_readPassages, .ref a_readLetter, .ref a_readCue, .ref a_readPassage, .ref a_held])), (a_w, .inl (cI, 510, .inl v_w)), (a_past, .inl (cI, 4080, .inl v_past)), (a_images, .inl (cI, 1020, .inl v_images)), (a_text, .inl (cI, 140, .inl v_text)), (a_rowOf, .inl (cI, 120, .inl v_rowOf)), (a_readLetter, .inl (cI, 120, .inl v_readLetter)), (a_readCue, .inl (cI, 120, .inl v_readCue)), (a_readPassage, .inl (cI, 120, .inl v_readPassage)), (a_held, .inl (cI, 510, .inl v_held))] s.heap.size [(aM, .inr (4, [.ref a_w, .ref a_past, .int v_pastMany, .ref a_images, .int v_filled, .ref a_text, .int v_length, .int v_faultKind, .int v_faultPlace, .ref a_rowOf, .int v_rows, .int v_wrongKind, .int v_wrongPlace, .int v_readWords, .int v_readPassages, .ref a_readLetter, .ref a_readCue, .ref a_readPassage, .ref a_held])), (a_w, .inl (cI, 510, .inl o_w)), (a_past, .inl (cI, 4080, .inl v_past)), (a_images, .inl (cI, 1020, .inl v_images)), (a_text, .inl (cI, 140, .inl v_text)), (a_rowOf, .inl (cI, 120, .inl v_rowOf)), (a_readLetter, .inl (cI, 120, .inl v_readLetter)), (a_readCue, .inl (cI, 120, .inl v_readCue)), (a_readPassage, .inl (cI, 120, .inl v_readPassage)), (a_held, .inl (cI, 510, .inl v_held))]) (va_A [(aM, .inr (4, [.ref a_w, .ref a_past, .int v_pastMany, .ref a_images, .int v_filled, .ref a_text, .int v_length, .int v_faultKind, .int v_faultPlace, .ref a_rowOf, .int v_rows, .int v_wrongKind, .int v_wrongPlace, .int v_readWords, .int v_readPassages, .ref a_readLetter, .ref a_readCue, .ref a_readPassage, .ref a_held])), (a_w, .inl (cI, 510, .inl v_w)), (a_past, .inl (cI, 4080, .inl v_past)), (a_images, .inl (cI, 1020, .inl v_images)), (a_text, .inl (cI, 140, .inl v_text)), (a_rowOf, .inl (cI, 120, .inl v_rowOf)), (a_readLetter, .inl (cI, 120, .inl v_readLetter)), (a_readCue, .inl (cI, 120, .inl v_readCue)), (a_readPassage, .inl (cI, 120, .inl v_readPassage)), (a_held, .inl (cI, 510, .inl v_held))] s.heap.size)) ([.ref aM, .int p1] : List Value).toArray s 0 0 (va_A [(aM, .inr (4, [.ref a_w, .ref a_past, .int v_pastMany, .ref a_images, .int v_filled, .ref a_text, .int v_length, .int v_faultKind, .int v_faultPlace, .ref a_rowOf, .int v_rows, .int v_wrongKind, .int v_wrongPlace, .int v_readWords, .int v_readPassages, .ref a_readLetter, .ref a_readCue, .ref a_readPassage, .ref a_held])), (a_w, .inl (cI, 510, .inl v_w)), (a_past, .inl (cI, 4080, .inl v_past)), (a_images, .inl (cI, 1020, .inl v_images)), (a_text, .inl (cI, 140, .inl v_text)), (a_rowOf, .inl (cI, 120, .inl v_rowOf)), (a_readLetter, .inl (cI, 120, .inl v_readLetter)), (a_readCue, .inl (cI, 120, .inl v_readCue)), (a_readPassage, .inl (cI, 120, .inl v_readPassage)), (a_held, .inl (cI, 510, .inl v_held))] s.heap.size) := ⟨_, rfl⟩
  rw [← hQ]
  obtain ⟨A, hAe⟩ : ∃ A, A = va_A [(aM, .inr (4, [.ref a_w, .ref a_past, .int v_pastMany, .ref a_images, .int v_filled, .ref a_text, .int v_length, .int v_faultKind, .int v_faultPlace, .ref a_rowOf, .int v_rows, .int v_wrongKind, .int v_wrongPlace, .int v_readWords, .int v_readPassages, .ref a_readLetter, .ref a_readCue, .ref a_readPassage, .ref a_held])), (a_w, .inl (cI, 510, .inl v_w)), (a_past, .inl (cI, 4080, .inl v_past)), (a_images, .inl (cI, 1020, .inl v_images)), (a_text, .inl (cI, 140, .inl v_text)), (a_rowOf, .inl (cI, 120, .inl v_rowOf)), (a_readLetter, .inl (cI, 120, .inl v_readLetter)), (a_readCue, .inl (cI, 120, .inl v_readCue)), (a_readPassage, .inl (cI, 120, .inl v_readPassage)), (a_held, .inl (cI, 510, .inl v_held))] s.heap.size := ⟨_, rfl⟩
  rw [← hAe] at hD
  have hA : ∀ q : Nat, s.heap.size ≤ q → A q := fun q h => by rw [hAe]; exact Or.inr h
  obtain ⟨H, hH⟩ : ∃ H, H = s.heap := ⟨_, rfl⟩
  have hS : va_S A s.heap H [] := by rw [hH]; exact va_S.rf
  rw [← hH] at hP
  rw [← hH]
  have fl7 := hts (.fieldLink RX4 7 "TeleprompterModel" "w" "[I") (by decide +kernel)
  have inX4 : ∀ w ∈ u_ws RX4 TX4 19, w ∈ wsX4_reached := by decide +kernel
  have hl := lv_entry ([.ref aM, .int p1]) (n := 5) (Nat.le_of_ble_eq_true rfl)
  rw [lg_entry_eq]
  generalize (lg_sl ([.ref aM, .int p1]) ++ List.replicate (5 - (lg_sl ([.ref aM, .int p1])).length) Slot.unset).toArray = ls at hl ⊢
  have hl : lv_has ls 5 [(0, .ref aM), (1, .int p1)] := hl
  have B65 : ∀ (x2_65 : Int32) (x3_65 : Int32) (s0_65 : Int32) (v_w_65 : (Nat → Int32)), f_X4_reached_65 x2_65 x3_65 s0_65 v_w_65 = some (r, o_w) → ∀ (H : Heap) (locs : List Loc), va_P (dC, dI) vwCl [(aM, .inr (4, [.ref a_w, .ref a_past, .int v_pastMany, .ref a_images, .int v_filled, .ref a_text, .int v_length, .int v_faultKind, .int v_faultPlace, .ref a_rowOf, .int v_rows, .int v_wrongKind, .int v_wrongPlace, .int v_readWords, .int v_readPassages, .ref a_readLetter, .ref a_readCue, .ref a_readPassage, .ref a_held])), (a_w, .inl (cI, 510, .inl v_w_65)), (a_past, .inl (cI, 4080, .inl v_past)), (a_images, .inl (cI, 1020, .inl v_images)), (a_text, .inl (cI, 140, .inl v_text)), (a_rowOf, .inl (cI, 120, .inl v_rowOf)), (a_readLetter, .inl (cI, 120, .inl v_readLetter)), (a_readCue, .inl (cI, 120, .inl v_readCue)), (a_readPassage, .inl (cI, 120, .inl v_readPassage)), (a_held, .inl (cI, 510, .inl v_held))] H → va_D A [(aM, .inr (4, [.ref a_w, .ref a_past, .int v_pastMany, .ref a_images, .int v_filled, .ref a_text, .int v_length, .int v_faultKind, .int v_faultPlace, .ref a_rowOf, .int v_rows, .int v_wrongKind, .int v_wrongPlace, .int v_readWords, .int v_readPassages, .ref a_readLetter, .ref a_readCue, .ref a_readPassage, .ref a_held])), (a_w, .inl (cI, 510, .inl v_w_65)), (a_past, .inl (cI, 4080, .inl v_past)), (a_images, .inl (cI, 1020, .inl v_images)), (a_text, .inl (cI, 140, .inl v_text)), (a_rowOf, .inl (cI, 120, .inl v_rowOf)), (a_readLetter, .inl (cI, 120, .inl v_readLetter)), (a_readCue, .inl (cI, 120, .inl v_readCue)), (a_readPassage, .inl (cI, 120, .inl v_readPassage)), (a_held, .inl (cI, 510, .inl v_held))] → va_S A s.heap H locs → ∀ ls : Array Slot, lv_has ls 5 [(0, .ref aM), (2, .int x2_65), (3, .int x3_65)] → W p l e (headSpec wsX4_reached rm_X4_reached).room s m ([.ref aM, .int p1] : List Value).toArray below meth c H locs 0 0 Q (F0 m 65 ls [.int s0_65]) := by
    intro x2_65 x3_65 s0_65 v_w_65 hF H locs hP hD hS ls hl
    unfold f_X4_reached_65 at hF
    refine lv_istore (lv' := [(4, .int s0_65), (0, .ref aM), (2, .int x2_65), (3, .int x3_65)]) hx hb dX4_reached_65 hl (by decide) rfl (fun ls hl => ?_)
    refine lv_aload_n hx hb dX4_reached_67 rfl (lv_at hl 1 rfl) ?_
    refine va_get (D := (dC, dI)) (ci := 4) (v := .ref a_w) (C := RX4) (T := TX4) (N := 19) hx hb hts inX4 hown hK hP 0 rfl rfl 0 (by decide) fl7 (fun _ h9 => h9) rfl dX4_reached_68 ?_
    refine lv_bipush (v := (10 : Int32)) hx hb dX4_reached_71 (by decide) ?_
    refine lv_iload_n hx hb dX4_reached_73 rfl (lv_at hl 2 rfl) ?_
    refine va_iastK hx hb hK hP hD hS 1 0 rfl rfl (inK (by decide)) (j := 10) (by decide) dX4_reached_74 (fun H locs hP hD hS => ?_)
    have hP : va_P (dC, dI) vwCl [(aM, .inr (4, [.ref a_w, .ref a_past, .int v_pastMany, .ref a_images, .int v_filled, .ref a_text, .int v_length, .int v_faultKind, .int v_faultPlace, .ref a_rowOf, .int v_rows, .int v_wrongKind, .int v_wrongPlace, .int v_readWords, .int v_readPassages, .ref a_readLetter, .ref a_readCue, .ref a_readPassage, .ref a_held])), (a_w, .inl (cI, 510, .inl (upd v_w_65 10 x2_65))), (a_past, .inl (cI, 4080, .inl v_past)), (a_images, .inl (cI, 1020, .inl v_images)), (a_text, .inl (cI, 140, .inl v_text)), (a_rowOf, .inl (cI, 120, .inl v_rowOf)), (a_readLetter, .inl (cI, 120, .inl v_readLetter)), (a_readCue, .inl (cI, 120, .inl v_readCue)), (a_readPassage, .inl (cI, 120, .inl v_readPassage)), (a_held, .inl (cI, 510, .inl v_held))] H := hP
    have hD : va_D A [(aM, .inr (4, [.ref a_w, .ref a_past, .int v_pastMany, .ref a_images, .int v_filled, .ref a_text, .int v_length, .int v_faultKind, .int v_faultPlace, .ref a_rowOf, .int v_rows, .int v_wrongKind, .int v_wrongPlace, .int v_readWords, .int v_readPassages, .ref a_readLetter, .ref a_readCue, .ref a_readPassage, .ref a_held])), (a_w, .inl (cI, 510, .inl (upd v_w_65 10 x2_65))), (a_past, .inl (cI, 4080, .inl v_past)), (a_images, .inl (cI, 1020, .inl v_images)), (a_text, .inl (cI, 140, .inl v_text)), (a_rowOf, .inl (cI, 120, .inl v_rowOf)), (a_readLetter, .inl (cI, 120, .inl v_readLetter)), (a_readCue, .inl (cI, 120, .inl v_readCue)), (a_readPassage, .inl (cI, 120, .inl v_readPassage)), (a_held, .inl (cI, 510, .inl v_held))] := hD
    obtain ⟨a_74, ha_74, hF⟩ := bindE hF
    have ha_74 := Option.some.inj ha_74
    rw [ha_74] at hP hD
    refine lv_iload hx hb dX4_reached_75 (lv_at hl 0 rfl) ?_
    refine lv_if_eq (tgt := 84) hx hb dX4_reached_77 (by decide) (fun c_77 => ?_) (fun c_77 => ?_)
    · have hF := (if_pos c_77).symm.trans hF
      refine lv_bipush (v := (-9 : Int32)) hx hb dX4_reached_84 (by decide) ?_
      have hF : some ((-9 : Int32), a_74) = some (r, o_w) := hF
      have hP9 := hP
      have hD9 := hD
      cases hF
      subst hQ
      subst hAe
      exact W.iret hx hb hr (fun t ht hW => ⟨⟨_, (), rfl, rfl, ⟨by rw [ht]; exact hP9, hD9⟩⟩, hS.F ht⟩) hS.2.2 dX4_reached_86
    · have hF := (if_neg c_77).symm.trans hF
      refine lv_iload_n hx hb dX4_reached_80 rfl (lv_at hl 3 rfl) ?_
      refine lv_goto (tgt := 86) hx hb dX4_reached_81 (by decide) ?_
      have hF : some (x3_65, a_74) = some (r, o_w) := hF
      have hP9 := hP
      have hD9 := hD
      cases hF
      subst hQ
      subst hAe
      exact W.iret hx hb hr (fun t ht hW => ⟨⟨_, (), rfl, rfl, ⟨by rw [ht]; exact hP9, hD9⟩⟩, hS.F ht⟩) hS.2.2 dX4_reached_86
  have B52 : ∀ (x1_52 : Int32) (x2_52 : Int32) (x3_52 : Int32) (v_w_52 : (Nat → Int32)), f_X4_reached_52 x1_52 x2_52 x3_52 v_w_52 = some (r, o_w) → ∀ (H : Heap) (locs : List Loc), va_P (dC, dI) vwCl [(aM, .inr (4, [.ref a_w, .ref a_past, .int v_pastMany, .ref a_images, .int v_filled, .ref a_text, .int v_length, .int v_faultKind, .int v_faultPlace, .ref a_rowOf, .int v_rows, .int v_wrongKind, .int v_wrongPlace, .int v_readWords, .int v_readPassages, .ref a_readLetter, .ref a_readCue, .ref a_readPassage, .ref a_held])), (a_w, .inl (cI, 510, .inl v_w_52)), (a_past, .inl (cI, 4080, .inl v_past)), (a_images, .inl (cI, 1020, .inl v_images)), (a_text, .inl (cI, 140, .inl v_text)), (a_rowOf, .inl (cI, 120, .inl v_rowOf)), (a_readLetter, .inl (cI, 120, .inl v_readLetter)), (a_readCue, .inl (cI, 120, .inl v_readCue)), (a_readPassage, .inl (cI, 120, .inl v_readPassage)), (a_held, .inl (cI, 510, .inl v_held))] H → va_D A [(aM, .inr (4, [.ref a_w, .ref a_past, .int v_pastMany, .ref a_images, .int v_filled, .ref a_text, .int v_length, .int v_faultKind, .int v_faultPlace, .ref a_rowOf, .int v_rows, .int v_wrongKind, .int v_wrongPlace, .int v_readWords, .int v_readPassages, .ref a_readLetter, .ref a_readCue, .ref a_readPassage, .ref a_held])), (a_w, .inl (cI, 510, .inl v_w_52)), (a_past, .inl (cI, 4080, .inl v_past)), (a_images, .inl (cI, 1020, .inl v_images)), (a_text, .inl (cI, 140, .inl v_text)), (a_rowOf, .inl (cI, 120, .inl v_rowOf)), (a_readLetter, .inl (cI, 120, .inl v_readLetter)), (a_readCue, .inl (cI, 120, .inl v_readCue)), (a_readPassage, .inl (cI, 120, .inl v_readPassage)), (a_held, .inl (cI, 510, .inl v_held))] → va_S A s.heap H locs → ∀ ls : Array Slot, lv_has ls 5 [(0, .ref aM), (1, .int x1_52), (2, .int x2_52), (3, .int x3_52)] → W p l e (headSpec wsX4_reached rm_X4_reached).room s m ([.ref aM, .int p1] : List Value).toArray below meth c H locs 0 0 Q (F0 m 52 ls []) := by
    intro x1_52 x2_52 x3_52 v_w_52 hF H locs hP hD hS ls hl
    unfold f_X4_reached_52 at hF
    refine lv_aload_n hx hb dX4_reached_52 rfl (lv_at hl 0 rfl) ?_
    obtain ⟨q_53, hq_53, hF⟩ := bindE hF
    have hPc := hP
    refine vp_callSi (va_Run.run (va_runV (As := []) (rest := []) ⟨hx, hb, hml, hown, hts⟩ (c_X4_estimated l dC dI cI cZ cO aM a_w a_past a_images a_text a_rowOf a_readLetter a_readCue a_readPassage a_held v_w_52 v_past v_pastMany v_images v_filled v_text v_length v_faultKind v_faultPlace v_rowOf v_rows v_wrongKind v_wrongPlace v_readWords v_readPassages v_readLetter v_readCue v_readPassage v_held q_53 hq_53) (cwV 0 hts gX4_reached_X4_estimated rfl rfl rfl (by decide +kernel) ⟨Nat.le_of_ble_eq_true rfl, Nat.le_of_ble_eq_true rfl⟩) ⟨fb_rd, va_recv hK hPc (ci := 4) (q0 := 0) rfl rfl, pre_rd hPc hK hN⟩ rfl rfl hl.1 rfl (lv_room (Nat.le_of_ble_eq_true rfl)) dX4_reached_53 ⟨Nat.zero_le _, Nat.zero_le _⟩)) (fun z_53 hz_53 => ?_)
    subst hz_53
    refine lv_iload_n hx hb dX4_reached_56 rfl (lv_at hl 1 rfl) ?_
    refine lv_icmp_lt (tgt := 64) hx hb dX4_reached_57 (by decide) (fun c_57 => ?_) (fun c_57 => ?_)
    · have hF := (if_pos c_57).symm.trans hF
      refine lv_iconst (v := (0 : Int32)) hx hb dX4_reached_64 (by decide) ?_
      exact B65 x2_52 x3_52 (0 : Int32) v_w_52 hF _ _ hP hD hS _ (lv_sub hl [0, 2, 3] rfl)
    · have hF := (if_neg c_57).symm.trans hF
      refine lv_iconst (v := (1 : Int32)) hx hb dX4_reached_60 (by decide) ?_
      refine lv_goto (tgt := 65) hx hb dX4_reached_61 (by decide) ?_
      exact B65 x2_52 x3_52 (1 : Int32) v_w_52 hF _ _ hP hD hS _ (lv_sub hl [0, 2, 3] rfl)
  have B20 : ∀ (n_20 : Nat) (x1_20 : Int32) (x2_20 : Int32) (x3_20 : Int32) (v_w_20 : (Nat → Int32)), f_X4_reached_20 x1_20 x2_20 n_20 x3_20 v_w_20 = some (r, o_w) → ∀ (H : Heap) (locs : List Loc), va_P (dC, dI) vwCl [(aM, .inr (4, [.ref a_w, .ref a_past, .int v_pastMany, .ref a_images, .int v_filled, .ref a_text, .int v_length, .int v_faultKind, .int v_faultPlace, .ref a_rowOf, .int v_rows, .int v_wrongKind, .int v_wrongPlace, .int v_readWords, .int v_readPassages, .ref a_readLetter, .ref a_readCue, .ref a_readPassage, .ref a_held])), (a_w, .inl (cI, 510, .inl v_w_20)), (a_past, .inl (cI, 4080, .inl v_past)), (a_images, .inl (cI, 1020, .inl v_images)), (a_text, .inl (cI, 140, .inl v_text)), (a_rowOf, .inl (cI, 120, .inl v_rowOf)), (a_readLetter, .inl (cI, 120, .inl v_readLetter)), (a_readCue, .inl (cI, 120, .inl v_readCue)), (a_readPassage, .inl (cI, 120, .inl v_readPassage)), (a_held, .inl (cI, 510, .inl v_held))] H → va_D A [(aM, .inr (4, [.ref a_w, .ref a_past, .int v_pastMany, .ref a_images, .int v_filled, .ref a_text, .int v_length, .int v_faultKind, .int v_faultPlace, .ref a_rowOf, .int v_rows, .int v_wrongKind, .int v_wrongPlace, .int v_readWords, .int v_readPassages, .ref a_readLetter, .ref a_readCue, .ref a_readPassage, .ref a_held])), (a_w, .inl (cI, 510, .inl v_w_20)), (a_past, .inl (cI, 4080, .inl v_past)), (a_images, .inl (cI, 1020, .inl v_images)), (a_text, .inl (cI, 140, .inl v_text)), (a_rowOf, .inl (cI, 120, .inl v_rowOf)), (a_readLetter, .inl (cI, 120, .inl v_readLetter)), (a_readCue, .inl (cI, 120, .inl v_readCue)), (a_readPassage, .inl (cI, 120, .inl v_readPassage)), (a_held, .inl (cI, 510, .inl v_held))] → va_S A s.heap H locs → ∀ ls : Array Slot, lv_has ls 5 [(0, .ref aM), (1, .int x1_20), (2, .int x2_20), (3, .int x3_20)] → W p l e (headSpec wsX4_reached rm_X4_reached).room s m ([.ref aM, .int p1] : List Value).toArray below meth c H locs 0 0 Q (F0 m 20 ls []) := by
    intro n_20
    induction n_20 with
    | zero => intro x1_20 x2_20 x3_20 v_w_20 hF; exact noneE hF
    | succ n_20 ih20 =>
      intro x1_20 x2_20 x3_20 v_w_20 hF H locs hP hD hS ls hl
      rw [f_X4_reached_20] at hF
      refine lv_iload_n hx hb dX4_reached_20 rfl (lv_at hl 3 rfl) ?_
      refine lv_sipush (v := (500 : Int32)) hx hb dX4_reached_21 (by decide) ?_
      refine lv_icmp_ge (tgt := 52) hx hb dX4_reached_24 (by decide) (fun c_24 => ?_) (fun c_24 => ?_)
      · have hF := (if_pos c_24).symm.trans hF
        exact B52 x1_20 x2_20 x3_20 v_w_20 hF _ _ hP hD hS _ (lv_sub hl [0, 1, 2, 3] rfl)
      · have hF := (if_neg c_24).symm.trans hF
        refine lv_aload_n hx hb dX4_reached_27 rfl (lv_at hl 0 rfl) ?_
        obtain ⟨q_28, hq_28, hF⟩ := bindE hF
        have hPc := hP
        refine vp_callSi (va_Run.run (va_runV (As := []) (rest := []) ⟨hx, hb, hml, hown, hts⟩ (c_X4_estimated l dC dI cI cZ cO aM a_w a_past a_images a_text a_rowOf a_readLetter a_readCue a_readPassage a_held v_w_20 v_past v_pastMany v_images v_filled v_text v_length v_faultKind v_faultPlace v_rowOf v_rows v_wrongKind v_wrongPlace v_readWords v_readPassages v_readLetter v_readCue v_readPassage v_held q_28 hq_28) (cwV 0 hts gX4_reached_X4_estimated rfl rfl rfl (by decide +kernel) ⟨Nat.le_of_ble_eq_true rfl, Nat.le_of_ble_eq_true rfl⟩) ⟨fb_rd, va_recv hK hPc (ci := 4) (q0 := 0) rfl rfl, pre_rd hPc hK hN⟩ rfl rfl hl.1 rfl (lv_room (Nat.le_of_ble_eq_true rfl)) dX4_reached_28 ⟨Nat.zero_le _, Nat.zero_le _⟩)) (fun z_28 hz_28 => ?_)
        subst hz_28
        refine lv_iload_n hx hb dX4_reached_31 rfl (lv_at hl 1 rfl) ?_
        refine lv_icmp_ge (tgt := 52) hx hb dX4_reached_32 (by decide) (fun c_32 => ?_) (fun c_32 => ?_)
        · have hF := (if_pos c_32).symm.trans hF
          exact B52 x1_20 x2_20 x3_20 v_w_20 hF _ _ hP hD hS _ (lv_sub hl [0, 1, 2, 3] rfl)
        · have hF := (if_neg c_32).symm.trans hF
          refine lv_aload_n hx hb dX4_reached_35 rfl (lv_at hl 0 rfl) ?_
          refine va_get (D := (dC, dI)) (ci := 4) (v := .ref a_w) (C := RX4) (T := TX4) (N := 19) hx hb hts inX4 hown hK hP 0 rfl rfl 0 (by decide) fl7 (fun _ h9 => h9) rfl dX4_reached_36 ?_
          refine lv_bipush (v := (10 : Int32)) hx hb dX4_reached_39 (by decide) ?_
          refine lv_dup2_11 hx hb dX4_reached_41 rfl rfl ?_
          refine va_ialdK hx hb hK hP 1 0 rfl rfl (inK (by decide)) (j := 10) (by decide) dX4_reached_42 ?_
          refine lv_iconst (v := (1 : Int32)) hx hb dX4_reached_43 (by decide) ?_
          refine lv_iadd hx hb dX4_reached_44 ?_
          refine va_iastK hx hb hK hP hD hS 1 0 rfl rfl (inK (by decide)) (j := 10) (by decide) dX4_reached_45 (fun H locs hP hD hS => ?_)
          have hP : va_P (dC, dI) vwCl [(aM, .inr (4, [.ref a_w, .ref a_past, .int v_pastMany, .ref a_images, .int v_filled, .ref a_text, .int v_length, .int v_faultKind, .int v_faultPlace, .ref a_rowOf, .int v_rows, .int v_wrongKind, .int v_wrongPlace, .int v_readWords, .int v_readPassages, .ref a_readLetter, .ref a_readCue, .ref a_readPassage, .ref a_held])), (a_w, .inl (cI, 510, .inl (upd v_w_20 10 ((v_w_20 10) + (1 : Int32))))), (a_past, .inl (cI, 4080, .inl v_past)), (a_images, .inl (cI, 1020, .inl v_images)), (a_text, .inl (cI, 140, .inl v_text)), (a_rowOf, .inl (cI, 120, .inl v_rowOf)), (a_readLetter, .inl (cI, 120, .inl v_readLetter)), (a_readCue, .inl (cI, 120, .inl v_readCue)), (a_readPassage, .inl (cI, 120, .inl v_readPassage)), (a_held, .inl (cI, 510, .inl v_held))] H := hP
          have hD : va_D A [(aM, .inr (4, [.ref a_w, .ref a_past, .int v_pastMany, .ref a_images, .int v_filled, .ref a_text, .int v_length, .int v_faultKind, .int v_faultPlace, .ref a_rowOf, .int v_rows, .int v_wrongKind, .int v_wrongPlace, .int v_readWords, .int v_readPassages, .ref a_readLetter, .ref a_readCue, .ref a_readPassage, .ref a_held])), (a_w, .inl (cI, 510, .inl (upd v_w_20 10 ((v_w_20 10) + (1 : Int32))))), (a_past, .inl (cI, 4080, .inl v_past)), (a_images, .inl (cI, 1020, .inl v_images)), (a_text, .inl (cI, 140, .inl v_text)), (a_rowOf, .inl (cI, 120, .inl v_rowOf)), (a_readLetter, .inl (cI, 120, .inl v_readLetter)), (a_readCue, .inl (cI, 120, .inl v_readCue)), (a_readPassage, .inl (cI, 120, .inl v_readPassage)), (a_held, .inl (cI, 510, .inl v_held))] := hD
          obtain ⟨a_45, ha_45, hF⟩ := bindE hF
          have ha_45 := Option.some.inj ha_45
          rw [ha_45] at hP hD
          refine lv_iinc (v := (x3_20 + 1)) (lv' := [(3, .int (x3_20 + 1)), (0, .ref aM), (1, .int x1_20), (2, .int x2_20)]) hx hb dX4_reached_46 hl (k := 3) rfl rfl (by decide) rfl (fun ls hl => ?_)
          refine lv_goto (tgt := 20) hx hb dX4_reached_49 (by decide) ?_
          exact ih20 x1_20 x2_20 (x3_20 + 1) a_45 hF _ _ hP hD hS _ (lv_sub hl [1, 2, 3, 0] rfl)
  unfold f_X4_reached at hF
  refine lv_aload_n hx hb dX4_reached_0 rfl (lv_at hl 0 rfl) ?_
  refine lv_iload_n hx hb dX4_reached_1 rfl (lv_at hl 1 rfl) ?_
  obtain ⟨q_2, hq_2, hF⟩ := bindE hF
  have hPc := hP
  refine vp_callSi (va_Run.run (va_runV (As := [.int p1]) (rest := []) ⟨hx, hb, hml, hown, hts⟩ (c_X4_isWord l dC dI cI cZ cO aM a_w a_past a_images a_text a_rowOf a_readLetter a_readCue a_readPassage a_held p1 v_w v_past v_pastMany v_images v_filled v_text v_length v_faultKind v_faultPlace v_rowOf v_rows v_wrongKind v_wrongPlace v_readWords v_readPassages v_readLetter v_readCue v_readPassage v_held q_2 hq_2) (cwV 1 hts gX4_reached_X4_isWord rfl rfl rfl (by decide +kernel) ⟨Nat.le_of_ble_eq_true rfl, Nat.le_of_ble_eq_true rfl⟩) ⟨fb_rd, va_recv hK hPc (ci := 4) (q0 := 0) rfl rfl, pre_rd hPc hK hN⟩ rfl rfl hl.1 rfl (lv_room (Nat.le_of_ble_eq_true rfl)) dX4_reached_2 ⟨Nat.zero_le _, Nat.zero_le _⟩)) (fun z_2 hz_2 => ?_)
  subst hz_2
  refine lv_if_ne (tgt := 10) hx hb dX4_reached_5 (by decide) (fun c_5 => ?_) (fun c_5 => ?_)
  · have hF := (if_neg c_5).symm.trans hF
    refine lv_aload_n hx hb dX4_reached_10 rfl (lv_at hl 0 rfl) ?_
    refine va_get (D := (dC, dI)) (ci := 4) (v := .ref a_w) (C := RX4) (T := TX4) (N := 19) hx hb hts inX4 hown hK hP 0 rfl rfl 0 (by decide) fl7 (fun _ h9 => h9) rfl dX4_reached_11 ?_
    refine lv_bipush (v := (10 : Int32)) hx hb dX4_reached_14 (by decide) ?_
    refine va_ialdK hx hb hK hP 1 0 rfl rfl (inK (by decide)) (j := 10) (by decide) dX4_reached_16 ?_
    refine lv_istore_n (lv' := [(2, .int (v_w 10)), (0, .ref aM), (1, .int p1)]) hx hb dX4_reached_17 rfl hl (by decide) rfl (fun ls hl => ?_)
    refine lv_iconst (v := (0 : Int32)) hx hb dX4_reached_18 (by decide) ?_
    refine lv_istore_n (lv' := [(3, .int (0 : Int32)), (2, .int (v_w 10)), (0, .ref aM), (1, .int p1)]) hx hb dX4_reached_19 rfl hl (by decide) rfl (fun ls hl => ?_)
    exact B20 gas p1 (v_w 10) (0 : Int32) v_w hF _ _ hP hD hS _ (lv_sub hl [2, 3, 1, 0] rfl)
  · have hF := (if_pos c_5).symm.trans hF
    refine lv_iconst (v := (-1 : Int32)) hx hb dX4_reached_8 (by decide) ?_
    have hF : some ((-1 : Int32), v_w) = some (r, o_w) := hF
    have hP9 := hP
    have hD9 := hD
    cases hF
    subst hQ
    subst hAe
    exact W.iret hx hb hr (fun t ht hW => ⟨⟨_, (), rfl, rfl, ⟨by rw [ht]; exact hP9, hD9⟩⟩, hS.F ht⟩) hS.2.2 dX4_reached_9
def f_X4_rehearse_47 (k33 : Int32 → (Nat → Int32) → Option (Int32 × (Nat → Int32) × (Nat → Int32))) (v_rowOf : (Nat → Int32)) (v_rows : Int32) (x1 : Int32) (x3 : Int32) (v_held : (Nat → Int32)) : Nat → Int32 → (Nat → Int32) → Option (Int32 × (Nat → Int32) × (Nat → Int32))
  | 0, _, _ => none
  | n + 1, x4, v_w =>
    if x1 ≤ x4 then
      if ((150 : Int32) + x3) < 0 ∨ 510 ≤ (((150 : Int32) + x3)).toNatClampNeg then none else
      (f_X4_hearNow (v_w ((((150 : Int32) + x3)).toNatClampNeg)) v_w).bind fun q74 =>
      (f_X4_nextCue q74.2).bind fun q80 =>
      if q80 = x3 then
        (f_X4_releaseNext q74.2).bind fun q88 =>
        k33 (x3 + 1) q88.2
      else
        k33 (x3 + 1) q74.2
    else
      (f_X4_tickOnce v_w v_rowOf v_rows).bind fun q54 =>
      f_X4_rehearse_47 k33 v_rowOf v_rows x1 x3 v_held n (x4 + 1) q54
def f_X4_rehearse_33 (v_rowOf : (Nat → Int32)) (v_rows : Int32) (x1 : Int32) (x2 : Int32) (v_held : (Nat → Int32)) : Nat → Int32 → (Nat → Int32) → Option (Int32 × (Nat → Int32) × (Nat → Int32))
  | 0, _, _ => none
  | n + 1, x3, v_w =>
    if (v_w 9) ≤ x3 then
      (f_X4_restore v_w v_held).bind fun q175 =>
      if x2 = (0 : Int32) then
        some (((v_w 18) - (v_held 18)), q175, v_held)
      else
        if x2 = (1 : Int32) then
          some (((((v_w 15) - (v_held 15)) + (v_w 16)) - (v_held 16)), q175, v_held)
        else
          if x2 = (2 : Int32) then
            some (((v_w 17) - (v_held 17)), q175, v_held)
          else
            some ((v_w 11), q175, v_held)
    else
      f_X4_rehearse_47 (f_X4_rehearse_33 v_rowOf v_rows x1 x2 v_held n) v_rowOf v_rows x1 x3 v_held gas (0 : Int32) v_w
def f_X4_rehearse (p1 : Int32) (p2 : Int32) (v_w : (Nat → Int32)) (v_rowOf : (Nat → Int32)) (v_rows : Int32) (v_held : (Nat → Int32)) : Option (Int32 × (Nat → Int32) × (Nat → Int32)) :=
  (f_X4_isIn p1 (1 : Int32) (10 : Int32)).bind fun q4 =>
  if q4 = (0 : Int32) then
    some ((-1 : Int32), v_w, v_held)
  else
    (f_X4_isIn p2 (0 : Int32) (3 : Int32)).bind fun q13 =>
    if q13 = (0 : Int32) then
      some ((-1 : Int32), v_w, v_held)
    else
      (f_X4_hold v_w v_held).bind fun q22 =>
      f_X4_rehearse_33 v_rowOf v_rows p1 p2 q22 gas (q22 11) v_w
def rm_X4_rehearse : Room := { frames := 4, cells := 0, slots := 0, locals := 86 }
set_option maxHeartbeats 4000000 in
set_option maxRecDepth 100000 in
theorem c_X4_rehearse (l : Launch) (dC : Nat → ClassId) (dI : Nat → Nat → Nat) (cI cZ cO : ClassId) (aM a_w a_past a_images a_text a_rowOf a_readLetter a_readCue a_readPassage a_held : Nat) (sz : Nat) (p1 : Int32) (p2 : Int32) (v_w : (Nat → Int32)) (v_past : (Nat → Int32)) (v_pastMany : Int32) (v_images : (Nat → Int32)) (v_filled : Int32) (v_text : (Nat → Int32)) (v_length : Int32) (v_faultKind : Int32) (v_faultPlace : Int32) (v_rowOf : (Nat → Int32)) (v_rows : Int32) (v_wrongKind : Int32) (v_wrongPlace : Int32) (v_readWords : Int32) (v_readPassages : Int32) (v_readLetter : (Nat → Int32)) (v_readCue : (Nat → Int32)) (v_readPassage : (Nat → Int32)) (v_held : (Nat → Int32)) (r : Int32) (o_w : (Nat → Int32)) (o_held : (Nat → Int32)) (hF : f_X4_rehearse p1 p2 v_w v_rowOf v_rows v_held = some (r, o_w, o_held)) : Met l yX4_rehearse wsX4_rehearse rm_X4_rehearse (va_Pc [.ref aM, .int p1, .int p2] (wrW dC dI cI cZ cO sz [(aM, .inr (4, [.ref a_w, .ref a_past, .int v_pastMany, .ref a_images, .int v_filled, .ref a_text, .int v_length, .int v_faultKind, .int v_faultPlace, .ref a_rowOf, .int v_rows, .int v_wrongKind, .int v_wrongPlace, .int v_readWords, .int v_readPassages, .ref a_readLetter, .ref a_readCue, .ref a_readPassage, .ref a_held])), (a_w, .inl (cI, 510, .inl v_w)), (a_past, .inl (cI, 4080, .inl v_past)), (a_images, .inl (cI, 1020, .inl v_images)), (a_text, .inl (cI, 140, .inl v_text)), (a_rowOf, .inl (cI, 120, .inl v_rowOf)), (a_readLetter, .inl (cI, 120, .inl v_readLetter)), (a_readCue, .inl (cI, 120, .inl v_readCue)), (a_readPassage, .inl (cI, 120, .inl v_readPassage)), (a_held, .inl (cI, 510, .inl v_held))])) (va_Qi (fun (q : Int32) (_ : Unit) => r = q) (wrE dC dI [(aM, .inr (4, [.ref a_w, .ref a_past, .int v_pastMany, .ref a_images, .int v_filled, .ref a_text, .int v_length, .int v_faultKind, .int v_faultPlace, .ref a_rowOf, .int v_rows, .int v_wrongKind, .int v_wrongPlace, .int v_readWords, .int v_readPassages, .ref a_readLetter, .ref a_readCue, .ref a_readPassage, .ref a_held])), (a_w, .inl (cI, 510, .inl v_w)), (a_past, .inl (cI, 4080, .inl v_past)), (a_images, .inl (cI, 1020, .inl v_images)), (a_text, .inl (cI, 140, .inl v_text)), (a_rowOf, .inl (cI, 120, .inl v_rowOf)), (a_readLetter, .inl (cI, 120, .inl v_readLetter)), (a_readCue, .inl (cI, 120, .inl v_readCue)), (a_readPassage, .inl (cI, 120, .inl v_readPassage)), (a_held, .inl (cI, 510, .inl v_held))] sz [(aM, .inr (4, [.ref a_w, .ref a_past, .int v_pastMany, .ref a_images, .int v_filled, .ref a_text, .int v_length, .int v_faultKind, .int v_faultPlace, .ref a_rowOf, .int v_rows, .int v_wrongKind, .int v_wrongPlace, .int v_readWords, .int v_readPassages, .ref a_readLetter, .ref a_readCue, .ref a_readPassage, .ref a_held])), (a_w, .inl (cI, 510, .inl o_w)), (a_past, .inl (cI, 4080, .inl v_past)), (a_images, .inl (cI, 1020, .inl v_images)), (a_text, .inl (cI, 140, .inl v_text)), (a_rowOf, .inl (cI, 120, .inl v_rowOf)), (a_readLetter, .inl (cI, 120, .inl v_readLetter)), (a_readCue, .inl (cI, 120, .inl v_readCue)), (a_readPassage, .inl (cI, 120, .inl v_readPassage)), (a_held, .inl (cI, 510, .inl o_held))]) (va_A [(aM, .inr (4, [.ref a_w, .ref a_past, .int v_pastMany, .ref a_images, .int v_filled, .ref a_text, .int v_length, .int v_faultKind, .int v_faultPlace, .ref a_rowOf, .int v_rows, .int v_wrongKind, .int v_wrongPlace, .int v_readWords, .int v_readPassages, .ref a_readLetter, .ref a_readCue, .ref a_readPassage, .ref a_held])), (a_w, .inl (cI, 510, .inl v_w)), (a_past, .inl (cI, 4080, .inl v_past)), (a_images, .inl (cI, 1020, .inl v_images)), (a_text, .inl (cI, 140, .inl v_text)), (a_rowOf, .inl (cI, 120, .inl v_rowOf)), (a_readLetter, .inl (cI, 120, .inl v_readLetter)), (a_readCue, .inl (cI, 120, .inl v_readCue)), (a_readPassage, .inl (cI, 120, .inl v_readPassage)), (a_held, .inl (cI, 510, .inl v_held))] sz)) 0 0 (va_A [(aM, .inr (4, [.ref a_w, .ref a_past, .int v_pastMany, .ref a_images, .int v_filled, .ref a_text, .int v_length, .int v_faultKind, .int v_faultPlace, .ref a_rowOf, .int v_rows, .int v_wrongKind, .int v_wrongPlace, .int v_readWords, .int v_readPassages, .ref a_readLetter, .ref a_readCue, .ref a_readPassage, .ref a_held])), (a_w, .inl (cI, 510, .inl v_w)), (a_past, .inl (cI, 4080, .inl v_past)), (a_images, .inl (cI, 1020, .inl v_images)), (a_text, .inl (cI, 140, .inl v_text)), (a_rowOf, .inl (cI, 120, .inl v_rowOf)), (a_readLetter, .inl (cI, 120, .inl v_readLetter)), (a_readCue, .inl (cI, 120, .inl v_readCue)), (a_readPassage, .inl (cI, 120, .inl v_readPassage)), (a_held, .inl (cI, 510, .inl v_held))] sz) := by
  refine Met.ofW (cc := cX4_rehearse) (maxL := 7) (ret := (some .int)) (by decide) rfl ?_
  intro p e s m args below meth c s₁ B hml hv
  obtain ⟨rfl, hsz, hP, hK, hN, hD0⟩ := hv
  have hx := B.exec
  have hb := B.bytes
  have hr := B.returns
  have hts := atoms_spec (ws := wsX4_rehearse) B.pre
  have hown : s.vm.findClass RX4 = some m.cls := findClass_of_methodNamed B.named
  have hlocks := B.notSynchronized
  subst hsz
  have hD := hD0.self (sz := s.heap.size)
  obtain ⟨Q, hQ⟩ : ∃ Q, Q = MQ below (va_Qi (fun (q : Int32) (_ : Unit) => r = q) (wrE dC dI [(aM, .inr (4, [.ref a_w, .ref a_past, .int v_pastMany, .ref a_images, .int v_filled, .ref a_text, .int v_length, .int v_faultKind, .int v_faultPlace, .ref a_rowOf, .int v_rows, .int v_wrongKind, .int v_wrongPlace, .int v_readWords, .int v_readPassages, .ref a_readLetter, .ref a_readCue, .ref a_readPassage, .ref a_held])), (a_w, .inl (cI, 510, .inl v_w)), (a_past, .inl (cI, 4080, .inl v_past)), (a_images, .inl (cI, 1020, .inl v_images)), (a_text, .inl (cI, 140, .inl v_text)), (a_rowOf, .inl (cI, 120, .inl v_rowOf)), (a_readLetter, .inl (cI, 120, .inl v_readLetter)), (a_readCue, .inl (cI, 120, .inl v_readCue)), (a_readPassage, .inl (cI, 120, .inl v_readPassage)), (a_held, .inl (cI, 510, .inl v_held))] s.heap.size [(aM, .inr (4, [.ref a_w, .ref a_past, .int v_pastMany, .ref a_images, .int v_filled, .ref a_text, .int v_length, .int v_faultKind, .int v_faultPlace, .ref a_rowOf, .int v_rows, .int v_wrongKind, .int v_wrongPlace, .int v_readWords, .int v_readPassages, .ref a_readLetter, .ref a_readCue, .ref a_readPassage, .ref a_held])), (a_w, .inl (cI, 510, .inl o_w)), (a_past, .inl (cI, 4080, .inl v_past)), (a_images, .inl (cI, 1020, .inl v_images)), (a_text, .inl (cI, 140, .inl v_text)), (a_rowOf, .inl (cI, 120, .inl v_rowOf)), (a_readLetter, .inl (cI, 120, .inl v_readLetter)), (a_readCue, .inl (cI, 120, .inl v_readCue)), (a_readPassage, .inl (cI, 120, .inl v_readPassage)), (a_held, .inl (cI, 510, .inl o_held))]) (va_A [(aM, .inr (4, [.ref a_w, .ref a_past, .int v_pastMany, .ref a_images, .int v_filled, .ref a_text, .int v_length, .int v_faultKind, .int v_faultPlace, .ref a_rowOf, .int v_rows, .int v_wrongKind, .int v_wrongPlace, .int v_readWords, .int v_readPassages, .ref a_readLetter, .ref a_readCue, .ref a_readPassage, .ref a_held])), (a_w, .inl (cI, 510, .inl v_w)), (a_past, .inl (cI, 4080, .inl v_past)), (a_images, .inl (cI, 1020, .inl v_images)), (a_text, .inl (cI, 140, .inl v_text)), (a_rowOf, .inl (cI, 120, .inl v_rowOf)), (a_readLetter, .inl (cI, 120, .inl v_readLetter)), (a_readCue, .inl (cI, 120, .inl v_readCue)), (a_readPassage, .inl (cI, 120, .inl v_readPassage)), (a_held, .inl (cI, 510, .inl v_held))] s.heap.size)) ([.ref aM, .int p1, .int p2] : List Value).toArray s 0 0 (va_A [(aM, .inr (4, [.ref a_w, .ref a_past, .int v_pastMany, .ref a_images, .int v_filled, .ref a_text, .int v_length, .int v_faultKind, .int v_faultPlace, .ref a_rowOf, .int v_rows, .int v_wrongKind, .int v_wrongPlace, .int v_readWords, .int v_readPassages, .ref a_readLetter, .ref a_readCue, .ref a_readPassage, .ref a_held])), (a_w, .inl (cI, 510, .inl v_w)), (a_past, .inl (cI, 4080, .inl v_past)), (a_images, .inl (cI, 1020, .inl v_images)), (a_text, .inl (cI, 140, .inl v_text)), (a_rowOf, .inl (cI, 120, .inl v_rowOf)), (a_readLetter, .inl (cI, 120, .inl v_readLetter)), (a_readCue, .inl (cI, 120, .inl v_readCue)), (a_readPassage, .inl (cI, 120, .inl v_readPassage)), (a_held, .inl (cI, 510, .inl v_held))] s.heap.size) := ⟨_, rfl⟩
  rw [← hQ]
  obtain ⟨A, hAe⟩ : ∃ A, A = va_A [(aM, .inr (4, [.ref a_w, .ref a_past, .int v_pastMany, .ref a_images, .int v_filled, .ref a_text, .int v_length, .int v_faultKind, .int v_faultPlace, .ref a_rowOf, .int v_rows, .int v_wrongKind, .int v_wrongPlace, .int v_readWords, .int v_readPassages, .ref a_readLetter, .ref a_readCue, .ref a_readPassage, .ref a_held])), (a_w, .inl (cI, 510, .inl v_w)), (a_past, .inl (cI, 4080, .inl v_past)), (a_images, .inl (cI, 1020, .inl v_images)), (a_text, .inl (cI, 140, .inl v_text)), (a_rowOf, .inl (cI, 120, .inl v_rowOf)), (a_readLetter, .inl (cI, 120, .inl v_readLetter)), (a_readCue, .inl (cI, 120, .inl v_readCue)), (a_readPassage, .inl (cI, 120, .inl v_readPassage)), (a_held, .inl (cI, 510, .inl v_held))] s.heap.size := ⟨_, rfl⟩
  rw [← hAe] at hD
  have hA : ∀ q : Nat, s.heap.size ≤ q → A q := fun q h => by rw [hAe]; exact Or.inr h
  obtain ⟨H, hH⟩ : ∃ H, H = s.heap := ⟨_, rfl⟩
  have hS : va_S A s.heap H [] := by rw [hH]; exact va_S.rf
  rw [← hH] at hP
  rw [← hH]
  have fl7 := hts (.fieldLink RX4 7 "TeleprompterModel" "w" "[I") (by decide +kernel)
  have fl41 := hts (.fieldLink RX4 41 "TeleprompterModel" "held" "[I") (by decide +kernel)
  have inX4 : ∀ w ∈ u_ws RX4 TX4 19, w ∈ wsX4_rehearse := by decide +kernel
  have hl := lv_entry ([.ref aM, .int p1, .int p2]) (n := 7) (Nat.le_of_ble_eq_true rfl)
  rw [lg_entry_eq]
  generalize (lg_sl ([.ref aM, .int p1, .int p2]) ++ List.replicate (7 - (lg_sl ([.ref aM, .int p1, .int p2])).length) Slot.unset).toArray = ls at hl ⊢
  have hl : lv_has ls 7 [(0, .ref aM), (1, .int p1), (2, .int p2)] := hl
  have B33 : ∀ (n_33 : Nat) (x1_33 : Int32) (x2_33 : Int32) (v_held_33 : (Nat → Int32)) (x3_33 : Int32) (v_w_33 : (Nat → Int32)), f_X4_rehearse_33 v_rowOf v_rows x1_33 x2_33 v_held_33 n_33 x3_33 v_w_33 = some (r, o_w, o_held) → ∀ (H : Heap) (locs : List Loc), va_P (dC, dI) vwCl [(aM, .inr (4, [.ref a_w, .ref a_past, .int v_pastMany, .ref a_images, .int v_filled, .ref a_text, .int v_length, .int v_faultKind, .int v_faultPlace, .ref a_rowOf, .int v_rows, .int v_wrongKind, .int v_wrongPlace, .int v_readWords, .int v_readPassages, .ref a_readLetter, .ref a_readCue, .ref a_readPassage, .ref a_held])), (a_w, .inl (cI, 510, .inl v_w_33)), (a_past, .inl (cI, 4080, .inl v_past)), (a_images, .inl (cI, 1020, .inl v_images)), (a_text, .inl (cI, 140, .inl v_text)), (a_rowOf, .inl (cI, 120, .inl v_rowOf)), (a_readLetter, .inl (cI, 120, .inl v_readLetter)), (a_readCue, .inl (cI, 120, .inl v_readCue)), (a_readPassage, .inl (cI, 120, .inl v_readPassage)), (a_held, .inl (cI, 510, .inl v_held_33))] H → va_D A [(aM, .inr (4, [.ref a_w, .ref a_past, .int v_pastMany, .ref a_images, .int v_filled, .ref a_text, .int v_length, .int v_faultKind, .int v_faultPlace, .ref a_rowOf, .int v_rows, .int v_wrongKind, .int v_wrongPlace, .int v_readWords, .int v_readPassages, .ref a_readLetter, .ref a_readCue, .ref a_readPassage, .ref a_held])), (a_w, .inl (cI, 510, .inl v_w_33)), (a_past, .inl (cI, 4080, .inl v_past)), (a_images, .inl (cI, 1020, .inl v_images)), (a_text, .inl (cI, 140, .inl v_text)), (a_rowOf, .inl (cI, 120, .inl v_rowOf)), (a_readLetter, .inl (cI, 120, .inl v_readLetter)), (a_readCue, .inl (cI, 120, .inl v_readCue)), (a_readPassage, .inl (cI, 120, .inl v_readPassage)), (a_held, .inl (cI, 510, .inl v_held_33))] → va_S A s.heap H locs → ∀ ls : Array Slot, lv_has ls 7 [(0, .ref aM), (1, .int x1_33), (2, .int x2_33), (3, .int x3_33)] → W p l e (headSpec wsX4_rehearse rm_X4_rehearse).room s m ([.ref aM, .int p1, .int p2] : List Value).toArray below meth c H locs 0 0 Q (F0 m 33 ls []) := by
    intro n_33
    induction n_33 with
    | zero => intro x1_33 x2_33 v_held_33 x3_33 v_w_33 hF; exact noneE hF
    | succ n_33 ih33 =>
      intro x1_33 x2_33 v_held_33 x3_33 v_w_33 hF H locs hP hD hS ls hl
      have B47 : ∀ (n_47 : Nat) (x3_47 : Int32) (x4_47 : Int32) (v_w_47 : (Nat → Int32)), f_X4_rehearse_47 (f_X4_rehearse_33 v_rowOf v_rows x1_33 x2_33 v_held_33 n_33) v_rowOf v_rows x1_33 x3_47 v_held_33 n_47 x4_47 v_w_47 = some (r, o_w, o_held) → ∀ (H : Heap) (locs : List Loc), va_P (dC, dI) vwCl [(aM, .inr (4, [.ref a_w, .ref a_past, .int v_pastMany, .ref a_images, .int v_filled, .ref a_text, .int v_length, .int v_faultKind, .int v_faultPlace, .ref a_rowOf, .int v_rows, .int v_wrongKind, .int v_wrongPlace, .int v_readWords, .int v_readPassages, .ref a_readLetter, .ref a_readCue, .ref a_readPassage, .ref a_held])), (a_w, .inl (cI, 510, .inl v_w_47)), (a_past, .inl (cI, 4080, .inl v_past)), (a_images, .inl (cI, 1020, .inl v_images)), (a_text, .inl (cI, 140, .inl v_text)), (a_rowOf, .inl (cI, 120, .inl v_rowOf)), (a_readLetter, .inl (cI, 120, .inl v_readLetter)), (a_readCue, .inl (cI, 120, .inl v_readCue)), (a_readPassage, .inl (cI, 120, .inl v_readPassage)), (a_held, .inl (cI, 510, .inl v_held_33))] H → va_D A [(aM, .inr (4, [.ref a_w, .ref a_past, .int v_pastMany, .ref a_images, .int v_filled, .ref a_text, .int v_length, .int v_faultKind, .int v_faultPlace, .ref a_rowOf, .int v_rows, .int v_wrongKind, .int v_wrongPlace, .int v_readWords, .int v_readPassages, .ref a_readLetter, .ref a_readCue, .ref a_readPassage, .ref a_held])), (a_w, .inl (cI, 510, .inl v_w_47)), (a_past, .inl (cI, 4080, .inl v_past)), (a_images, .inl (cI, 1020, .inl v_images)), (a_text, .inl (cI, 140, .inl v_text)), (a_rowOf, .inl (cI, 120, .inl v_rowOf)), (a_readLetter, .inl (cI, 120, .inl v_readLetter)), (a_readCue, .inl (cI, 120, .inl v_readCue)), (a_readPassage, .inl (cI, 120, .inl v_readPassage)), (a_held, .inl (cI, 510, .inl v_held_33))] → va_S A s.heap H locs → ∀ ls : Array Slot, lv_has ls 7 [(0, .ref aM), (1, .int x1_33), (2, .int x2_33), (3, .int x3_47), (4, .int x4_47)] → W p l e (headSpec wsX4_rehearse rm_X4_rehearse).room s m ([.ref aM, .int p1, .int p2] : List Value).toArray below meth c H locs 0 0 Q (F0 m 47 ls []) := by
        intro n_47
        induction n_47 with
        | zero => intro x3_47 x4_47 v_w_47 hF; exact noneE hF
        | succ n_47 ih47 =>
          intro x3_47 x4_47 v_w_47 hF H locs hP hD hS ls hl
          rw [f_X4_rehearse_47] at hF
          refine lv_iload hx hb dX4_rehearse_47 (lv_at hl 4 rfl) ?_
          refine lv_iload_n hx hb dX4_rehearse_49 rfl (lv_at hl 1 rfl) ?_
          refine lv_icmp_ge (tgt := 63) hx hb dX4_rehearse_50 (by decide) (fun c_50 => ?_) (fun c_50 => ?_)
          · have hF := (if_pos c_50).symm.trans hF
            refine lv_aload_n hx hb dX4_rehearse_63 rfl (lv_at hl 0 rfl) ?_
            refine lv_aload_n hx hb dX4_rehearse_64 rfl (lv_at hl 0 rfl) ?_
            refine va_get (D := (dC, dI)) (ci := 4) (v := .ref a_w) (C := RX4) (T := TX4) (N := 19) hx hb hts inX4 hown hK hP 0 rfl rfl 0 (by decide) fl7 (fun _ h9 => h9) rfl dX4_rehearse_65 ?_
            refine lv_sipush (v := (150 : Int32)) hx hb dX4_rehearse_68 (by decide) ?_
            refine lv_iload_n hx hb dX4_rehearse_71 rfl (lv_at hl 3 rfl) ?_
            refine lv_iadd hx hb dX4_rehearse_72 ?_
            by_cases b_73 : (((150 : Int32) + x3_47) < 0 ∨ 510 ≤ (((150 : Int32) + x3_47)).toNatClampNeg)
            · exact noneE ((if_pos b_73).symm.trans hF)
            have hF := (if_neg b_73).symm.trans hF
            refine va_iald hx hb hK hP 1 0 rfl rfl b_73 dX4_rehearse_73 ?_
            obtain ⟨q_74, hq_74, hF⟩ := bindE hF
            obtain ⟨r_74, u_74_w⟩ := q_74
            have hPc := hP
            have hDc := hD
            have hFc := va_free (wc := [(aM, .inr (4, [.ref a_w, .ref a_past, .int v_pastMany, .ref a_images, .int v_filled, .ref a_text, .int v_length, .int v_faultKind, .int v_faultPlace, .ref a_rowOf, .int v_rows, .int v_wrongKind, .int v_wrongPlace, .int v_readWords, .int v_readPassages, .ref a_readLetter, .ref a_readCue, .ref a_readPassage, .ref a_held])), (a_w, .inl (cI, 510, .inl v_w_47)), (a_past, .inl (cI, 4080, .inl v_past)), (a_images, .inl (cI, 1020, .inl v_images)), (a_text, .inl (cI, 140, .inl v_text)), (a_rowOf, .inl (cI, 120, .inl v_rowOf)), (a_readLetter, .inl (cI, 120, .inl v_readLetter)), (a_readCue, .inl (cI, 120, .inl v_readCue)), (a_readPassage, .inl (cI, 120, .inl v_readPassage)), (a_held, .inl (cI, 510, .inl v_held_33))]) hD hS hA [0, 1, 2, 3, 4, 5, 6, 7, 8, 9] rfl
            refine va_calli (va_runV (As := [.int (v_w_47 ((((150 : Int32) + x3_47)).toNatClampNeg))]) (rest := []) ⟨hx, hb, hml, hown, hts⟩ (c_X4_hearNow l dC dI cI cZ cO aM a_w a_past a_images a_text a_rowOf a_readLetter a_readCue a_readPassage a_held H.size (v_w_47 ((((150 : Int32) + x3_47)).toNatClampNeg)) v_w_47 v_past v_pastMany v_images v_filled v_text v_length v_faultKind v_faultPlace v_rowOf v_rows v_wrongKind v_wrongPlace v_readWords v_readPassages v_readLetter v_readCue v_readPassage v_held_33 r_74 u_74_w hq_74) (cwV 1 hts gX4_rehearse_X4_hearNow rfl rfl rfl (by decide +kernel) ⟨Nat.le_of_ble_eq_true rfl, Nat.le_of_ble_eq_true rfl⟩) ⟨fb_wr, va_recv hK hPc (ci := 4) (q0 := 0) rfl rfl, pre_wr hPc hK hN hDc⟩ rfl rfl hl.1 rfl (lv_room (Nat.le_of_ble_eq_true rfl)) dX4_rehearse_74 ⟨Nat.zero_le _, Nat.zero_le _⟩) hS (fun q _ h => hFc q h) hFc (fun z_74 _ t H1 locs ht hvm hw hB hz1 hk1 hS => ?_)
            subst hw
            obtain ⟨hP1, hD1⟩ := hB
            rw [ht] at hP1
            obtain ⟨hP, hD⟩ := va_join (wr := []) (w1 := [(aM, .inr (4, [.ref a_w, .ref a_past, .int v_pastMany, .ref a_images, .int v_filled, .ref a_text, .int v_length, .int v_faultKind, .int v_faultPlace, .ref a_rowOf, .int v_rows, .int v_wrongKind, .int v_wrongPlace, .int v_readWords, .int v_readPassages, .ref a_readLetter, .ref a_readCue, .ref a_readPassage, .ref a_held])), (a_w, .inl (cI, 510, .inl u_74_w)), (a_past, .inl (cI, 4080, .inl v_past)), (a_images, .inl (cI, 1020, .inl v_images)), (a_text, .inl (cI, 140, .inl v_text)), (a_rowOf, .inl (cI, 120, .inl v_rowOf)), (a_readLetter, .inl (cI, 120, .inl v_readLetter)), (a_readCue, .inl (cI, 120, .inl v_readCue)), (a_readPassage, .inl (cI, 120, .inl v_readPassage)), (a_held, .inl (cI, 510, .inl v_held_33))]) hP hD [0, 1, 2, 3, 4, 5, 6, 7, 8, 9] [] rfl rfl (by decide) (by decide) hk1 hFc hP1 hD1
            generalize H1 = H at hP hS ⊢
            have hP : va_P (dC, dI) vwCl [(aM, .inr (4, [.ref a_w, .ref a_past, .int v_pastMany, .ref a_images, .int v_filled, .ref a_text, .int v_length, .int v_faultKind, .int v_faultPlace, .ref a_rowOf, .int v_rows, .int v_wrongKind, .int v_wrongPlace, .int v_readWords, .int v_readPassages, .ref a_readLetter, .ref a_readCue, .ref a_readPassage, .ref a_held])), (a_w, .inl (cI, 510, .inl u_74_w)), (a_past, .inl (cI, 4080, .inl v_past)), (a_images, .inl (cI, 1020, .inl v_images)), (a_text, .inl (cI, 140, .inl v_text)), (a_rowOf, .inl (cI, 120, .inl v_rowOf)), (a_readLetter, .inl (cI, 120, .inl v_readLetter)), (a_readCue, .inl (cI, 120, .inl v_readCue)), (a_readPassage, .inl (cI, 120, .inl v_readPassage)), (a_held, .inl (cI, 510, .inl v_held_33))] H := hP
            have hD : va_D A [(aM, .inr (4, [.ref a_w, .ref a_past, .int v_pastMany, .ref a_images, .int v_filled, .ref a_text, .int v_length, .int v_faultKind, .int v_faultPlace, .ref a_rowOf, .int v_rows, .int v_wrongKind, .int v_wrongPlace, .int v_readWords, .int v_readPassages, .ref a_readLetter, .ref a_readCue, .ref a_readPassage, .ref a_held])), (a_w, .inl (cI, 510, .inl u_74_w)), (a_past, .inl (cI, 4080, .inl v_past)), (a_images, .inl (cI, 1020, .inl v_images)), (a_text, .inl (cI, 140, .inl v_text)), (a_rowOf, .inl (cI, 120, .inl v_rowOf)), (a_readLetter, .inl (cI, 120, .inl v_readLetter)), (a_readCue, .inl (cI, 120, .inl v_readCue)), (a_readPassage, .inl (cI, 120, .inl v_readPassage)), (a_held, .inl (cI, 510, .inl v_held_33))] := hD
            refine lv_istore (lv' := [(4, .int r_74), (0, .ref aM), (1, .int x1_33), (2, .int x2_33), (3, .int x3_47)]) hx hb dX4_rehearse_77 hl (by decide) rfl (fun ls hl => ?_)
            refine lv_aload_n hx hb dX4_rehearse_79 rfl (lv_at hl 1 rfl) ?_
            obtain ⟨q_80, hq_80, hF⟩ := bindE hF
            have hPc := hP
            refine vp_callSi (va_Run.run (va_runV (As := []) (rest := []) ⟨hx, hb, hml, hown, hts⟩ (c_X4_nextCue l dC dI cI cZ cO aM a_w a_past a_images a_text a_rowOf a_readLetter a_readCue a_readPassage a_held u_74_w v_past v_pastMany v_images v_filled v_text v_length v_faultKind v_faultPlace v_rowOf v_rows v_wrongKind v_wrongPlace v_readWords v_readPassages v_readLetter v_readCue v_readPassage v_held_33 q_80 hq_80) (cwV 0 hts gX4_rehearse_X4_nextCue rfl rfl rfl (by decide +kernel) ⟨Nat.le_of_ble_eq_true rfl, Nat.le_of_ble_eq_true rfl⟩) ⟨fb_rd, va_recv hK hPc (ci := 4) (q0 := 0) rfl rfl, pre_rd hPc hK hN⟩ rfl rfl hl.1 rfl (lv_room (Nat.le_of_ble_eq_true rfl)) dX4_rehearse_80 ⟨Nat.zero_le _, Nat.zero_le _⟩)) (fun z_80 hz_80 => ?_)
            subst hz_80
            refine lv_iload_n hx hb dX4_rehearse_83 rfl (lv_at hl 4 rfl) ?_
            refine lv_icmp_ne (tgt := 93) hx hb dX4_rehearse_84 (by decide) (fun c_84 => ?_) (fun c_84 => ?_)
            · have hF := (if_neg c_84).symm.trans hF
              refine lv_iinc (v := (x3_47 + 1)) (lv' := [(3, .int (x3_47 + 1)), (4, .int r_74), (0, .ref aM), (1, .int x1_33), (2, .int x2_33)]) hx hb dX4_rehearse_93 hl (k := 4) rfl rfl (by decide) rfl (fun ls hl => ?_)
              refine lv_goto (tgt := 33) hx hb dX4_rehearse_96 (by decide) ?_
              exact ih33 x1_33 x2_33 v_held_33 (x3_47 + 1) u_74_w hF _ _ hP hD hS _ (lv_sub hl [2, 3, 4, 0] rfl)
            · have hF := (if_pos c_84).symm.trans hF
              refine lv_aload_n hx hb dX4_rehearse_87 rfl (lv_at hl 1 rfl) ?_
              obtain ⟨q_88, hq_88, hF⟩ := bindE hF
              obtain ⟨r_88, u_88_w⟩ := q_88
              have hPc := hP
              have hDc := hD
              have hFc := va_free (wc := [(aM, .inr (4, [.ref a_w, .ref a_past, .int v_pastMany, .ref a_images, .int v_filled, .ref a_text, .int v_length, .int v_faultKind, .int v_faultPlace, .ref a_rowOf, .int v_rows, .int v_wrongKind, .int v_wrongPlace, .int v_readWords, .int v_readPassages, .ref a_readLetter, .ref a_readCue, .ref a_readPassage, .ref a_held])), (a_w, .inl (cI, 510, .inl u_74_w)), (a_past, .inl (cI, 4080, .inl v_past)), (a_images, .inl (cI, 1020, .inl v_images)), (a_text, .inl (cI, 140, .inl v_text)), (a_rowOf, .inl (cI, 120, .inl v_rowOf)), (a_readLetter, .inl (cI, 120, .inl v_readLetter)), (a_readCue, .inl (cI, 120, .inl v_readCue)), (a_readPassage, .inl (cI, 120, .inl v_readPassage)), (a_held, .inl (cI, 510, .inl v_held_33))]) hD hS hA [0, 1, 2, 3, 4, 5, 6, 7, 8, 9] rfl
              refine va_calli (va_runV (As := []) (rest := []) ⟨hx, hb, hml, hown, hts⟩ (c_X4_releaseNext l dC dI cI cZ cO aM a_w a_past a_images a_text a_rowOf a_readLetter a_readCue a_readPassage a_held H.size u_74_w v_past v_pastMany v_images v_filled v_text v_length v_faultKind v_faultPlace v_rowOf v_rows v_wrongKind v_wrongPlace v_readWords v_readPassages v_readLetter v_readCue v_readPassage v_held_33 r_88 u_88_w hq_88) (cwV 0 hts gX4_rehearse_X4_releaseNext rfl rfl rfl (by decide +kernel) ⟨Nat.le_of_ble_eq_true rfl, Nat.le_of_ble_eq_true rfl⟩) ⟨fb_wr, va_recv hK hPc (ci := 4) (q0 := 0) rfl rfl, pre_wr hPc hK hN hDc⟩ rfl rfl hl.1 rfl (lv_room (Nat.le_of_ble_eq_true rfl)) dX4_rehearse_88 ⟨Nat.zero_le _, Nat.zero_le _⟩) hS (fun q _ h => hFc q h) hFc (fun z_88 _ t H1 locs ht hvm hw hB hz1 hk1 hS => ?_)
              subst hw
              obtain ⟨hP1, hD1⟩ := hB
              rw [ht] at hP1
              obtain ⟨hP, hD⟩ := va_join (wr := []) (w1 := [(aM, .inr (4, [.ref a_w, .ref a_past, .int v_pastMany, .ref a_images, .int v_filled, .ref a_text, .int v_length, .int v_faultKind, .int v_faultPlace, .ref a_rowOf, .int v_rows, .int v_wrongKind, .int v_wrongPlace, .int v_readWords, .int v_readPassages, .ref a_readLetter, .ref a_readCue, .ref a_readPassage, .ref a_held])), (a_w, .inl (cI, 510, .inl u_88_w)), (a_past, .inl (cI, 4080, .inl v_past)), (a_images, .inl (cI, 1020, .inl v_images)), (a_text, .inl (cI, 140, .inl v_text)), (a_rowOf, .inl (cI, 120, .inl v_rowOf)), (a_readLetter, .inl (cI, 120, .inl v_readLetter)), (a_readCue, .inl (cI, 120, .inl v_readCue)), (a_readPassage, .inl (cI, 120, .inl v_readPassage)), (a_held, .inl (cI, 510, .inl v_held_33))]) hP hD [0, 1, 2, 3, 4, 5, 6, 7, 8, 9] [] rfl rfl (by decide) (by decide) hk1 hFc hP1 hD1
              generalize H1 = H at hP hS ⊢
              have hP : va_P (dC, dI) vwCl [(aM, .inr (4, [.ref a_w, .ref a_past, .int v_pastMany, .ref a_images, .int v_filled, .ref a_text, .int v_length, .int v_faultKind, .int v_faultPlace, .ref a_rowOf, .int v_rows, .int v_wrongKind, .int v_wrongPlace, .int v_readWords, .int v_readPassages, .ref a_readLetter, .ref a_readCue, .ref a_readPassage, .ref a_held])), (a_w, .inl (cI, 510, .inl u_88_w)), (a_past, .inl (cI, 4080, .inl v_past)), (a_images, .inl (cI, 1020, .inl v_images)), (a_text, .inl (cI, 140, .inl v_text)), (a_rowOf, .inl (cI, 120, .inl v_rowOf)), (a_readLetter, .inl (cI, 120, .inl v_readLetter)), (a_readCue, .inl (cI, 120, .inl v_readCue)), (a_readPassage, .inl (cI, 120, .inl v_readPassage)), (a_held, .inl (cI, 510, .inl v_held_33))] H := hP
              have hD : va_D A [(aM, .inr (4, [.ref a_w, .ref a_past, .int v_pastMany, .ref a_images, .int v_filled, .ref a_text, .int v_length, .int v_faultKind, .int v_faultPlace, .ref a_rowOf, .int v_rows, .int v_wrongKind, .int v_wrongPlace, .int v_readWords, .int v_readPassages, .ref a_readLetter, .ref a_readCue, .ref a_readPassage, .ref a_held])), (a_w, .inl (cI, 510, .inl u_88_w)), (a_past, .inl (cI, 4080, .inl v_past)), (a_images, .inl (cI, 1020, .inl v_images)), (a_text, .inl (cI, 140, .inl v_text)), (a_rowOf, .inl (cI, 120, .inl v_rowOf)), (a_readLetter, .inl (cI, 120, .inl v_readLetter)), (a_readCue, .inl (cI, 120, .inl v_readCue)), (a_readPassage, .inl (cI, 120, .inl v_readPassage)), (a_held, .inl (cI, 510, .inl v_held_33))] := hD
              refine lv_istore (lv' := [(5, .int r_88), (4, .int r_74), (0, .ref aM), (1, .int x1_33), (2, .int x2_33), (3, .int x3_47)]) hx hb dX4_rehearse_91 hl (by decide) rfl (fun ls hl => ?_)
              refine lv_iinc (v := (x3_47 + 1)) (lv' := [(3, .int (x3_47 + 1)), (5, .int r_88), (4, .int r_74), (0, .ref aM), (1, .int x1_33), (2, .int x2_33)]) hx hb dX4_rehearse_93 hl (k := 5) rfl rfl (by decide) rfl (fun ls hl => ?_)
              refine lv_goto (tgt := 33) hx hb dX4_rehearse_96 (by decide) ?_
              exact ih33 x1_33 x2_33 v_held_33 (x3_47 + 1) u_88_w hF _ _ hP hD hS _ (lv_sub hl [3, 4, 5, 0] rfl)
          · have hF := (if_neg c_50).symm.trans hF
            refine lv_aload_n hx hb dX4_rehearse_53 rfl (lv_at hl 0 rfl) ?_
            obtain ⟨q_54, hq_54, hF⟩ := bindE hF
            have hPc := hP
            have hDc := hD
            have hFc := va_free (wc := [(aM, .inr (4, [.ref a_w, .ref a_past, .int v_pastMany, .ref a_images, .int v_filled, .ref a_text, .int v_length, .int v_faultKind, .int v_faultPlace, .ref a_rowOf, .int v_rows, .int v_wrongKind, .int v_wrongPlace, .int v_readWords, .int v_readPassages, .ref a_readLetter, .ref a_readCue, .ref a_readPassage, .ref a_held])), (a_w, .inl (cI, 510, .inl v_w_47)), (a_past, .inl (cI, 4080, .inl v_past)), (a_images, .inl (cI, 1020, .inl v_images)), (a_text, .inl (cI, 140, .inl v_text)), (a_rowOf, .inl (cI, 120, .inl v_rowOf)), (a_readLetter, .inl (cI, 120, .inl v_readLetter)), (a_readCue, .inl (cI, 120, .inl v_readCue)), (a_readPassage, .inl (cI, 120, .inl v_readPassage)), (a_held, .inl (cI, 510, .inl v_held_33))]) hD hS hA [0, 1, 2, 3, 4, 5, 6, 7, 8, 9] rfl
            refine va_callv (va_runV (As := []) (rest := []) ⟨hx, hb, hml, hown, hts⟩ (c_X4_tickOnce l dC dI cI cZ cO aM a_w a_past a_images a_text a_rowOf a_readLetter a_readCue a_readPassage a_held H.size v_w_47 v_past v_pastMany v_images v_filled v_text v_length v_faultKind v_faultPlace v_rowOf v_rows v_wrongKind v_wrongPlace v_readWords v_readPassages v_readLetter v_readCue v_readPassage v_held_33 q_54 hq_54) (cwV 0 hts gX4_rehearse_X4_tickOnce rfl rfl rfl (by decide +kernel) ⟨Nat.le_of_ble_eq_true rfl, Nat.le_of_ble_eq_true rfl⟩) ⟨fb_wr, va_recv hK hPc (ci := 4) (q0 := 0) rfl rfl, pre_wr hPc hK hN hDc⟩ rfl rfl hl.1 rfl (lv_room (Nat.le_of_ble_eq_true rfl)) dX4_rehearse_54 ⟨Nat.zero_le _, Nat.zero_le _⟩) hS (fun q _ h => hFc q h) hFc (fun _ t H1 locs ht hvm hw hB hz1 hk1 hS => ?_)
            obtain ⟨hP1, hD1⟩ := hB
            rw [ht] at hP1
            obtain ⟨hP, hD⟩ := va_join (wr := []) (w1 := [(aM, .inr (4, [.ref a_w, .ref a_past, .int v_pastMany, .ref a_images, .int v_filled, .ref a_text, .int v_length, .int v_faultKind, .int v_faultPlace, .ref a_rowOf, .int v_rows, .int v_wrongKind, .int v_wrongPlace, .int v_readWords, .int v_readPassages, .ref a_readLetter, .ref a_readCue, .ref a_readPassage, .ref a_held])), (a_w, .inl (cI, 510, .inl q_54)), (a_past, .inl (cI, 4080, .inl v_past)), (a_images, .inl (cI, 1020, .inl v_images)), (a_text, .inl (cI, 140, .inl v_text)), (a_rowOf, .inl (cI, 120, .inl v_rowOf)), (a_readLetter, .inl (cI, 120, .inl v_readLetter)), (a_readCue, .inl (cI, 120, .inl v_readCue)), (a_readPassage, .inl (cI, 120, .inl v_readPassage)), (a_held, .inl (cI, 510, .inl v_held_33))]) hP hD [0, 1, 2, 3, 4, 5, 6, 7, 8, 9] [] rfl rfl (by decide) (by decide) hk1 hFc hP1 hD1
            generalize H1 = H at hP hS ⊢
            have hP : va_P (dC, dI) vwCl [(aM, .inr (4, [.ref a_w, .ref a_past, .int v_pastMany, .ref a_images, .int v_filled, .ref a_text, .int v_length, .int v_faultKind, .int v_faultPlace, .ref a_rowOf, .int v_rows, .int v_wrongKind, .int v_wrongPlace, .int v_readWords, .int v_readPassages, .ref a_readLetter, .ref a_readCue, .ref a_readPassage, .ref a_held])), (a_w, .inl (cI, 510, .inl q_54)), (a_past, .inl (cI, 4080, .inl v_past)), (a_images, .inl (cI, 1020, .inl v_images)), (a_text, .inl (cI, 140, .inl v_text)), (a_rowOf, .inl (cI, 120, .inl v_rowOf)), (a_readLetter, .inl (cI, 120, .inl v_readLetter)), (a_readCue, .inl (cI, 120, .inl v_readCue)), (a_readPassage, .inl (cI, 120, .inl v_readPassage)), (a_held, .inl (cI, 510, .inl v_held_33))] H := hP
            have hD : va_D A [(aM, .inr (4, [.ref a_w, .ref a_past, .int v_pastMany, .ref a_images, .int v_filled, .ref a_text, .int v_length, .int v_faultKind, .int v_faultPlace, .ref a_rowOf, .int v_rows, .int v_wrongKind, .int v_wrongPlace, .int v_readWords, .int v_readPassages, .ref a_readLetter, .ref a_readCue, .ref a_readPassage, .ref a_held])), (a_w, .inl (cI, 510, .inl q_54)), (a_past, .inl (cI, 4080, .inl v_past)), (a_images, .inl (cI, 1020, .inl v_images)), (a_text, .inl (cI, 140, .inl v_text)), (a_rowOf, .inl (cI, 120, .inl v_rowOf)), (a_readLetter, .inl (cI, 120, .inl v_readLetter)), (a_readCue, .inl (cI, 120, .inl v_readCue)), (a_readPassage, .inl (cI, 120, .inl v_readPassage)), (a_held, .inl (cI, 510, .inl v_held_33))] := hD
            refine lv_iinc (v := (x4_47 + 1)) (lv' := [(4, .int (x4_47 + 1)), (0, .ref aM), (1, .int x1_33), (2, .int x2_33), (3, .int x3_47)]) hx hb dX4_rehearse_57 hl (k := 4) rfl rfl (by decide) rfl (fun ls hl => ?_)
            refine lv_goto (tgt := 47) hx hb dX4_rehearse_60 (by decide) ?_
            exact ih47 x3_47 (x4_47 + 1) q_54 hF _ _ hP hD hS _ (lv_sub hl [1, 2, 3, 4, 0] rfl)
      rw [f_X4_rehearse_33] at hF
      refine lv_iload_n hx hb dX4_rehearse_33 rfl (lv_at hl 3 rfl) ?_
      refine lv_aload_n hx hb dX4_rehearse_34 rfl (lv_at hl 0 rfl) ?_
      refine va_get (D := (dC, dI)) (ci := 4) (v := .ref a_w) (C := RX4) (T := TX4) (N := 19) hx hb hts inX4 hown hK hP 0 rfl rfl 0 (by decide) fl7 (fun _ h9 => h9) rfl dX4_rehearse_35 ?_
      refine lv_bipush (v := (9 : Int32)) hx hb dX4_rehearse_38 (by decide) ?_
      refine va_ialdK hx hb hK hP 1 0 rfl rfl (inK (by decide)) (j := 9) (by decide) dX4_rehearse_40 ?_
      refine lv_icmp_ge (tgt := 99) hx hb dX4_rehearse_41 (by decide) (fun c_41 => ?_) (fun c_41 => ?_)
      · have hF := (if_pos c_41).symm.trans hF
        refine lv_aload_n hx hb dX4_rehearse_99 rfl (lv_at hl 0 rfl) ?_
        refine va_get (D := (dC, dI)) (ci := 4) (v := .ref a_w) (C := RX4) (T := TX4) (N := 19) hx hb hts inX4 hown hK hP 0 rfl rfl 0 (by decide) fl7 (fun _ h9 => h9) rfl dX4_rehearse_100 ?_
        refine lv_bipush (v := (18 : Int32)) hx hb dX4_rehearse_103 (by decide) ?_
        refine va_ialdK hx hb hK hP 1 0 rfl rfl (inK (by decide)) (j := 18) (by decide) dX4_rehearse_105 ?_
        refine lv_aload_n hx hb dX4_rehearse_106 rfl (lv_at hl 0 rfl) ?_
        refine va_get (D := (dC, dI)) (ci := 4) (v := .ref a_held) (C := RX4) (T := TX4) (N := 19) hx hb hts inX4 hown hK hP 0 rfl rfl 18 (by decide) fl41 (fun _ h9 => h9) rfl dX4_rehearse_107 ?_
        refine lv_bipush (v := (18 : Int32)) hx hb dX4_rehearse_110 (by decide) ?_
        refine va_ialdK hx hb hK hP 9 0 rfl rfl (inK (by decide)) (j := 18) (by decide) dX4_rehearse_112 ?_
        refine lv_isub hx hb dX4_rehearse_113 ?_
        refine lv_istore_n (lv' := [(3, .int ((v_w_33 18) - (v_held_33 18))), (0, .ref aM), (1, .int x1_33), (2, .int x2_33)]) hx hb dX4_rehearse_114 rfl hl (by decide) rfl (fun ls hl => ?_)
        refine lv_aload_n hx hb dX4_rehearse_115 rfl (lv_at hl 1 rfl) ?_
        refine va_get (D := (dC, dI)) (ci := 4) (v := .ref a_w) (C := RX4) (T := TX4) (N := 19) hx hb hts inX4 hown hK hP 0 rfl rfl 0 (by decide) fl7 (fun _ h9 => h9) rfl dX4_rehearse_116 ?_
        refine lv_bipush (v := (15 : Int32)) hx hb dX4_rehearse_119 (by decide) ?_
        refine va_ialdK hx hb hK hP 1 0 rfl rfl (inK (by decide)) (j := 15) (by decide) dX4_rehearse_121 ?_
        refine lv_aload_n hx hb dX4_rehearse_122 rfl (lv_at hl 1 rfl) ?_
        refine va_get (D := (dC, dI)) (ci := 4) (v := .ref a_held) (C := RX4) (T := TX4) (N := 19) hx hb hts inX4 hown hK hP 0 rfl rfl 18 (by decide) fl41 (fun _ h9 => h9) rfl dX4_rehearse_123 ?_
        refine lv_bipush (v := (15 : Int32)) hx hb dX4_rehearse_126 (by decide) ?_
        refine va_ialdK hx hb hK hP 9 0 rfl rfl (inK (by decide)) (j := 15) (by decide) dX4_rehearse_128 ?_
        refine lv_isub hx hb dX4_rehearse_129 ?_
        refine lv_aload_n hx hb dX4_rehearse_130 rfl (lv_at hl 1 rfl) ?_
        refine va_get (D := (dC, dI)) (ci := 4) (v := .ref a_w) (C := RX4) (T := TX4) (N := 19) hx hb hts inX4 hown hK hP 0 rfl rfl 0 (by decide) fl7 (fun _ h9 => h9) rfl dX4_rehearse_131 ?_
        refine lv_bipush (v := (16 : Int32)) hx hb dX4_rehearse_134 (by decide) ?_
        refine va_ialdK hx hb hK hP 1 0 rfl rfl (inK (by decide)) (j := 16) (by decide) dX4_rehearse_136 ?_
        refine lv_iadd hx hb dX4_rehearse_137 ?_
        refine lv_aload_n hx hb dX4_rehearse_138 rfl (lv_at hl 1 rfl) ?_
        refine va_get (D := (dC, dI)) (ci := 4) (v := .ref a_held) (C := RX4) (T := TX4) (N := 19) hx hb hts inX4 hown hK hP 0 rfl rfl 18 (by decide) fl41 (fun _ h9 => h9) rfl dX4_rehearse_139 ?_
        refine lv_bipush (v := (16 : Int32)) hx hb dX4_rehearse_142 (by decide) ?_
        refine va_ialdK hx hb hK hP 9 0 rfl rfl (inK (by decide)) (j := 16) (by decide) dX4_rehearse_144 ?_
        refine lv_isub hx hb dX4_rehearse_145 ?_
        refine lv_istore (lv' := [(4, .int ((((v_w_33 15) - (v_held_33 15)) + (v_w_33 16)) - (v_held_33 16))), (3, .int ((v_w_33 18) - (v_held_33 18))), (0, .ref aM), (1, .int x1_33), (2, .int x2_33)]) hx hb dX4_rehearse_146 hl (by decide) rfl (fun ls hl => ?_)
        refine lv_aload_n hx hb dX4_rehearse_148 rfl (lv_at hl 2 rfl) ?_
        refine va_get (D := (dC, dI)) (ci := 4) (v := .ref a_w) (C := RX4) (T := TX4) (N := 19) hx hb hts inX4 hown hK hP 0 rfl rfl 0 (by decide) fl7 (fun _ h9 => h9) rfl dX4_rehearse_149 ?_
        refine lv_bipush (v := (17 : Int32)) hx hb dX4_rehearse_152 (by decide) ?_
        refine va_ialdK hx hb hK hP 1 0 rfl rfl (inK (by decide)) (j := 17) (by decide) dX4_rehearse_154 ?_
        refine lv_aload_n hx hb dX4_rehearse_155 rfl (lv_at hl 2 rfl) ?_
        refine va_get (D := (dC, dI)) (ci := 4) (v := .ref a_held) (C := RX4) (T := TX4) (N := 19) hx hb hts inX4 hown hK hP 0 rfl rfl 18 (by decide) fl41 (fun _ h9 => h9) rfl dX4_rehearse_156 ?_
        refine lv_bipush (v := (17 : Int32)) hx hb dX4_rehearse_159 (by decide) ?_
        refine va_ialdK hx hb hK hP 9 0 rfl rfl (inK (by decide)) (j := 17) (by decide) dX4_rehearse_161 ?_
        refine lv_isub hx hb dX4_rehearse_162 ?_
        refine lv_istore (lv' := [(5, .int ((v_w_33 17) - (v_held_33 17))), (4, .int ((((v_w_33 15) - (v_held_33 15)) + (v_w_33 16)) - (v_held_33 16))), (3, .int ((v_w_33 18) - (v_held_33 18))), (0, .ref aM), (1, .int x1_33), (2, .int x2_33)]) hx hb dX4_rehearse_163 hl (by decide) rfl (fun ls hl => ?_)
        refine lv_aload_n hx hb dX4_rehearse_165 rfl (lv_at hl 3 rfl) ?_
        refine va_get (D := (dC, dI)) (ci := 4) (v := .ref a_w) (C := RX4) (T := TX4) (N := 19) hx hb hts inX4 hown hK hP 0 rfl rfl 0 (by decide) fl7 (fun _ h9 => h9) rfl dX4_rehearse_166 ?_
        refine lv_bipush (v := (11 : Int32)) hx hb dX4_rehearse_169 (by decide) ?_
        refine va_ialdK hx hb hK hP 1 0 rfl rfl (inK (by decide)) (j := 11) (by decide) dX4_rehearse_171 ?_
        refine lv_istore (lv' := [(6, .int (v_w_33 11)), (5, .int ((v_w_33 17) - (v_held_33 17))), (4, .int ((((v_w_33 15) - (v_held_33 15)) + (v_w_33 16)) - (v_held_33 16))), (3, .int ((v_w_33 18) - (v_held_33 18))), (0, .ref aM), (1, .int x1_33), (2, .int x2_33)]) hx hb dX4_rehearse_172 hl (by decide) rfl (fun ls hl => ?_)
        refine lv_aload_n hx hb dX4_rehearse_174 rfl (lv_at hl 4 rfl) ?_
        obtain ⟨q_175, hq_175, hF⟩ := bindE hF
        have hPc := hP
        have hDc := hD
        have hFc := va_free (wc := [(aM, .inr (4, [.ref a_w, .ref a_past, .int v_pastMany, .ref a_images, .int v_filled, .ref a_text, .int v_length, .int v_faultKind, .int v_faultPlace, .ref a_rowOf, .int v_rows, .int v_wrongKind, .int v_wrongPlace, .int v_readWords, .int v_readPassages, .ref a_readLetter, .ref a_readCue, .ref a_readPassage, .ref a_held])), (a_w, .inl (cI, 510, .inl v_w_33)), (a_past, .inl (cI, 4080, .inl v_past)), (a_images, .inl (cI, 1020, .inl v_images)), (a_text, .inl (cI, 140, .inl v_text)), (a_rowOf, .inl (cI, 120, .inl v_rowOf)), (a_readLetter, .inl (cI, 120, .inl v_readLetter)), (a_readCue, .inl (cI, 120, .inl v_readCue)), (a_readPassage, .inl (cI, 120, .inl v_readPassage)), (a_held, .inl (cI, 510, .inl v_held_33))]) hD hS hA [0, 1, 2, 3, 4, 5, 6, 7, 8, 9] rfl
        refine va_callv (va_runV (As := []) (rest := []) ⟨hx, hb, hml, hown, hts⟩ (c_X4_restore l dC dI cI cZ cO aM a_w a_past a_images a_text a_rowOf a_readLetter a_readCue a_readPassage a_held H.size v_w_33 v_past v_pastMany v_images v_filled v_text v_length v_faultKind v_faultPlace v_rowOf v_rows v_wrongKind v_wrongPlace v_readWords v_readPassages v_readLetter v_readCue v_readPassage v_held_33 q_175 hq_175) (cwV 0 hts gX4_rehearse_X4_restore rfl rfl rfl (by decide +kernel) ⟨Nat.le_of_ble_eq_true rfl, Nat.le_of_ble_eq_true rfl⟩) ⟨fb_wr, va_recv hK hPc (ci := 4) (q0 := 0) rfl rfl, pre_wr hPc hK hN hDc⟩ rfl rfl hl.1 rfl (lv_room (Nat.le_of_ble_eq_true rfl)) dX4_rehearse_175 ⟨Nat.zero_le _, Nat.zero_le _⟩) hS (fun q _ h => hFc q h) hFc (fun _ t H1 locs ht hvm hw hB hz1 hk1 hS => ?_)
        obtain ⟨hP1, hD1⟩ := hB
        rw [ht] at hP1
        obtain ⟨hP, hD⟩ := va_join (wr := []) (w1 := [(aM, .inr (4, [.ref a_w, .ref a_past, .int v_pastMany, .ref a_images, .int v_filled, .ref a_text, .int v_length, .int v_faultKind, .int v_faultPlace, .ref a_rowOf, .int v_rows, .int v_wrongKind, .int v_wrongPlace, .int v_readWords, .int v_readPassages, .ref a_readLetter, .ref a_readCue, .ref a_readPassage, .ref a_held])), (a_w, .inl (cI, 510, .inl q_175)), (a_past, .inl (cI, 4080, .inl v_past)), (a_images, .inl (cI, 1020, .inl v_images)), (a_text, .inl (cI, 140, .inl v_text)), (a_rowOf, .inl (cI, 120, .inl v_rowOf)), (a_readLetter, .inl (cI, 120, .inl v_readLetter)), (a_readCue, .inl (cI, 120, .inl v_readCue)), (a_readPassage, .inl (cI, 120, .inl v_readPassage)), (a_held, .inl (cI, 510, .inl v_held_33))]) hP hD [0, 1, 2, 3, 4, 5, 6, 7, 8, 9] [] rfl rfl (by decide) (by decide) hk1 hFc hP1 hD1
        generalize H1 = H at hP hS ⊢
        have hP : va_P (dC, dI) vwCl [(aM, .inr (4, [.ref a_w, .ref a_past, .int v_pastMany, .ref a_images, .int v_filled, .ref a_text, .int v_length, .int v_faultKind, .int v_faultPlace, .ref a_rowOf, .int v_rows, .int v_wrongKind, .int v_wrongPlace, .int v_readWords, .int v_readPassages, .ref a_readLetter, .ref a_readCue, .ref a_readPassage, .ref a_held])), (a_w, .inl (cI, 510, .inl q_175)), (a_past, .inl (cI, 4080, .inl v_past)), (a_images, .inl (cI, 1020, .inl v_images)), (a_text, .inl (cI, 140, .inl v_text)), (a_rowOf, .inl (cI, 120, .inl v_rowOf)), (a_readLetter, .inl (cI, 120, .inl v_readLetter)), (a_readCue, .inl (cI, 120, .inl v_readCue)), (a_readPassage, .inl (cI, 120, .inl v_readPassage)), (a_held, .inl (cI, 510, .inl v_held_33))] H := hP
        have hD : va_D A [(aM, .inr (4, [.ref a_w, .ref a_past, .int v_pastMany, .ref a_images, .int v_filled, .ref a_text, .int v_length, .int v_faultKind, .int v_faultPlace, .ref a_rowOf, .int v_rows, .int v_wrongKind, .int v_wrongPlace, .int v_readWords, .int v_readPassages, .ref a_readLetter, .ref a_readCue, .ref a_readPassage, .ref a_held])), (a_w, .inl (cI, 510, .inl q_175)), (a_past, .inl (cI, 4080, .inl v_past)), (a_images, .inl (cI, 1020, .inl v_images)), (a_text, .inl (cI, 140, .inl v_text)), (a_rowOf, .inl (cI, 120, .inl v_rowOf)), (a_readLetter, .inl (cI, 120, .inl v_readLetter)), (a_readCue, .inl (cI, 120, .inl v_readCue)), (a_readPassage, .inl (cI, 120, .inl v_readPassage)), (a_held, .inl (cI, 510, .inl v_held_33))] := hD
        refine lv_iload_n hx hb dX4_rehearse_178 rfl (lv_at hl 6 rfl) ?_
        refine lv_if_ne (tgt := 186) hx hb dX4_rehearse_179 (by decide) (fun c_179 => ?_) (fun c_179 => ?_)
        · have hF := (if_neg c_179).symm.trans hF
          refine lv_iload_n hx hb dX4_rehearse_186 rfl (lv_at hl 6 rfl) ?_
          refine lv_iconst (v := (1 : Int32)) hx hb dX4_rehearse_187 (by decide) ?_
          refine lv_icmp_ne (tgt := 196) hx hb dX4_rehearse_188 (by decide) (fun c_188 => ?_) (fun c_188 => ?_)
          · have hF := (if_neg c_188).symm.trans hF
            refine lv_iload_n hx hb dX4_rehearse_196 rfl (lv_at hl 6 rfl) ?_
            refine lv_iconst (v := (2 : Int32)) hx hb dX4_rehearse_197 (by decide) ?_
            refine lv_icmp_ne (tgt := 206) hx hb dX4_rehearse_198 (by decide) (fun c_198 => ?_) (fun c_198 => ?_)
            · have hF := (if_neg c_198).symm.trans hF
              refine lv_iload hx hb dX4_rehearse_206 (lv_at hl 0 rfl) ?_
              have hF : some ((v_w_33 11), q_175, v_held_33) = some (r, o_w, o_held) := hF
              have hP9 := hP
              have hD9 := hD
              cases hF
              subst hQ
              subst hAe
              exact W.iret hx hb hr (fun t ht hW => ⟨⟨_, (), rfl, rfl, ⟨by rw [ht]; exact hP9, hD9⟩⟩, hS.F ht⟩) hS.2.2 dX4_rehearse_208
            · have hF := (if_pos c_198).symm.trans hF
              refine lv_iload hx hb dX4_rehearse_201 (lv_at hl 1 rfl) ?_
              refine lv_goto (tgt := 208) hx hb dX4_rehearse_203 (by decide) ?_
              have hF : some (((v_w_33 17) - (v_held_33 17)), q_175, v_held_33) = some (r, o_w, o_held) := hF
              have hP9 := hP
              have hD9 := hD
              cases hF
              subst hQ
              subst hAe
              exact W.iret hx hb hr (fun t ht hW => ⟨⟨_, (), rfl, rfl, ⟨by rw [ht]; exact hP9, hD9⟩⟩, hS.F ht⟩) hS.2.2 dX4_rehearse_208
          · have hF := (if_pos c_188).symm.trans hF
            refine lv_iload hx hb dX4_rehearse_191 (lv_at hl 2 rfl) ?_
            refine lv_goto (tgt := 208) hx hb dX4_rehearse_193 (by decide) ?_
            have hF : some (((((v_w_33 15) - (v_held_33 15)) + (v_w_33 16)) - (v_held_33 16)), q_175, v_held_33) = some (r, o_w, o_held) := hF
            have hP9 := hP
            have hD9 := hD
            cases hF
            subst hQ
            subst hAe
            exact W.iret hx hb hr (fun t ht hW => ⟨⟨_, (), rfl, rfl, ⟨by rw [ht]; exact hP9, hD9⟩⟩, hS.F ht⟩) hS.2.2 dX4_rehearse_208
        · have hF := (if_pos c_179).symm.trans hF
          refine lv_iload_n hx hb dX4_rehearse_182 rfl (lv_at hl 3 rfl) ?_
          refine lv_goto (tgt := 208) hx hb dX4_rehearse_183 (by decide) ?_
          have hF : some (((v_w_33 18) - (v_held_33 18)), q_175, v_held_33) = some (r, o_w, o_held) := hF
          have hP9 := hP
          have hD9 := hD
          cases hF
          subst hQ
          subst hAe
          exact W.iret hx hb hr (fun t ht hW => ⟨⟨_, (), rfl, rfl, ⟨by rw [ht]; exact hP9, hD9⟩⟩, hS.F ht⟩) hS.2.2 dX4_rehearse_208
      · have hF := (if_neg c_41).symm.trans hF
        refine lv_iconst (v := (0 : Int32)) hx hb dX4_rehearse_44 (by decide) ?_
        refine lv_istore (lv' := [(4, .int (0 : Int32)), (0, .ref aM), (1, .int x1_33), (2, .int x2_33), (3, .int x3_33)]) hx hb dX4_rehearse_45 hl (by decide) rfl (fun ls hl => ?_)
        exact B47 gas x3_33 (0 : Int32) v_w_33 hF _ _ hP hD hS _ (lv_sub hl [1, 2, 3, 4, 0] rfl)
  unfold f_X4_rehearse at hF
  refine lv_iload_n hx hb dX4_rehearse_0 rfl (lv_at hl 1 rfl) ?_
  refine lv_iconst (v := (1 : Int32)) hx hb dX4_rehearse_1 (by decide) ?_
  refine lv_bipush (v := (10 : Int32)) hx hb dX4_rehearse_2 (by decide) ?_
  obtain ⟨q_4, hq_4, hF⟩ := bindE hF
  have hPc := hP.sub (ws' := []) [] rfl
  refine vp_callSi (va_Run.run (va_runS (As := [.int p1, .int (1 : Int32), .int (10 : Int32)]) (rest := []) ⟨hx, hb, hml, hown, hts⟩ (c_X4_isIn l dC dI cI cZ cO p1 (1 : Int32) (10 : Int32) q_4 hq_4) (cwS 3 hts gX4_rehearse_X4_isIn rfl rfl rfl (by decide +kernel) ⟨Nat.le_of_ble_eq_true rfl, Nat.le_of_ble_eq_true rfl⟩) ⟨fb_rd, pre_rd hPc hK hN⟩ rfl rfl hl.1 rfl (lv_room (Nat.le_of_ble_eq_true rfl)) dX4_rehearse_4 ⟨Nat.zero_le _, Nat.zero_le _⟩)) (fun z_4 hz_4 => ?_)
  subst hz_4
  refine lv_if_eq (tgt := 19) hx hb dX4_rehearse_7 (by decide) (fun c_7 => ?_) (fun c_7 => ?_)
  · have hF := (if_pos c_7).symm.trans hF
    refine lv_iconst (v := (-1 : Int32)) hx hb dX4_rehearse_19 (by decide) ?_
    have hF : some ((-1 : Int32), v_w, v_held) = some (r, o_w, o_held) := hF
    have hP9 := hP
    have hD9 := hD
    cases hF
    subst hQ
    subst hAe
    exact W.iret hx hb hr (fun t ht hW => ⟨⟨_, (), rfl, rfl, ⟨by rw [ht]; exact hP9, hD9⟩⟩, hS.F ht⟩) hS.2.2 dX4_rehearse_20
  · have hF := (if_neg c_7).symm.trans hF
    refine lv_iload_n hx hb dX4_rehearse_10 rfl (lv_at hl 2 rfl) ?_
    refine lv_iconst (v := (0 : Int32)) hx hb dX4_rehearse_11 (by decide) ?_
    refine lv_iconst (v := (3 : Int32)) hx hb dX4_rehearse_12 (by decide) ?_
    obtain ⟨q_13, hq_13, hF⟩ := bindE hF
    have hPc := hP.sub (ws' := []) [] rfl
    refine vp_callSi (va_Run.run (va_runS (As := [.int p2, .int (0 : Int32), .int (3 : Int32)]) (rest := []) ⟨hx, hb, hml, hown, hts⟩ (c_X4_isIn l dC dI cI cZ cO p2 (0 : Int32) (3 : Int32) q_13 hq_13) (cwS 3 hts gX4_rehearse_X4_isIn rfl rfl rfl (by decide +kernel) ⟨Nat.le_of_ble_eq_true rfl, Nat.le_of_ble_eq_true rfl⟩) ⟨fb_rd, pre_rd hPc hK hN⟩ rfl rfl hl.1 rfl (lv_room (Nat.le_of_ble_eq_true rfl)) dX4_rehearse_13 ⟨Nat.zero_le _, Nat.zero_le _⟩)) (fun z_13 hz_13 => ?_)
    subst hz_13
    refine lv_if_ne (tgt := 21) hx hb dX4_rehearse_16 (by decide) (fun c_16 => ?_) (fun c_16 => ?_)
    · have hF := (if_neg c_16).symm.trans hF
      refine lv_aload_n hx hb dX4_rehearse_21 rfl (lv_at hl 0 rfl) ?_
      obtain ⟨q_22, hq_22, hF⟩ := bindE hF
      have hPc := hP
      have hDc := hD
      have hFc := va_free (wc := [(aM, .inr (4, [.ref a_w, .ref a_past, .int v_pastMany, .ref a_images, .int v_filled, .ref a_text, .int v_length, .int v_faultKind, .int v_faultPlace, .ref a_rowOf, .int v_rows, .int v_wrongKind, .int v_wrongPlace, .int v_readWords, .int v_readPassages, .ref a_readLetter, .ref a_readCue, .ref a_readPassage, .ref a_held])), (a_w, .inl (cI, 510, .inl v_w)), (a_past, .inl (cI, 4080, .inl v_past)), (a_images, .inl (cI, 1020, .inl v_images)), (a_text, .inl (cI, 140, .inl v_text)), (a_rowOf, .inl (cI, 120, .inl v_rowOf)), (a_readLetter, .inl (cI, 120, .inl v_readLetter)), (a_readCue, .inl (cI, 120, .inl v_readCue)), (a_readPassage, .inl (cI, 120, .inl v_readPassage)), (a_held, .inl (cI, 510, .inl v_held))]) hD hS hA [0, 1, 2, 3, 4, 5, 6, 7, 8, 9] rfl
      refine va_callv (va_runV (As := []) (rest := []) ⟨hx, hb, hml, hown, hts⟩ (c_X4_hold l dC dI cI cZ cO aM a_w a_past a_images a_text a_rowOf a_readLetter a_readCue a_readPassage a_held H.size v_w v_past v_pastMany v_images v_filled v_text v_length v_faultKind v_faultPlace v_rowOf v_rows v_wrongKind v_wrongPlace v_readWords v_readPassages v_readLetter v_readCue v_readPassage v_held q_22 hq_22) (cwV 0 hts gX4_rehearse_X4_hold rfl rfl rfl (by decide +kernel) ⟨Nat.le_of_ble_eq_true rfl, Nat.le_of_ble_eq_true rfl⟩) ⟨fb_wr, va_recv hK hPc (ci := 4) (q0 := 0) rfl rfl, pre_wr hPc hK hN hDc⟩ rfl rfl hl.1 rfl (lv_room (Nat.le_of_ble_eq_true rfl)) dX4_rehearse_22 ⟨Nat.zero_le _, Nat.zero_le _⟩) hS (fun q _ h => hFc q h) hFc (fun _ t H1 locs ht hvm hw hB hz1 hk1 hS => ?_)
      obtain ⟨hP1, hD1⟩ := hB
      rw [ht] at hP1
      obtain ⟨hP, hD⟩ := va_join (wr := []) (w1 := [(aM, .inr (4, [.ref a_w, .ref a_past, .int v_pastMany, .ref a_images, .int v_filled, .ref a_text, .int v_length, .int v_faultKind, .int v_faultPlace, .ref a_rowOf, .int v_rows, .int v_wrongKind, .int v_wrongPlace, .int v_readWords, .int v_readPassages, .ref a_readLetter, .ref a_readCue, .ref a_readPassage, .ref a_held])), (a_w, .inl (cI, 510, .inl v_w)), (a_past, .inl (cI, 4080, .inl v_past)), (a_images, .inl (cI, 1020, .inl v_images)), (a_text, .inl (cI, 140, .inl v_text)), (a_rowOf, .inl (cI, 120, .inl v_rowOf)), (a_readLetter, .inl (cI, 120, .inl v_readLetter)), (a_readCue, .inl (cI, 120, .inl v_readCue)), (a_readPassage, .inl (cI, 120, .inl v_readPassage)), (a_held, .inl (cI, 510, .inl q_22))]) hP hD [0, 1, 2, 3, 4, 5, 6, 7, 8, 9] [] rfl rfl (by decide) (by decide) hk1 hFc hP1 hD1
      generalize H1 = H at hP hS ⊢
      have hP : va_P (dC, dI) vwCl [(aM, .inr (4, [.ref a_w, .ref a_past, .int v_pastMany, .ref a_images, .int v_filled, .ref a_text, .int v_length, .int v_faultKind, .int v_faultPlace, .ref a_rowOf, .int v_rows, .int v_wrongKind, .int v_wrongPlace, .int v_readWords, .int v_readPassages, .ref a_readLetter, .ref a_readCue, .ref a_readPassage, .ref a_held])), (a_w, .inl (cI, 510, .inl v_w)), (a_past, .inl (cI, 4080, .inl v_past)), (a_images, .inl (cI, 1020, .inl v_images)), (a_text, .inl (cI, 140, .inl v_text)), (a_rowOf, .inl (cI, 120, .inl v_rowOf)), (a_readLetter, .inl (cI, 120, .inl v_readLetter)), (a_readCue, .inl (cI, 120, .inl v_readCue)), (a_readPassage, .inl (cI, 120, .inl v_readPassage)), (a_held, .inl (cI, 510, .inl q_22))] H := hP
      have hD : va_D A [(aM, .inr (4, [.ref a_w, .ref a_past, .int v_pastMany, .ref a_images, .int v_filled, .ref a_text, .int v_length, .int v_faultKind, .int v_faultPlace, .ref a_rowOf, .int v_rows, .int v_wrongKind, .int v_wrongPlace, .int v_readWords, .int v_readPassages, .ref a_readLetter, .ref a_readCue, .ref a_readPassage, .ref a_held])), (a_w, .inl (cI, 510, .inl v_w)), (a_past, .inl (cI, 4080, .inl v_past)), (a_images, .inl (cI, 1020, .inl v_images)), (a_text, .inl (cI, 140, .inl v_text)), (a_rowOf, .inl (cI, 120, .inl v_rowOf)), (a_readLetter, .inl (cI, 120, .inl v_readLetter)), (a_readCue, .inl (cI, 120, .inl v_readCue)), (a_readPassage, .inl (cI, 120, .inl v_readPassage)), (a_held, .inl (cI, 510, .inl q_22))] := hD
      refine lv_aload_n hx hb dX4_rehearse_25 rfl (lv_at hl 0 rfl) ?_
      refine va_get (D := (dC, dI)) (ci := 4) (v := .ref a_held) (C := RX4) (T := TX4) (N := 19) hx hb hts inX4 hown hK hP 0 rfl rfl 18 (by decide) fl41 (fun _ h9 => h9) rfl dX4_rehearse_26 ?_
      refine lv_bipush (v := (11 : Int32)) hx hb dX4_rehearse_29 (by decide) ?_
      refine va_ialdK hx hb hK hP 9 0 rfl rfl (inK (by decide)) (j := 11) (by decide) dX4_rehearse_31 ?_
      refine lv_istore_n (lv' := [(3, .int (q_22 11)), (0, .ref aM), (1, .int p1), (2, .int p2)]) hx hb dX4_rehearse_32 rfl hl (by decide) rfl (fun ls hl => ?_)
      exact B33 gas p1 p2 q_22 (q_22 11) v_w hF _ _ hP hD hS _ (lv_sub hl [1, 2, 3, 0] rfl)
    · have hF := (if_pos c_16).symm.trans hF
      refine lv_iconst (v := (-1 : Int32)) hx hb dX4_rehearse_19 (by decide) ?_
      have hF : some ((-1 : Int32), v_w, v_held) = some (r, o_w, o_held) := hF
      have hP9 := hP
      have hD9 := hD
      cases hF
      subst hQ
      subst hAe
      exact W.iret hx hb hr (fun t ht hW => ⟨⟨_, (), rfl, rfl, ⟨by rw [ht]; exact hP9, hD9⟩⟩, hS.F ht⟩) hS.2.2 dX4_rehearse_20
def f_X4_keep_11 (v_w : (Nat → Int32)) (x1 : Int32) (v_filled : Int32) : Nat → Int32 → (Nat → Int32) → Option (Int32 × (Nat → Int32) × Int32)
  | 0, _, _ => none
  | n + 1, x2, v_images =>
    if (510 : Int32) ≤ x2 then
      some ((v_w 11), v_images, (v_filled ||| ((1 : Int32) <<< (x1 &&& 31))))
    else
      if x2 < 0 ∨ 510 ≤ x2.toNatClampNeg then none else
      if (((510 : Int32) * x1) + x2) < 0 ∨ 1020 ≤ ((((510 : Int32) * x1) + x2)).toNatClampNeg then none else
      f_X4_keep_11 v_w x1 v_filled n (x2 + 1) (upd v_images (((((510 : Int32) * x1) + x2)).toNatClampNeg) (v_w x2.toNatClampNeg))
def f_X4_keep (p1 : Int32) (v_w : (Nat → Int32)) (v_images : (Nat → Int32)) (v_filled : Int32) : Option (Int32 × (Nat → Int32) × Int32) :=
  (f_X4_isImage p1).bind fun q1 =>
  if q1 = (0 : Int32) then
    some ((-1 : Int32), v_images, v_filled)
  else
    f_X4_keep_11 v_w p1 v_filled gas (0 : Int32) v_images
def rm_X4_keep : Room := { frames := 2, cells := 0, slots := 0, locals := 42 }
set_option maxHeartbeats 4000000 in
set_option maxRecDepth 100000 in
theorem c_X4_keep (l : Launch) (dC : Nat → ClassId) (dI : Nat → Nat → Nat) (cI cZ cO : ClassId) (aM a_w a_past a_images a_text a_rowOf a_readLetter a_readCue a_readPassage a_held : Nat) (sz : Nat) (p1 : Int32) (v_w : (Nat → Int32)) (v_past : (Nat → Int32)) (v_pastMany : Int32) (v_images : (Nat → Int32)) (v_filled : Int32) (v_text : (Nat → Int32)) (v_length : Int32) (v_faultKind : Int32) (v_faultPlace : Int32) (v_rowOf : (Nat → Int32)) (v_rows : Int32) (v_wrongKind : Int32) (v_wrongPlace : Int32) (v_readWords : Int32) (v_readPassages : Int32) (v_readLetter : (Nat → Int32)) (v_readCue : (Nat → Int32)) (v_readPassage : (Nat → Int32)) (v_held : (Nat → Int32)) (r : Int32) (o_images : (Nat → Int32)) (o_filled : Int32) (hF : f_X4_keep p1 v_w v_images v_filled = some (r, o_images, o_filled)) : Met l yX4_keep wsX4_keep rm_X4_keep (va_Pc [.ref aM, .int p1] (wrW dC dI cI cZ cO sz [(aM, .inr (4, [.ref a_w, .ref a_past, .int v_pastMany, .ref a_images, .int v_filled, .ref a_text, .int v_length, .int v_faultKind, .int v_faultPlace, .ref a_rowOf, .int v_rows, .int v_wrongKind, .int v_wrongPlace, .int v_readWords, .int v_readPassages, .ref a_readLetter, .ref a_readCue, .ref a_readPassage, .ref a_held])), (a_w, .inl (cI, 510, .inl v_w)), (a_past, .inl (cI, 4080, .inl v_past)), (a_images, .inl (cI, 1020, .inl v_images)), (a_text, .inl (cI, 140, .inl v_text)), (a_rowOf, .inl (cI, 120, .inl v_rowOf)), (a_readLetter, .inl (cI, 120, .inl v_readLetter)), (a_readCue, .inl (cI, 120, .inl v_readCue)), (a_readPassage, .inl (cI, 120, .inl v_readPassage)), (a_held, .inl (cI, 510, .inl v_held))])) (va_Qi (fun (q : Int32) (_ : Unit) => r = q) (wrE dC dI [(aM, .inr (4, [.ref a_w, .ref a_past, .int v_pastMany, .ref a_images, .int v_filled, .ref a_text, .int v_length, .int v_faultKind, .int v_faultPlace, .ref a_rowOf, .int v_rows, .int v_wrongKind, .int v_wrongPlace, .int v_readWords, .int v_readPassages, .ref a_readLetter, .ref a_readCue, .ref a_readPassage, .ref a_held])), (a_w, .inl (cI, 510, .inl v_w)), (a_past, .inl (cI, 4080, .inl v_past)), (a_images, .inl (cI, 1020, .inl v_images)), (a_text, .inl (cI, 140, .inl v_text)), (a_rowOf, .inl (cI, 120, .inl v_rowOf)), (a_readLetter, .inl (cI, 120, .inl v_readLetter)), (a_readCue, .inl (cI, 120, .inl v_readCue)), (a_readPassage, .inl (cI, 120, .inl v_readPassage)), (a_held, .inl (cI, 510, .inl v_held))] sz [(aM, .inr (4, [.ref a_w, .ref a_past, .int v_pastMany, .ref a_images, .int o_filled, .ref a_text, .int v_length, .int v_faultKind, .int v_faultPlace, .ref a_rowOf, .int v_rows, .int v_wrongKind, .int v_wrongPlace, .int v_readWords, .int v_readPassages, .ref a_readLetter, .ref a_readCue, .ref a_readPassage, .ref a_held])), (a_w, .inl (cI, 510, .inl v_w)), (a_past, .inl (cI, 4080, .inl v_past)), (a_images, .inl (cI, 1020, .inl o_images)), (a_text, .inl (cI, 140, .inl v_text)), (a_rowOf, .inl (cI, 120, .inl v_rowOf)), (a_readLetter, .inl (cI, 120, .inl v_readLetter)), (a_readCue, .inl (cI, 120, .inl v_readCue)), (a_readPassage, .inl (cI, 120, .inl v_readPassage)), (a_held, .inl (cI, 510, .inl v_held))]) (va_A [(aM, .inr (4, [.ref a_w, .ref a_past, .int v_pastMany, .ref a_images, .int v_filled, .ref a_text, .int v_length, .int v_faultKind, .int v_faultPlace, .ref a_rowOf, .int v_rows, .int v_wrongKind, .int v_wrongPlace, .int v_readWords, .int v_readPassages, .ref a_readLetter, .ref a_readCue, .ref a_readPassage, .ref a_held])), (a_w, .inl (cI, 510, .inl v_w)), (a_past, .inl (cI, 4080, .inl v_past)), (a_images, .inl (cI, 1020, .inl v_images)), (a_text, .inl (cI, 140, .inl v_text)), (a_rowOf, .inl (cI, 120, .inl v_rowOf)), (a_readLetter, .inl (cI, 120, .inl v_readLetter)), (a_readCue, .inl (cI, 120, .inl v_readCue)), (a_readPassage, .inl (cI, 120, .inl v_readPassage)), (a_held, .inl (cI, 510, .inl v_held))] sz)) 0 0 (va_A [(aM, .inr (4, [.ref a_w, .ref a_past, .int v_pastMany, .ref a_images, .int v_filled, .ref a_text, .int v_length, .int v_faultKind, .int v_faultPlace, .ref a_rowOf, .int v_rows, .int v_wrongKind, .int v_wrongPlace, .int v_readWords, .int v_readPassages, .ref a_readLetter, .ref a_readCue, .ref a_readPassage, .ref a_held])), (a_w, .inl (cI, 510, .inl v_w)), (a_past, .inl (cI, 4080, .inl v_past)), (a_images, .inl (cI, 1020, .inl v_images)), (a_text, .inl (cI, 140, .inl v_text)), (a_rowOf, .inl (cI, 120, .inl v_rowOf)), (a_readLetter, .inl (cI, 120, .inl v_readLetter)), (a_readCue, .inl (cI, 120, .inl v_readCue)), (a_readPassage, .inl (cI, 120, .inl v_readPassage)), (a_held, .inl (cI, 510, .inl v_held))] sz) := by
  refine Met.ofW (cc := cX4_keep) (maxL := 3) (ret := (some .int)) (by decide) rfl ?_
  intro p e s m args below meth c s₁ B hml hv
  obtain ⟨rfl, hsz, hP, hK, hN, hD0⟩ := hv
  have hx := B.exec
  have hb := B.bytes
  have hr := B.returns
  have hts := atoms_spec (ws := wsX4_keep) B.pre
  have hown : s.vm.findClass RX4 = some m.cls := findClass_of_methodNamed B.named
  have hlocks := B.notSynchronized
  subst hsz
  have hD := hD0.self (sz := s.heap.size)
  obtain ⟨Q, hQ⟩ : ∃ Q, Q = MQ below (va_Qi (fun (q : Int32) (_ : Unit) => r = q) (wrE dC dI [(aM, .inr (4, [.ref a_w, .ref a_past, .int v_pastMany, .ref a_images, .int v_filled, .ref a_text, .int v_length, .int v_faultKind, .int v_faultPlace, .ref a_rowOf, .int v_rows, .int v_wrongKind, .int v_wrongPlace, .int v_readWords, .int v_readPassages, .ref a_readLetter, .ref a_readCue, .ref a_readPassage, .ref a_held])), (a_w, .inl (cI, 510, .inl v_w)), (a_past, .inl (cI, 4080, .inl v_past)), (a_images, .inl (cI, 1020, .inl v_images)), (a_text, .inl (cI, 140, .inl v_text)), (a_rowOf, .inl (cI, 120, .inl v_rowOf)), (a_readLetter, .inl (cI, 120, .inl v_readLetter)), (a_readCue, .inl (cI, 120, .inl v_readCue)), (a_readPassage, .inl (cI, 120, .inl v_readPassage)), (a_held, .inl (cI, 510, .inl v_held))] s.heap.size [(aM, .inr (4, [.ref a_w, .ref a_past, .int v_pastMany, .ref a_images, .int o_filled, .ref a_text, .int v_length, .int v_faultKind, .int v_faultPlace, .ref a_rowOf, .int v_rows, .int v_wrongKind, .int v_wrongPlace, .int v_readWords, .int v_readPassages, .ref a_readLetter, .ref a_readCue, .ref a_readPassage, .ref a_held])), (a_w, .inl (cI, 510, .inl v_w)), (a_past, .inl (cI, 4080, .inl v_past)), (a_images, .inl (cI, 1020, .inl o_images)), (a_text, .inl (cI, 140, .inl v_text)), (a_rowOf, .inl (cI, 120, .inl v_rowOf)), (a_readLetter, .inl (cI, 120, .inl v_readLetter)), (a_readCue, .inl (cI, 120, .inl v_readCue)), (a_readPassage, .inl (cI, 120, .inl v_readPassage)), (a_held, .inl (cI, 510, .inl v_held))]) (va_A [(aM, .inr (4, [.ref a_w, .ref a_past, .int v_pastMany, .ref a_images, .int v_filled, .ref a_text, .int v_length, .int v_faultKind, .int v_faultPlace, .ref a_rowOf, .int v_rows, .int v_wrongKind, .int v_wrongPlace, .int v_readWords, .int v_readPassages, .ref a_readLetter, .ref a_readCue, .ref a_readPassage, .ref a_held])), (a_w, .inl (cI, 510, .inl v_w)), (a_past, .inl (cI, 4080, .inl v_past)), (a_images, .inl (cI, 1020, .inl v_images)), (a_text, .inl (cI, 140, .inl v_text)), (a_rowOf, .inl (cI, 120, .inl v_rowOf)), (a_readLetter, .inl (cI, 120, .inl v_readLetter)), (a_readCue, .inl (cI, 120, .inl v_readCue)), (a_readPassage, .inl (cI, 120, .inl v_readPassage)), (a_held, .inl (cI, 510, .inl v_held))] s.heap.size)) ([.ref aM, .int p1] : List Value).toArray s 0 0 (va_A [(aM, .inr (4, [.ref a_w, .ref a_past, .int v_pastMany, .ref a_images, .int v_filled, .ref a_text, .int v_length, .int v_faultKind, .int v_faultPlace, .ref a_rowOf, .int v_rows, .int v_wrongKind, .int v_wrongPlace, .int v_readWords, .int v_readPassages, .ref a_readLetter, .ref a_readCue, .ref a_readPassage, .ref a_held])), (a_w, .inl (cI, 510, .inl v_w)), (a_past, .inl (cI, 4080, .inl v_past)), (a_images, .inl (cI, 1020, .inl v_images)), (a_text, .inl (cI, 140, .inl v_text)), (a_rowOf, .inl (cI, 120, .inl v_rowOf)), (a_readLetter, .inl (cI, 120, .inl v_readLetter)), (a_readCue, .inl (cI, 120, .inl v_readCue)), (a_readPassage, .inl (cI, 120, .inl v_readPassage)), (a_held, .inl (cI, 510, .inl v_held))] s.heap.size) := ⟨_, rfl⟩
  rw [← hQ]
  obtain ⟨A, hAe⟩ : ∃ A, A = va_A [(aM, .inr (4, [.ref a_w, .ref a_past, .int v_pastMany, .ref a_images, .int v_filled, .ref a_text, .int v_length, .int v_faultKind, .int v_faultPlace, .ref a_rowOf, .int v_rows, .int v_wrongKind, .int v_wrongPlace, .int v_readWords, .int v_readPassages, .ref a_readLetter, .ref a_readCue, .ref a_readPassage, .ref a_held])), (a_w, .inl (cI, 510, .inl v_w)), (a_past, .inl (cI, 4080, .inl v_past)), (a_images, .inl (cI, 1020, .inl v_images)), (a_text, .inl (cI, 140, .inl v_text)), (a_rowOf, .inl (cI, 120, .inl v_rowOf)), (a_readLetter, .inl (cI, 120, .inl v_readLetter)), (a_readCue, .inl (cI, 120, .inl v_readCue)), (a_readPassage, .inl (cI, 120, .inl v_readPassage)), (a_held, .inl (cI, 510, .inl v_held))] s.heap.size := ⟨_, rfl⟩
  rw [← hAe] at hD
  have hA : ∀ q : Nat, s.heap.size ≤ q → A q := fun q h => by rw [hAe]; exact Or.inr h
  obtain ⟨H, hH⟩ : ∃ H, H = s.heap := ⟨_, rfl⟩
  have hS : va_S A s.heap H [] := by rw [hH]; exact va_S.rf
  rw [← hH] at hP
  rw [← hH]
  have fl169 := hts (.fieldLink RX4 169 "TeleprompterModel" "filled" "I") (by decide +kernel)
  have fl7 := hts (.fieldLink RX4 7 "TeleprompterModel" "w" "[I") (by decide +kernel)
  have fl16 := hts (.fieldLink RX4 16 "TeleprompterModel" "images" "[I") (by decide +kernel)
  have inX4 : ∀ w ∈ u_ws RX4 TX4 19, w ∈ wsX4_keep := by decide +kernel
  have hl := lv_entry ([.ref aM, .int p1]) (n := 3) (Nat.le_of_ble_eq_true rfl)
  rw [lg_entry_eq]
  generalize (lg_sl ([.ref aM, .int p1]) ++ List.replicate (3 - (lg_sl ([.ref aM, .int p1])).length) Slot.unset).toArray = ls at hl ⊢
  have hl : lv_has ls 3 [(0, .ref aM), (1, .int p1)] := hl
  have B11 : ∀ (n_11 : Nat) (x1_11 : Int32) (v_filled_11 : Int32) (x2_11 : Int32) (v_images_11 : (Nat → Int32)), f_X4_keep_11 v_w x1_11 v_filled_11 n_11 x2_11 v_images_11 = some (r, o_images, o_filled) → ∀ (H : Heap) (locs : List Loc), va_P (dC, dI) vwCl [(aM, .inr (4, [.ref a_w, .ref a_past, .int v_pastMany, .ref a_images, .int v_filled_11, .ref a_text, .int v_length, .int v_faultKind, .int v_faultPlace, .ref a_rowOf, .int v_rows, .int v_wrongKind, .int v_wrongPlace, .int v_readWords, .int v_readPassages, .ref a_readLetter, .ref a_readCue, .ref a_readPassage, .ref a_held])), (a_w, .inl (cI, 510, .inl v_w)), (a_past, .inl (cI, 4080, .inl v_past)), (a_images, .inl (cI, 1020, .inl v_images_11)), (a_text, .inl (cI, 140, .inl v_text)), (a_rowOf, .inl (cI, 120, .inl v_rowOf)), (a_readLetter, .inl (cI, 120, .inl v_readLetter)), (a_readCue, .inl (cI, 120, .inl v_readCue)), (a_readPassage, .inl (cI, 120, .inl v_readPassage)), (a_held, .inl (cI, 510, .inl v_held))] H → va_D A [(aM, .inr (4, [.ref a_w, .ref a_past, .int v_pastMany, .ref a_images, .int v_filled_11, .ref a_text, .int v_length, .int v_faultKind, .int v_faultPlace, .ref a_rowOf, .int v_rows, .int v_wrongKind, .int v_wrongPlace, .int v_readWords, .int v_readPassages, .ref a_readLetter, .ref a_readCue, .ref a_readPassage, .ref a_held])), (a_w, .inl (cI, 510, .inl v_w)), (a_past, .inl (cI, 4080, .inl v_past)), (a_images, .inl (cI, 1020, .inl v_images_11)), (a_text, .inl (cI, 140, .inl v_text)), (a_rowOf, .inl (cI, 120, .inl v_rowOf)), (a_readLetter, .inl (cI, 120, .inl v_readLetter)), (a_readCue, .inl (cI, 120, .inl v_readCue)), (a_readPassage, .inl (cI, 120, .inl v_readPassage)), (a_held, .inl (cI, 510, .inl v_held))] → va_S A s.heap H locs → ∀ ls : Array Slot, lv_has ls 3 [(0, .ref aM), (1, .int x1_11), (2, .int x2_11)] → W p l e (headSpec wsX4_keep rm_X4_keep).room s m ([.ref aM, .int p1] : List Value).toArray below meth c H locs 0 0 Q (F0 m 11 ls []) := by
    intro n_11
    induction n_11 with
    | zero => intro x1_11 v_filled_11 x2_11 v_images_11 hF; exact noneE hF
    | succ n_11 ih11 =>
      intro x1_11 v_filled_11 x2_11 v_images_11 hF H locs hP hD hS ls hl
      rw [f_X4_keep_11] at hF
      refine lv_iload_n hx hb dX4_keep_11 rfl (lv_at hl 2 rfl) ?_
      refine lv_sipush (v := (510 : Int32)) hx hb dX4_keep_12 (by decide) ?_
      refine lv_icmp_ge (tgt := 42) hx hb dX4_keep_15 (by decide) (fun c_15 => ?_) (fun c_15 => ?_)
      · have hF := (if_pos c_15).symm.trans hF
        refine lv_aload_n hx hb dX4_keep_42 rfl (lv_at hl 0 rfl) ?_
        refine lv_dup hx hb dX4_keep_43 rfl ?_
        refine va_get (D := (dC, dI)) (ci := 4) (v := .int v_filled_11) (C := RX4) (T := TX4) (N := 19) hx hb hts inX4 hown hK hP 0 rfl rfl 4 (by decide) fl169 (fun _ h9 => h9) rfl dX4_keep_44 ?_
        refine lv_iconst (v := (1 : Int32)) hx hb dX4_keep_47 (by decide) ?_
        refine lv_iload_n hx hb dX4_keep_48 rfl (lv_at hl 1 rfl) ?_
        refine lv_ishl hx hb dX4_keep_49 ?_
        refine lv_ior hx hb dX4_keep_50 ?_
        refine va_put (D := (dC, dI)) (ci := 4) (v := .int (v_filled_11 ||| ((1 : Int32) <<< (x1_11 &&& 31)))) (ty := .int) (C := RX4) (T := TX4) (N := 19) hx hb hts inX4 tyX4 tyX4_ok nmX4 hown hK hP hD hS 0 rfl rfl 4 (by decide) fl169 (fun _ h9 => h9) rfl (by decide +kernel) rfl rfl (Nat.le_of_ble_eq_true rfl) dX4_keep_51 (fun H locs hP hD hS => ?_)
        have hP : va_P (dC, dI) vwCl [(aM, .inr (4, [.ref a_w, .ref a_past, .int v_pastMany, .ref a_images, .int (v_filled_11 ||| ((1 : Int32) <<< (x1_11 &&& 31))), .ref a_text, .int v_length, .int v_faultKind, .int v_faultPlace, .ref a_rowOf, .int v_rows, .int v_wrongKind, .int v_wrongPlace, .int v_readWords, .int v_readPassages, .ref a_readLetter, .ref a_readCue, .ref a_readPassage, .ref a_held])), (a_w, .inl (cI, 510, .inl v_w)), (a_past, .inl (cI, 4080, .inl v_past)), (a_images, .inl (cI, 1020, .inl v_images_11)), (a_text, .inl (cI, 140, .inl v_text)), (a_rowOf, .inl (cI, 120, .inl v_rowOf)), (a_readLetter, .inl (cI, 120, .inl v_readLetter)), (a_readCue, .inl (cI, 120, .inl v_readCue)), (a_readPassage, .inl (cI, 120, .inl v_readPassage)), (a_held, .inl (cI, 510, .inl v_held))] H := hP
        have hD : va_D A [(aM, .inr (4, [.ref a_w, .ref a_past, .int v_pastMany, .ref a_images, .int (v_filled_11 ||| ((1 : Int32) <<< (x1_11 &&& 31))), .ref a_text, .int v_length, .int v_faultKind, .int v_faultPlace, .ref a_rowOf, .int v_rows, .int v_wrongKind, .int v_wrongPlace, .int v_readWords, .int v_readPassages, .ref a_readLetter, .ref a_readCue, .ref a_readPassage, .ref a_held])), (a_w, .inl (cI, 510, .inl v_w)), (a_past, .inl (cI, 4080, .inl v_past)), (a_images, .inl (cI, 1020, .inl v_images_11)), (a_text, .inl (cI, 140, .inl v_text)), (a_rowOf, .inl (cI, 120, .inl v_rowOf)), (a_readLetter, .inl (cI, 120, .inl v_readLetter)), (a_readCue, .inl (cI, 120, .inl v_readCue)), (a_readPassage, .inl (cI, 120, .inl v_readPassage)), (a_held, .inl (cI, 510, .inl v_held))] := hD
        refine lv_aload_n hx hb dX4_keep_54 rfl (lv_at hl 0 rfl) ?_
        refine va_get (D := (dC, dI)) (ci := 4) (v := .ref a_w) (C := RX4) (T := TX4) (N := 19) hx hb hts inX4 hown hK hP 0 rfl rfl 0 (by decide) fl7 (fun _ h9 => h9) rfl dX4_keep_55 ?_
        refine lv_bipush (v := (11 : Int32)) hx hb dX4_keep_58 (by decide) ?_
        refine va_ialdK hx hb hK hP 1 0 rfl rfl (inK (by decide)) (j := 11) (by decide) dX4_keep_60 ?_
        have hF : some ((v_w 11), v_images_11, (v_filled_11 ||| ((1 : Int32) <<< (x1_11 &&& 31)))) = some (r, o_images, o_filled) := hF
        have hP9 := hP
        have hD9 := hD
        cases hF
        subst hQ
        subst hAe
        exact W.iret hx hb hr (fun t ht hW => ⟨⟨_, (), rfl, rfl, ⟨by rw [ht]; exact hP9, hD9⟩⟩, hS.F ht⟩) hS.2.2 dX4_keep_61
      · have hF := (if_neg c_15).symm.trans hF
        refine lv_aload_n hx hb dX4_keep_18 rfl (lv_at hl 0 rfl) ?_
        refine va_get (D := (dC, dI)) (ci := 4) (v := .ref a_images) (C := RX4) (T := TX4) (N := 19) hx hb hts inX4 hown hK hP 0 rfl rfl 3 (by decide) fl16 (fun _ h9 => h9) rfl dX4_keep_19 ?_
        refine lv_sipush (v := (510 : Int32)) hx hb dX4_keep_22 (by decide) ?_
        refine lv_iload_n hx hb dX4_keep_25 rfl (lv_at hl 1 rfl) ?_
        refine lv_imul hx hb dX4_keep_26 ?_
        refine lv_iload_n hx hb dX4_keep_27 rfl (lv_at hl 2 rfl) ?_
        refine lv_iadd hx hb dX4_keep_28 ?_
        refine lv_aload_n hx hb dX4_keep_29 rfl (lv_at hl 0 rfl) ?_
        refine va_get (D := (dC, dI)) (ci := 4) (v := .ref a_w) (C := RX4) (T := TX4) (N := 19) hx hb hts inX4 hown hK hP 0 rfl rfl 0 (by decide) fl7 (fun _ h9 => h9) rfl dX4_keep_30 ?_
        refine lv_iload_n hx hb dX4_keep_33 rfl (lv_at hl 2 rfl) ?_
        by_cases b_34 : (x2_11 < 0 ∨ 510 ≤ x2_11.toNatClampNeg)
        · exact noneE ((if_pos b_34).symm.trans hF)
        have hF := (if_neg b_34).symm.trans hF
        refine va_iald hx hb hK hP 1 0 rfl rfl b_34 dX4_keep_34 ?_
        by_cases b_35 : ((((510 : Int32) * x1_11) + x2_11) < 0 ∨ 1020 ≤ ((((510 : Int32) * x1_11) + x2_11)).toNatClampNeg)
        · exact noneE ((if_pos b_35).symm.trans hF)
        have hF := (if_neg b_35).symm.trans hF
        refine va_iast hx hb hK hP hD hS 3 0 rfl rfl b_35 dX4_keep_35 (fun H locs hP hD hS => ?_)
        have hP : va_P (dC, dI) vwCl [(aM, .inr (4, [.ref a_w, .ref a_past, .int v_pastMany, .ref a_images, .int v_filled_11, .ref a_text, .int v_length, .int v_faultKind, .int v_faultPlace, .ref a_rowOf, .int v_rows, .int v_wrongKind, .int v_wrongPlace, .int v_readWords, .int v_readPassages, .ref a_readLetter, .ref a_readCue, .ref a_readPassage, .ref a_held])), (a_w, .inl (cI, 510, .inl v_w)), (a_past, .inl (cI, 4080, .inl v_past)), (a_images, .inl (cI, 1020, .inl (upd v_images_11 (((((510 : Int32) * x1_11) + x2_11)).toNatClampNeg) (v_w x2_11.toNatClampNeg)))), (a_text, .inl (cI, 140, .inl v_text)), (a_rowOf, .inl (cI, 120, .inl v_rowOf)), (a_readLetter, .inl (cI, 120, .inl v_readLetter)), (a_readCue, .inl (cI, 120, .inl v_readCue)), (a_readPassage, .inl (cI, 120, .inl v_readPassage)), (a_held, .inl (cI, 510, .inl v_held))] H := hP
        have hD : va_D A [(aM, .inr (4, [.ref a_w, .ref a_past, .int v_pastMany, .ref a_images, .int v_filled_11, .ref a_text, .int v_length, .int v_faultKind, .int v_faultPlace, .ref a_rowOf, .int v_rows, .int v_wrongKind, .int v_wrongPlace, .int v_readWords, .int v_readPassages, .ref a_readLetter, .ref a_readCue, .ref a_readPassage, .ref a_held])), (a_w, .inl (cI, 510, .inl v_w)), (a_past, .inl (cI, 4080, .inl v_past)), (a_images, .inl (cI, 1020, .inl (upd v_images_11 (((((510 : Int32) * x1_11) + x2_11)).toNatClampNeg) (v_w x2_11.toNatClampNeg)))), (a_text, .inl (cI, 140, .inl v_text)), (a_rowOf, .inl (cI, 120, .inl v_rowOf)), (a_readLetter, .inl (cI, 120, .inl v_readLetter)), (a_readCue, .inl (cI, 120, .inl v_readCue)), (a_readPassage, .inl (cI, 120, .inl v_readPassage)), (a_held, .inl (cI, 510, .inl v_held))] := hD
        refine lv_iinc (v := (x2_11 + 1)) (lv' := [(2, .int (x2_11 + 1)), (0, .ref aM), (1, .int x1_11)]) hx hb dX4_keep_36 hl (k := 2) rfl rfl (by decide) rfl (fun ls hl => ?_)
        refine lv_goto (tgt := 11) hx hb dX4_keep_39 (by decide) ?_
        exact ih11 x1_11 v_filled_11 (x2_11 + 1) (upd v_images_11 (((((510 : Int32) * x1_11) + x2_11)).toNatClampNeg) (v_w x2_11.toNatClampNeg)) hF _ _ hP hD hS _ (lv_sub hl [1, 2, 0] rfl)
  unfold f_X4_keep at hF
  refine lv_iload_n hx hb dX4_keep_0 rfl (lv_at hl 1 rfl) ?_
  obtain ⟨q_1, hq_1, hF⟩ := bindE hF
  have hPc := hP.sub (ws' := []) [] rfl
  refine vp_callSi (va_Run.run (va_runS (As := [.int p1]) (rest := []) ⟨hx, hb, hml, hown, hts⟩ (c_X4_isImage l dC dI cI cZ cO p1 q_1 hq_1) (cwS 1 hts gX4_keep_X4_isImage rfl rfl rfl (by decide +kernel) ⟨Nat.le_of_ble_eq_true rfl, Nat.le_of_ble_eq_true rfl⟩) ⟨fb_rd, pre_rd hPc hK hN⟩ rfl rfl hl.1 rfl (lv_room (Nat.le_of_ble_eq_true rfl)) dX4_keep_1 ⟨Nat.zero_le _, Nat.zero_le _⟩)) (fun z_1 hz_1 => ?_)
  subst hz_1
  refine lv_if_ne (tgt := 9) hx hb dX4_keep_4 (by decide) (fun c_4 => ?_) (fun c_4 => ?_)
  · have hF := (if_neg c_4).symm.trans hF
    refine lv_iconst (v := (0 : Int32)) hx hb dX4_keep_9 (by decide) ?_
    refine lv_istore_n (lv' := [(2, .int (0 : Int32)), (0, .ref aM), (1, .int p1)]) hx hb dX4_keep_10 rfl hl (by decide) rfl (fun ls hl => ?_)
    exact B11 gas p1 v_filled (0 : Int32) v_images hF _ _ hP hD hS _ (lv_sub hl [1, 2, 0] rfl)
  · have hF := (if_pos c_4).symm.trans hF
    refine lv_iconst (v := (-1 : Int32)) hx hb dX4_keep_7 (by decide) ?_
    have hF : some ((-1 : Int32), v_images, v_filled) = some (r, o_images, o_filled) := hF
    have hP9 := hP
    have hD9 := hD
    cases hF
    subst hQ
    subst hAe
    exact W.iret hx hb hr (fun t ht hW => ⟨⟨_, (), rfl, rfl, ⟨by rw [ht]; exact hP9, hD9⟩⟩, hS.F ht⟩) hS.2.2 dX4_keep_8
def f_X4_back_29 (v_images : (Nat → Int32)) (x1 : Int32) (v_past : (Nat → Int32)) (v_pastMany : Int32) (v_rowOf : (Nat → Int32)) (v_rows : Int32) : Nat → Int32 → (Nat → Int32) → Option (Int32 × (Nat → Int32) × (Nat → Int32) × Int32 × (Nat → Int32) × Int32)
  | 0, _, _ => none
  | n + 1, x2, v_w =>
    if (510 : Int32) ≤ x2 then
      (f_X4_layRows v_w v_rowOf v_rows).bind fun q61 =>
      some ((v_w 11), v_w, v_past, v_pastMany, q61.1, q61.2)
    else
      if (((510 : Int32) * x1) + x2) < 0 ∨ 1020 ≤ ((((510 : Int32) * x1) + x2)).toNatClampNeg then none else
      if x2 < 0 ∨ 510 ≤ x2.toNatClampNeg then none else
      f_X4_back_29 v_images x1 v_past v_pastMany v_rowOf v_rows n (x2 + 1) (upd v_w x2.toNatClampNeg (v_images (((((510 : Int32) * x1) + x2)).toNatClampNeg)))
def f_X4_back (p1 : Int32) (v_w : (Nat → Int32)) (v_past : (Nat → Int32)) (v_pastMany : Int32) (v_images : (Nat → Int32)) (v_filled : Int32) (v_rowOf : (Nat → Int32)) (v_rows : Int32) : Option (Int32 × (Nat → Int32) × (Nat → Int32) × Int32 × (Nat → Int32) × Int32) :=
  (f_X4_isImage p1).bind fun q1 =>
  if q1 = (0 : Int32) then
    some ((-1 : Int32), v_w, v_past, v_pastMany, v_rowOf, v_rows)
  else
    if ((v_filled >>> (p1 &&& 31)) &&& (1 : Int32)) = (0 : Int32) then
      some ((-2 : Int32), v_w, v_past, v_pastMany, v_rowOf, v_rows)
    else
      (f_X4_remember v_w v_past v_pastMany).bind fun q24 =>
      f_X4_back_29 v_images p1 q24.1 q24.2 v_rowOf v_rows gas (0 : Int32) v_w
def rm_X4_back : Room := { frames := 2, cells := 0, slots := 0, locals := 42 }
set_option maxHeartbeats 4000000 in
set_option maxRecDepth 100000 in
theorem c_X4_back (l : Launch) (dC : Nat → ClassId) (dI : Nat → Nat → Nat) (cI cZ cO : ClassId) (aM a_w a_past a_images a_text a_rowOf a_readLetter a_readCue a_readPassage a_held : Nat) (sz : Nat) (p1 : Int32) (v_w : (Nat → Int32)) (v_past : (Nat → Int32)) (v_pastMany : Int32) (v_images : (Nat → Int32)) (v_filled : Int32) (v_text : (Nat → Int32)) (v_length : Int32) (v_faultKind : Int32) (v_faultPlace : Int32) (v_rowOf : (Nat → Int32)) (v_rows : Int32) (v_wrongKind : Int32) (v_wrongPlace : Int32) (v_readWords : Int32) (v_readPassages : Int32) (v_readLetter : (Nat → Int32)) (v_readCue : (Nat → Int32)) (v_readPassage : (Nat → Int32)) (v_held : (Nat → Int32)) (r : Int32) (o_w : (Nat → Int32)) (o_past : (Nat → Int32)) (o_pastMany : Int32) (o_rowOf : (Nat → Int32)) (o_rows : Int32) (hF : f_X4_back p1 v_w v_past v_pastMany v_images v_filled v_rowOf v_rows = some (r, o_w, o_past, o_pastMany, o_rowOf, o_rows)) : Met l yX4_back wsX4_back rm_X4_back (va_Pc [.ref aM, .int p1] (wrW dC dI cI cZ cO sz [(aM, .inr (4, [.ref a_w, .ref a_past, .int v_pastMany, .ref a_images, .int v_filled, .ref a_text, .int v_length, .int v_faultKind, .int v_faultPlace, .ref a_rowOf, .int v_rows, .int v_wrongKind, .int v_wrongPlace, .int v_readWords, .int v_readPassages, .ref a_readLetter, .ref a_readCue, .ref a_readPassage, .ref a_held])), (a_w, .inl (cI, 510, .inl v_w)), (a_past, .inl (cI, 4080, .inl v_past)), (a_images, .inl (cI, 1020, .inl v_images)), (a_text, .inl (cI, 140, .inl v_text)), (a_rowOf, .inl (cI, 120, .inl v_rowOf)), (a_readLetter, .inl (cI, 120, .inl v_readLetter)), (a_readCue, .inl (cI, 120, .inl v_readCue)), (a_readPassage, .inl (cI, 120, .inl v_readPassage)), (a_held, .inl (cI, 510, .inl v_held))])) (va_Qi (fun (q : Int32) (_ : Unit) => r = q) (wrE dC dI [(aM, .inr (4, [.ref a_w, .ref a_past, .int v_pastMany, .ref a_images, .int v_filled, .ref a_text, .int v_length, .int v_faultKind, .int v_faultPlace, .ref a_rowOf, .int v_rows, .int v_wrongKind, .int v_wrongPlace, .int v_readWords, .int v_readPassages, .ref a_readLetter, .ref a_readCue, .ref a_readPassage, .ref a_held])), (a_w, .inl (cI, 510, .inl v_w)), (a_past, .inl (cI, 4080, .inl v_past)), (a_images, .inl (cI, 1020, .inl v_images)), (a_text, .inl (cI, 140, .inl v_text)), (a_rowOf, .inl (cI, 120, .inl v_rowOf)), (a_readLetter, .inl (cI, 120, .inl v_readLetter)), (a_readCue, .inl (cI, 120, .inl v_readCue)), (a_readPassage, .inl (cI, 120, .inl v_readPassage)), (a_held, .inl (cI, 510, .inl v_held))] sz [(aM, .inr (4, [.ref a_w, .ref a_past, .int o_pastMany, .ref a_images, .int v_filled, .ref a_text, .int v_length, .int v_faultKind, .int v_faultPlace, .ref a_rowOf, .int o_rows, .int v_wrongKind, .int v_wrongPlace, .int v_readWords, .int v_readPassages, .ref a_readLetter, .ref a_readCue, .ref a_readPassage, .ref a_held])), (a_w, .inl (cI, 510, .inl o_w)), (a_past, .inl (cI, 4080, .inl o_past)), (a_images, .inl (cI, 1020, .inl v_images)), (a_text, .inl (cI, 140, .inl v_text)), (a_rowOf, .inl (cI, 120, .inl o_rowOf)), (a_readLetter, .inl (cI, 120, .inl v_readLetter)), (a_readCue, .inl (cI, 120, .inl v_readCue)), (a_readPassage, .inl (cI, 120, .inl v_readPassage)), (a_held, .inl (cI, 510, .inl v_held))]) (va_A [(aM, .inr (4, [.ref a_w, .ref a_past, .int v_pastMany, .ref a_images, .int v_filled, .ref a_text, .int v_length, .int v_faultKind, .int v_faultPlace, .ref a_rowOf, .int v_rows, .int v_wrongKind, .int v_wrongPlace, .int v_readWords, .int v_readPassages, .ref a_readLetter, .ref a_readCue, .ref a_readPassage, .ref a_held])), (a_w, .inl (cI, 510, .inl v_w)), (a_past, .inl (cI, 4080, .inl v_past)), (a_images, .inl (cI, 1020, .inl v_images)), (a_text, .inl (cI, 140, .inl v_text)), (a_rowOf, .inl (cI, 120, .inl v_rowOf)), (a_readLetter, .inl (cI, 120, .inl v_readLetter)), (a_readCue, .inl (cI, 120, .inl v_readCue)), (a_readPassage, .inl (cI, 120, .inl v_readPassage)), (a_held, .inl (cI, 510, .inl v_held))] sz)) 0 0 (va_A [(aM, .inr (4, [.ref a_w, .ref a_past, .int v_pastMany, .ref a_images, .int v_filled, .ref a_text, .int v_length, .int v_faultKind, .int v_faultPlace, .ref a_rowOf, .int v_rows, .int v_wrongKind, .int v_wrongPlace, .int v_readWords, .int v_readPassages, .ref a_readLetter, .ref a_readCue, .ref a_readPassage, .ref a_held])), (a_w, .inl (cI, 510, .inl v_w)), (a_past, .inl (cI, 4080, .inl v_past)), (a_images, .inl (cI, 1020, .inl v_images)), (a_text, .inl (cI, 140, .inl v_text)), (a_rowOf, .inl (cI, 120, .inl v_rowOf)), (a_readLetter, .inl (cI, 120, .inl v_readLetter)), (a_readCue, .inl (cI, 120, .inl v_readCue)), (a_readPassage, .inl (cI, 120, .inl v_readPassage)), (a_held, .inl (cI, 510, .inl v_held))] sz) := by
  refine Met.ofW (cc := cX4_back) (maxL := 3) (ret := (some .int)) (by decide) rfl ?_
  intro p e s m args below meth c s₁ B hml hv
  obtain ⟨rfl, hsz, hP, hK, hN, hD0⟩ := hv
  have hx := B.exec
  have hb := B.bytes
  have hr := B.returns
  have hts := atoms_spec (ws := wsX4_back) B.pre
  have hown : s.vm.findClass RX4 = some m.cls := findClass_of_methodNamed B.named
  have hlocks := B.notSynchronized
  subst hsz
  have hD := hD0.self (sz := s.heap.size)
  obtain ⟨Q, hQ⟩ : ∃ Q, Q = MQ below (va_Qi (fun (q : Int32) (_ : Unit) => r = q) (wrE dC dI [(aM, .inr (4, [.ref a_w, .ref a_past, .int v_pastMany, .ref a_images, .int v_filled, .ref a_text, .int v_length, .int v_faultKind, .int v_faultPlace, .ref a_rowOf, .int v_rows, .int v_wrongKind, .int v_wrongPlace, .int v_readWords, .int v_readPassages, .ref a_readLetter, .ref a_readCue, .ref a_readPassage, .ref a_held])), (a_w, .inl (cI, 510, .inl v_w)), (a_past, .inl (cI, 4080, .inl v_past)), (a_images, .inl (cI, 1020, .inl v_images)), (a_text, .inl (cI, 140, .inl v_text)), (a_rowOf, .inl (cI, 120, .inl v_rowOf)), (a_readLetter, .inl (cI, 120, .inl v_readLetter)), (a_readCue, .inl (cI, 120, .inl v_readCue)), (a_readPassage, .inl (cI, 120, .inl v_readPassage)), (a_held, .inl (cI, 510, .inl v_held))] s.heap.size [(aM, .inr (4, [.ref a_w, .ref a_past, .int o_pastMany, .ref a_images, .int v_filled, .ref a_text, .int v_length, .int v_faultKind, .int v_faultPlace, .ref a_rowOf, .int o_rows, .int v_wrongKind, .int v_wrongPlace, .int v_readWords, .int v_readPassages, .ref a_readLetter, .ref a_readCue, .ref a_readPassage, .ref a_held])), (a_w, .inl (cI, 510, .inl o_w)), (a_past, .inl (cI, 4080, .inl o_past)), (a_images, .inl (cI, 1020, .inl v_images)), (a_text, .inl (cI, 140, .inl v_text)), (a_rowOf, .inl (cI, 120, .inl o_rowOf)), (a_readLetter, .inl (cI, 120, .inl v_readLetter)), (a_readCue, .inl (cI, 120, .inl v_readCue)), (a_readPassage, .inl (cI, 120, .inl v_readPassage)), (a_held, .inl (cI, 510, .inl v_held))]) (va_A [(aM, .inr (4, [.ref a_w, .ref a_past, .int v_pastMany, .ref a_images, .int v_filled, .ref a_text, .int v_length, .int v_faultKind, .int v_faultPlace, .ref a_rowOf, .int v_rows, .int v_wrongKind, .int v_wrongPlace, .int v_readWords, .int v_readPassages, .ref a_readLetter, .ref a_readCue, .ref a_readPassage, .ref a_held])), (a_w, .inl (cI, 510, .inl v_w)), (a_past, .inl (cI, 4080, .inl v_past)), (a_images, .inl (cI, 1020, .inl v_images)), (a_text, .inl (cI, 140, .inl v_text)), (a_rowOf, .inl (cI, 120, .inl v_rowOf)), (a_readLetter, .inl (cI, 120, .inl v_readLetter)), (a_readCue, .inl (cI, 120, .inl v_readCue)), (a_readPassage, .inl (cI, 120, .inl v_readPassage)), (a_held, .inl (cI, 510, .inl v_held))] s.heap.size)) ([.ref aM, .int p1] : List Value).toArray s 0 0 (va_A [(aM, .inr (4, [.ref a_w, .ref a_past, .int v_pastMany, .ref a_images, .int v_filled, .ref a_text, .int v_length, .int v_faultKind, .int v_faultPlace, .ref a_rowOf, .int v_rows, .int v_wrongKind, .int v_wrongPlace, .int v_readWords, .int v_readPassages, .ref a_readLetter, .ref a_readCue, .ref a_readPassage, .ref a_held])), (a_w, .inl (cI, 510, .inl v_w)), (a_past, .inl (cI, 4080, .inl v_past)), (a_images, .inl (cI, 1020, .inl v_images)), (a_text, .inl (cI, 140, .inl v_text)), (a_rowOf, .inl (cI, 120, .inl v_rowOf)), (a_readLetter, .inl (cI, 120, .inl v_readLetter)), (a_readCue, .inl (cI, 120, .inl v_readCue)), (a_readPassage, .inl (cI, 120, .inl v_readPassage)), (a_held, .inl (cI, 510, .inl v_held))] s.heap.size) := ⟨_, rfl⟩
  rw [← hQ]
  obtain ⟨A, hAe⟩ : ∃ A, A = va_A [(aM, .inr (4, [.ref a_w, .ref a_past, .int v_pastMany, .ref a_images, .int v_filled, .ref a_text, .int v_length, .int v_faultKind, .int v_faultPlace, .ref a_rowOf, .int v_rows, .int v_wrongKind, .int v_wrongPlace, .int v_readWords, .int v_readPassages, .ref a_readLetter, .ref a_readCue, .ref a_readPassage, .ref a_held])), (a_w, .inl (cI, 510, .inl v_w)), (a_past, .inl (cI, 4080, .inl v_past)), (a_images, .inl (cI, 1020, .inl v_images)), (a_text, .inl (cI, 140, .inl v_text)), (a_rowOf, .inl (cI, 120, .inl v_rowOf)), (a_readLetter, .inl (cI, 120, .inl v_readLetter)), (a_readCue, .inl (cI, 120, .inl v_readCue)), (a_readPassage, .inl (cI, 120, .inl v_readPassage)), (a_held, .inl (cI, 510, .inl v_held))] s.heap.size := ⟨_, rfl⟩
  rw [← hAe] at hD
  have hA : ∀ q : Nat, s.heap.size ≤ q → A q := fun q h => by rw [hAe]; exact Or.inr h
  obtain ⟨H, hH⟩ : ∃ H, H = s.heap := ⟨_, rfl⟩
  have hS : va_S A s.heap H [] := by rw [hH]; exact va_S.rf
  rw [← hH] at hP
  rw [← hH]
  have fl7 := hts (.fieldLink RX4 7 "TeleprompterModel" "w" "[I") (by decide +kernel)
  have fl16 := hts (.fieldLink RX4 16 "TeleprompterModel" "images" "[I") (by decide +kernel)
  have fl169 := hts (.fieldLink RX4 169 "TeleprompterModel" "filled" "I") (by decide +kernel)
  have inX4 : ∀ w ∈ u_ws RX4 TX4 19, w ∈ wsX4_back := by decide +kernel
  have hl := lv_entry ([.ref aM, .int p1]) (n := 3) (Nat.le_of_ble_eq_true rfl)
  rw [lg_entry_eq]
  generalize (lg_sl ([.ref aM, .int p1]) ++ List.replicate (3 - (lg_sl ([.ref aM, .int p1])).length) Slot.unset).toArray = ls at hl ⊢
  have hl : lv_has ls 3 [(0, .ref aM), (1, .int p1)] := hl
  have B29 : ∀ (n_29 : Nat) (x1_29 : Int32) (v_past_29 : (Nat → Int32)) (v_pastMany_29 : Int32) (v_rowOf_29 : (Nat → Int32)) (v_rows_29 : Int32) (x2_29 : Int32) (v_w_29 : (Nat → Int32)), f_X4_back_29 v_images x1_29 v_past_29 v_pastMany_29 v_rowOf_29 v_rows_29 n_29 x2_29 v_w_29 = some (r, o_w, o_past, o_pastMany, o_rowOf, o_rows) → ∀ (H : Heap) (locs : List Loc), va_P (dC, dI) vwCl [(aM, .inr (4, [.ref a_w, .ref a_past, .int v_pastMany_29, .ref a_images, .int v_filled, .ref a_text, .int v_length, .int v_faultKind, .int v_faultPlace, .ref a_rowOf, .int v_rows_29, .int v_wrongKind, .int v_wrongPlace, .int v_readWords, .int v_readPassages, .ref a_readLetter, .ref a_readCue, .ref a_readPassage, .ref a_held])), (a_w, .inl (cI, 510, .inl v_w_29)), (a_past, .inl (cI, 4080, .inl v_past_29)), (a_images, .inl (cI, 1020, .inl v_images)), (a_text, .inl (cI, 140, .inl v_text)), (a_rowOf, .inl (cI, 120, .inl v_rowOf_29)), (a_readLetter, .inl (cI, 120, .inl v_readLetter)), (a_readCue, .inl (cI, 120, .inl v_readCue)), (a_readPassage, .inl (cI, 120, .inl v_readPassage)), (a_held, .inl (cI, 510, .inl v_held))] H → va_D A [(aM, .inr (4, [.ref a_w, .ref a_past, .int v_pastMany_29, .ref a_images, .int v_filled, .ref a_text, .int v_length, .int v_faultKind, .int v_faultPlace, .ref a_rowOf, .int v_rows_29, .int v_wrongKind, .int v_wrongPlace, .int v_readWords, .int v_readPassages, .ref a_readLetter, .ref a_readCue, .ref a_readPassage, .ref a_held])), (a_w, .inl (cI, 510, .inl v_w_29)), (a_past, .inl (cI, 4080, .inl v_past_29)), (a_images, .inl (cI, 1020, .inl v_images)), (a_text, .inl (cI, 140, .inl v_text)), (a_rowOf, .inl (cI, 120, .inl v_rowOf_29)), (a_readLetter, .inl (cI, 120, .inl v_readLetter)), (a_readCue, .inl (cI, 120, .inl v_readCue)), (a_readPassage, .inl (cI, 120, .inl v_readPassage)), (a_held, .inl (cI, 510, .inl v_held))] → va_S A s.heap H locs → ∀ ls : Array Slot, lv_has ls 3 [(0, .ref aM), (1, .int x1_29), (2, .int x2_29)] → W p l e (headSpec wsX4_back rm_X4_back).room s m ([.ref aM, .int p1] : List Value).toArray below meth c H locs 0 0 Q (F0 m 29 ls []) := by
    intro n_29
    induction n_29 with
    | zero => intro x1_29 v_past_29 v_pastMany_29 v_rowOf_29 v_rows_29 x2_29 v_w_29 hF; exact noneE hF
    | succ n_29 ih29 =>
      intro x1_29 v_past_29 v_pastMany_29 v_rowOf_29 v_rows_29 x2_29 v_w_29 hF H locs hP hD hS ls hl
      rw [f_X4_back_29] at hF
      refine lv_iload_n hx hb dX4_back_29 rfl (lv_at hl 2 rfl) ?_
      refine lv_sipush (v := (510 : Int32)) hx hb dX4_back_30 (by decide) ?_
      refine lv_icmp_ge (tgt := 60) hx hb dX4_back_33 (by decide) (fun c_33 => ?_) (fun c_33 => ?_)
      · have hF := (if_pos c_33).symm.trans hF
        refine lv_aload_n hx hb dX4_back_60 rfl (lv_at hl 0 rfl) ?_
        obtain ⟨q_61, hq_61, hF⟩ := bindE hF
        obtain ⟨u_61_rowOf, u_61_rows⟩ := q_61
        have hPc := hP
        have hDc := hD
        have hFc := va_free (wc := [(aM, .inr (4, [.ref a_w, .ref a_past, .int v_pastMany_29, .ref a_images, .int v_filled, .ref a_text, .int v_length, .int v_faultKind, .int v_faultPlace, .ref a_rowOf, .int v_rows_29, .int v_wrongKind, .int v_wrongPlace, .int v_readWords, .int v_readPassages, .ref a_readLetter, .ref a_readCue, .ref a_readPassage, .ref a_held])), (a_w, .inl (cI, 510, .inl v_w_29)), (a_past, .inl (cI, 4080, .inl v_past_29)), (a_images, .inl (cI, 1020, .inl v_images)), (a_text, .inl (cI, 140, .inl v_text)), (a_rowOf, .inl (cI, 120, .inl v_rowOf_29)), (a_readLetter, .inl (cI, 120, .inl v_readLetter)), (a_readCue, .inl (cI, 120, .inl v_readCue)), (a_readPassage, .inl (cI, 120, .inl v_readPassage)), (a_held, .inl (cI, 510, .inl v_held))]) hD hS hA [0, 1, 2, 3, 4, 5, 6, 7, 8, 9] rfl
        refine va_callv (va_runV (As := []) (rest := []) ⟨hx, hb, hml, hown, hts⟩ (c_X4_layRows l dC dI cI cZ cO aM a_w a_past a_images a_text a_rowOf a_readLetter a_readCue a_readPassage a_held H.size v_w_29 v_past_29 v_pastMany_29 v_images v_filled v_text v_length v_faultKind v_faultPlace v_rowOf_29 v_rows_29 v_wrongKind v_wrongPlace v_readWords v_readPassages v_readLetter v_readCue v_readPassage v_held u_61_rowOf u_61_rows hq_61) (cwV 0 hts gX4_back_X4_layRows rfl rfl rfl (by decide +kernel) ⟨Nat.le_of_ble_eq_true rfl, Nat.le_of_ble_eq_true rfl⟩) ⟨fb_wr, va_recv hK hPc (ci := 4) (q0 := 0) rfl rfl, pre_wr hPc hK hN hDc⟩ rfl rfl hl.1 rfl (lv_room (Nat.le_of_ble_eq_true rfl)) dX4_back_61 ⟨Nat.zero_le _, Nat.zero_le _⟩) hS (fun q _ h => hFc q h) hFc (fun _ t H1 locs ht hvm hw hB hz1 hk1 hS => ?_)
        obtain ⟨hP1, hD1⟩ := hB
        rw [ht] at hP1
        obtain ⟨hP, hD⟩ := va_join (wr := []) (w1 := [(aM, .inr (4, [.ref a_w, .ref a_past, .int v_pastMany_29, .ref a_images, .int v_filled, .ref a_text, .int v_length, .int v_faultKind, .int v_faultPlace, .ref a_rowOf, .int u_61_rows, .int v_wrongKind, .int v_wrongPlace, .int v_readWords, .int v_readPassages, .ref a_readLetter, .ref a_readCue, .ref a_readPassage, .ref a_held])), (a_w, .inl (cI, 510, .inl v_w_29)), (a_past, .inl (cI, 4080, .inl v_past_29)), (a_images, .inl (cI, 1020, .inl v_images)), (a_text, .inl (cI, 140, .inl v_text)), (a_rowOf, .inl (cI, 120, .inl u_61_rowOf)), (a_readLetter, .inl (cI, 120, .inl v_readLetter)), (a_readCue, .inl (cI, 120, .inl v_readCue)), (a_readPassage, .inl (cI, 120, .inl v_readPassage)), (a_held, .inl (cI, 510, .inl v_held))]) hP hD [0, 1, 2, 3, 4, 5, 6, 7, 8, 9] [] rfl rfl (by decide) (by decide) hk1 hFc hP1 hD1
        generalize H1 = H at hP hS ⊢
        have hP : va_P (dC, dI) vwCl [(aM, .inr (4, [.ref a_w, .ref a_past, .int v_pastMany_29, .ref a_images, .int v_filled, .ref a_text, .int v_length, .int v_faultKind, .int v_faultPlace, .ref a_rowOf, .int u_61_rows, .int v_wrongKind, .int v_wrongPlace, .int v_readWords, .int v_readPassages, .ref a_readLetter, .ref a_readCue, .ref a_readPassage, .ref a_held])), (a_w, .inl (cI, 510, .inl v_w_29)), (a_past, .inl (cI, 4080, .inl v_past_29)), (a_images, .inl (cI, 1020, .inl v_images)), (a_text, .inl (cI, 140, .inl v_text)), (a_rowOf, .inl (cI, 120, .inl u_61_rowOf)), (a_readLetter, .inl (cI, 120, .inl v_readLetter)), (a_readCue, .inl (cI, 120, .inl v_readCue)), (a_readPassage, .inl (cI, 120, .inl v_readPassage)), (a_held, .inl (cI, 510, .inl v_held))] H := hP
        have hD : va_D A [(aM, .inr (4, [.ref a_w, .ref a_past, .int v_pastMany_29, .ref a_images, .int v_filled, .ref a_text, .int v_length, .int v_faultKind, .int v_faultPlace, .ref a_rowOf, .int u_61_rows, .int v_wrongKind, .int v_wrongPlace, .int v_readWords, .int v_readPassages, .ref a_readLetter, .ref a_readCue, .ref a_readPassage, .ref a_held])), (a_w, .inl (cI, 510, .inl v_w_29)), (a_past, .inl (cI, 4080, .inl v_past_29)), (a_images, .inl (cI, 1020, .inl v_images)), (a_text, .inl (cI, 140, .inl v_text)), (a_rowOf, .inl (cI, 120, .inl u_61_rowOf)), (a_readLetter, .inl (cI, 120, .inl v_readLetter)), (a_readCue, .inl (cI, 120, .inl v_readCue)), (a_readPassage, .inl (cI, 120, .inl v_readPassage)), (a_held, .inl (cI, 510, .inl v_held))] := hD
        refine lv_aload_n hx hb dX4_back_64 rfl (lv_at hl 0 rfl) ?_
        refine va_get (D := (dC, dI)) (ci := 4) (v := .ref a_w) (C := RX4) (T := TX4) (N := 19) hx hb hts inX4 hown hK hP 0 rfl rfl 0 (by decide) fl7 (fun _ h9 => h9) rfl dX4_back_65 ?_
        refine lv_bipush (v := (11 : Int32)) hx hb dX4_back_68 (by decide) ?_
        refine va_ialdK hx hb hK hP 1 0 rfl rfl (inK (by decide)) (j := 11) (by decide) dX4_back_70 ?_
        have hF : some ((v_w_29 11), v_w_29, v_past_29, v_pastMany_29, u_61_rowOf, u_61_rows) = some (r, o_w, o_past, o_pastMany, o_rowOf, o_rows) := hF
        have hP9 := hP
        have hD9 := hD
        cases hF
        subst hQ
        subst hAe
        exact W.iret hx hb hr (fun t ht hW => ⟨⟨_, (), rfl, rfl, ⟨by rw [ht]; exact hP9, hD9⟩⟩, hS.F ht⟩) hS.2.2 dX4_back_71
      · have hF := (if_neg c_33).symm.trans hF
        refine lv_aload_n hx hb dX4_back_36 rfl (lv_at hl 0 rfl) ?_
        refine va_get (D := (dC, dI)) (ci := 4) (v := .ref a_w) (C := RX4) (T := TX4) (N := 19) hx hb hts inX4 hown hK hP 0 rfl rfl 0 (by decide) fl7 (fun _ h9 => h9) rfl dX4_back_37 ?_
        refine lv_iload_n hx hb dX4_back_40 rfl (lv_at hl 2 rfl) ?_
        refine lv_aload_n hx hb dX4_back_41 rfl (lv_at hl 0 rfl) ?_
        refine va_get (D := (dC, dI)) (ci := 4) (v := .ref a_images) (C := RX4) (T := TX4) (N := 19) hx hb hts inX4 hown hK hP 0 rfl rfl 3 (by decide) fl16 (fun _ h9 => h9) rfl dX4_back_42 ?_
        refine lv_sipush (v := (510 : Int32)) hx hb dX4_back_45 (by decide) ?_
        refine lv_iload_n hx hb dX4_back_48 rfl (lv_at hl 1 rfl) ?_
        refine lv_imul hx hb dX4_back_49 ?_
        refine lv_iload_n hx hb dX4_back_50 rfl (lv_at hl 2 rfl) ?_
        refine lv_iadd hx hb dX4_back_51 ?_
        by_cases b_52 : ((((510 : Int32) * x1_29) + x2_29) < 0 ∨ 1020 ≤ ((((510 : Int32) * x1_29) + x2_29)).toNatClampNeg)
        · exact noneE ((if_pos b_52).symm.trans hF)
        have hF := (if_neg b_52).symm.trans hF
        refine va_iald hx hb hK hP 3 0 rfl rfl b_52 dX4_back_52 ?_
        by_cases b_53 : (x2_29 < 0 ∨ 510 ≤ x2_29.toNatClampNeg)
        · exact noneE ((if_pos b_53).symm.trans hF)
        have hF := (if_neg b_53).symm.trans hF
        refine va_iast hx hb hK hP hD hS 1 0 rfl rfl b_53 dX4_back_53 (fun H locs hP hD hS => ?_)
        have hP : va_P (dC, dI) vwCl [(aM, .inr (4, [.ref a_w, .ref a_past, .int v_pastMany_29, .ref a_images, .int v_filled, .ref a_text, .int v_length, .int v_faultKind, .int v_faultPlace, .ref a_rowOf, .int v_rows_29, .int v_wrongKind, .int v_wrongPlace, .int v_readWords, .int v_readPassages, .ref a_readLetter, .ref a_readCue, .ref a_readPassage, .ref a_held])), (a_w, .inl (cI, 510, .inl (upd v_w_29 x2_29.toNatClampNeg (v_images (((((510 : Int32) * x1_29) + x2_29)).toNatClampNeg))))), (a_past, .inl (cI, 4080, .inl v_past_29)), (a_images, .inl (cI, 1020, .inl v_images)), (a_text, .inl (cI, 140, .inl v_text)), (a_rowOf, .inl (cI, 120, .inl v_rowOf_29)), (a_readLetter, .inl (cI, 120, .inl v_readLetter)), (a_readCue, .inl (cI, 120, .inl v_readCue)), (a_readPassage, .inl (cI, 120, .inl v_readPassage)), (a_held, .inl (cI, 510, .inl v_held))] H := hP
        have hD : va_D A [(aM, .inr (4, [.ref a_w, .ref a_past, .int v_pastMany_29, .ref a_images, .int v_filled, .ref a_text, .int v_length, .int v_faultKind, .int v_faultPlace, .ref a_rowOf, .int v_rows_29, .int v_wrongKind, .int v_wrongPlace, .int v_readWords, .int v_readPassages, .ref a_readLetter, .ref a_readCue, .ref a_readPassage, .ref a_held])), (a_w, .inl (cI, 510, .inl (upd v_w_29 x2_29.toNatClampNeg (v_images (((((510 : Int32) * x1_29) + x2_29)).toNatClampNeg))))), (a_past, .inl (cI, 4080, .inl v_past_29)), (a_images, .inl (cI, 1020, .inl v_images)), (a_text, .inl (cI, 140, .inl v_text)), (a_rowOf, .inl (cI, 120, .inl v_rowOf_29)), (a_readLetter, .inl (cI, 120, .inl v_readLetter)), (a_readCue, .inl (cI, 120, .inl v_readCue)), (a_readPassage, .inl (cI, 120, .inl v_readPassage)), (a_held, .inl (cI, 510, .inl v_held))] := hD
        refine lv_iinc (v := (x2_29 + 1)) (lv' := [(2, .int (x2_29 + 1)), (0, .ref aM), (1, .int x1_29)]) hx hb dX4_back_54 hl (k := 2) rfl rfl (by decide) rfl (fun ls hl => ?_)
        refine lv_goto (tgt := 29) hx hb dX4_back_57 (by decide) ?_
        exact ih29 x1_29 v_past_29 v_pastMany_29 v_rowOf_29 v_rows_29 (x2_29 + 1) (upd v_w_29 x2_29.toNatClampNeg (v_images (((((510 : Int32) * x1_29) + x2_29)).toNatClampNeg))) hF _ _ hP hD hS _ (lv_sub hl [1, 2, 0] rfl)
  unfold f_X4_back at hF
  refine lv_iload_n hx hb dX4_back_0 rfl (lv_at hl 1 rfl) ?_
  obtain ⟨q_1, hq_1, hF⟩ := bindE hF
  have hPc := hP.sub (ws' := []) [] rfl
  refine vp_callSi (va_Run.run (va_runS (As := [.int p1]) (rest := []) ⟨hx, hb, hml, hown, hts⟩ (c_X4_isImage l dC dI cI cZ cO p1 q_1 hq_1) (cwS 1 hts gX4_back_X4_isImage rfl rfl rfl (by decide +kernel) ⟨Nat.le_of_ble_eq_true rfl, Nat.le_of_ble_eq_true rfl⟩) ⟨fb_rd, pre_rd hPc hK hN⟩ rfl rfl hl.1 rfl (lv_room (Nat.le_of_ble_eq_true rfl)) dX4_back_1 ⟨Nat.zero_le _, Nat.zero_le _⟩)) (fun z_1 hz_1 => ?_)
  subst hz_1
  refine lv_if_ne (tgt := 9) hx hb dX4_back_4 (by decide) (fun c_4 => ?_) (fun c_4 => ?_)
  · have hF := (if_neg c_4).symm.trans hF
    refine lv_aload_n hx hb dX4_back_9 rfl (lv_at hl 0 rfl) ?_
    refine va_get (D := (dC, dI)) (ci := 4) (v := .int v_filled) (C := RX4) (T := TX4) (N := 19) hx hb hts inX4 hown hK hP 0 rfl rfl 4 (by decide) fl169 (fun _ h9 => h9) rfl dX4_back_10 ?_
    refine lv_iload_n hx hb dX4_back_13 rfl (lv_at hl 1 rfl) ?_
    refine lv_ishr hx hb dX4_back_14 ?_
    refine lv_iconst (v := (1 : Int32)) hx hb dX4_back_15 (by decide) ?_
    refine lv_iand hx hb dX4_back_16 ?_
    refine lv_if_ne (tgt := 23) hx hb dX4_back_17 (by decide) (fun c_17 => ?_) (fun c_17 => ?_)
    · have hF := (if_neg c_17).symm.trans hF
      refine lv_aload_n hx hb dX4_back_23 rfl (lv_at hl 0 rfl) ?_
      obtain ⟨q_24, hq_24, hF⟩ := bindE hF
      obtain ⟨u_24_past, u_24_pastMany⟩ := q_24
      have hPc := hP
      have hDc := hD
      have hFc := va_free (wc := [(aM, .inr (4, [.ref a_w, .ref a_past, .int v_pastMany, .ref a_images, .int v_filled, .ref a_text, .int v_length, .int v_faultKind, .int v_faultPlace, .ref a_rowOf, .int v_rows, .int v_wrongKind, .int v_wrongPlace, .int v_readWords, .int v_readPassages, .ref a_readLetter, .ref a_readCue, .ref a_readPassage, .ref a_held])), (a_w, .inl (cI, 510, .inl v_w)), (a_past, .inl (cI, 4080, .inl v_past)), (a_images, .inl (cI, 1020, .inl v_images)), (a_text, .inl (cI, 140, .inl v_text)), (a_rowOf, .inl (cI, 120, .inl v_rowOf)), (a_readLetter, .inl (cI, 120, .inl v_readLetter)), (a_readCue, .inl (cI, 120, .inl v_readCue)), (a_readPassage, .inl (cI, 120, .inl v_readPassage)), (a_held, .inl (cI, 510, .inl v_held))]) hD hS hA [0, 1, 2, 3, 4, 5, 6, 7, 8, 9] rfl
      refine va_callv (va_runV (As := []) (rest := []) ⟨hx, hb, hml, hown, hts⟩ (c_X4_remember l dC dI cI cZ cO aM a_w a_past a_images a_text a_rowOf a_readLetter a_readCue a_readPassage a_held H.size v_w v_past v_pastMany v_images v_filled v_text v_length v_faultKind v_faultPlace v_rowOf v_rows v_wrongKind v_wrongPlace v_readWords v_readPassages v_readLetter v_readCue v_readPassage v_held u_24_past u_24_pastMany hq_24) (cwV 0 hts gX4_back_X4_remember rfl rfl rfl (by decide +kernel) ⟨Nat.le_of_ble_eq_true rfl, Nat.le_of_ble_eq_true rfl⟩) ⟨fb_wr, va_recv hK hPc (ci := 4) (q0 := 0) rfl rfl, pre_wr hPc hK hN hDc⟩ rfl rfl hl.1 rfl (lv_room (Nat.le_of_ble_eq_true rfl)) dX4_back_24 ⟨Nat.zero_le _, Nat.zero_le _⟩) hS (fun q _ h => hFc q h) hFc (fun _ t H1 locs ht hvm hw hB hz1 hk1 hS => ?_)
      obtain ⟨hP1, hD1⟩ := hB
      rw [ht] at hP1
      obtain ⟨hP, hD⟩ := va_join (wr := []) (w1 := [(aM, .inr (4, [.ref a_w, .ref a_past, .int u_24_pastMany, .ref a_images, .int v_filled, .ref a_text, .int v_length, .int v_faultKind, .int v_faultPlace, .ref a_rowOf, .int v_rows, .int v_wrongKind, .int v_wrongPlace, .int v_readWords, .int v_readPassages, .ref a_readLetter, .ref a_readCue, .ref a_readPassage, .ref a_held])), (a_w, .inl (cI, 510, .inl v_w)), (a_past, .inl (cI, 4080, .inl u_24_past)), (a_images, .inl (cI, 1020, .inl v_images)), (a_text, .inl (cI, 140, .inl v_text)), (a_rowOf, .inl (cI, 120, .inl v_rowOf)), (a_readLetter, .inl (cI, 120, .inl v_readLetter)), (a_readCue, .inl (cI, 120, .inl v_readCue)), (a_readPassage, .inl (cI, 120, .inl v_readPassage)), (a_held, .inl (cI, 510, .inl v_held))]) hP hD [0, 1, 2, 3, 4, 5, 6, 7, 8, 9] [] rfl rfl (by decide) (by decide) hk1 hFc hP1 hD1
      generalize H1 = H at hP hS ⊢
      have hP : va_P (dC, dI) vwCl [(aM, .inr (4, [.ref a_w, .ref a_past, .int u_24_pastMany, .ref a_images, .int v_filled, .ref a_text, .int v_length, .int v_faultKind, .int v_faultPlace, .ref a_rowOf, .int v_rows, .int v_wrongKind, .int v_wrongPlace, .int v_readWords, .int v_readPassages, .ref a_readLetter, .ref a_readCue, .ref a_readPassage, .ref a_held])), (a_w, .inl (cI, 510, .inl v_w)), (a_past, .inl (cI, 4080, .inl u_24_past)), (a_images, .inl (cI, 1020, .inl v_images)), (a_text, .inl (cI, 140, .inl v_text)), (a_rowOf, .inl (cI, 120, .inl v_rowOf)), (a_readLetter, .inl (cI, 120, .inl v_readLetter)), (a_readCue, .inl (cI, 120, .inl v_readCue)), (a_readPassage, .inl (cI, 120, .inl v_readPassage)), (a_held, .inl (cI, 510, .inl v_held))] H := hP
      have hD : va_D A [(aM, .inr (4, [.ref a_w, .ref a_past, .int u_24_pastMany, .ref a_images, .int v_filled, .ref a_text, .int v_length, .int v_faultKind, .int v_faultPlace, .ref a_rowOf, .int v_rows, .int v_wrongKind, .int v_wrongPlace, .int v_readWords, .int v_readPassages, .ref a_readLetter, .ref a_readCue, .ref a_readPassage, .ref a_held])), (a_w, .inl (cI, 510, .inl v_w)), (a_past, .inl (cI, 4080, .inl u_24_past)), (a_images, .inl (cI, 1020, .inl v_images)), (a_text, .inl (cI, 140, .inl v_text)), (a_rowOf, .inl (cI, 120, .inl v_rowOf)), (a_readLetter, .inl (cI, 120, .inl v_readLetter)), (a_readCue, .inl (cI, 120, .inl v_readCue)), (a_readPassage, .inl (cI, 120, .inl v_readPassage)), (a_held, .inl (cI, 510, .inl v_held))] := hD
      refine lv_iconst (v := (0 : Int32)) hx hb dX4_back_27 (by decide) ?_
      refine lv_istore_n (lv' := [(2, .int (0 : Int32)), (0, .ref aM), (1, .int p1)]) hx hb dX4_back_28 rfl hl (by decide) rfl (fun ls hl => ?_)
      exact B29 gas p1 u_24_past u_24_pastMany v_rowOf v_rows (0 : Int32) v_w hF _ _ hP hD hS _ (lv_sub hl [1, 2, 0] rfl)
    · have hF := (if_pos c_17).symm.trans hF
      refine lv_bipush (v := (-2 : Int32)) hx hb dX4_back_20 (by decide) ?_
      have hF : some ((-2 : Int32), v_w, v_past, v_pastMany, v_rowOf, v_rows) = some (r, o_w, o_past, o_pastMany, o_rowOf, o_rows) := hF
      have hP9 := hP
      have hD9 := hD
      cases hF
      subst hQ
      subst hAe
      exact W.iret hx hb hr (fun t ht hW => ⟨⟨_, (), rfl, rfl, ⟨by rw [ht]; exact hP9, hD9⟩⟩, hS.F ht⟩) hS.2.2 dX4_back_22
  · have hF := (if_pos c_4).symm.trans hF
    refine lv_iconst (v := (-1 : Int32)) hx hb dX4_back_7 (by decide) ?_
    have hF : some ((-1 : Int32), v_w, v_past, v_pastMany, v_rowOf, v_rows) = some (r, o_w, o_past, o_pastMany, o_rowOf, o_rows) := hF
    have hP9 := hP
    have hD9 := hD
    cases hF
    subst hQ
    subst hAe
    exact W.iret hx hb hr (fun t ht hW => ⟨⟨_, (), rfl, rfl, ⟨by rw [ht]; exact hP9, hD9⟩⟩, hS.F ht⟩) hS.2.2 dX4_back_8
