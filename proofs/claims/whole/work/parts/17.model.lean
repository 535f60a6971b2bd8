def f_X4_layRows_94 (k9 : Int32 → Int32 → (Nat → Int32) → Int32 → Option ((Nat → Int32) × Int32)) (x2 : Int32) (s0 : Int32) (v_rowOf : (Nat → Int32)) (v_rows : Int32) : Option ((Nat → Int32) × Int32) :=
  if x2 < 0 ∨ 120 ≤ x2.toNatClampNeg then none else
    k9 s0 (x2 + 1) (upd v_rowOf x2.toNatClampNeg (v_rows - (1 : Int32))) v_rows
def f_X4_layRows_79 (k9 : Int32 → Int32 → (Nat → Int32) → Int32 → Option ((Nat → Int32) × Int32)) (x1 : Int32) (x2 : Int32) (x3 : Int32) (s1 : Int32) (s2 : Int32) (v_rowOf : (Nat → Int32)) (v_rows : Int32) : Option ((Nat → Int32) × Int32) :=
  if x3 = (0 : Int32) then
      f_X4_layRows_94 k9 x2 (x1 + (1 : Int32)) v_rowOf (s1 + s2)
    else
      f_X4_layRows_94 k9 x2 (1 : Int32) v_rowOf (s1 + s2)
def f_X4_layRows_64 (k9 : Int32 → Int32 → (Nat → Int32) → Int32 → Option ((Nat → Int32) × Int32)) (x1 : Int32) (x2 : Int32) (s0 : Int32) (v_rowOf : (Nat → Int32)) (v_rows : Int32) : Option ((Nat → Int32) × Int32) :=
  if s0 = (0 : Int32) then
      f_X4_layRows_79 k9 x1 x2 s0 v_rows (0 : Int32) v_rowOf v_rows
    else
      f_X4_layRows_79 k9 x1 x2 s0 v_rows (1 : Int32) v_rowOf v_rows
def f_X4_layRows_59 (k9 : Int32 → Int32 → (Nat → Int32) → Int32 → Option ((Nat → Int32) × Int32)) (x1 : Int32) (x2 : Int32) (v_rowOf : (Nat → Int32)) (v_rows : Int32) : Option ((Nat → Int32) × Int32) :=
  f_X4_layRows_64 k9 x1 x2 (1 : Int32) v_rowOf v_rows
def f_X4_layRows_9 (v_w : (Nat → Int32)) : Nat → Int32 → Int32 → (Nat → Int32) → Int32 → Option ((Nat → Int32) × Int32)
  | 0, _, _, _, _ => none
  | n + 1, x1, x2, v_rowOf, v_rows =>
    if (v_w 9) ≤ x2 then
      some (v_rowOf, v_rows)
    else
      if x2 = (0 : Int32) then
        f_X4_layRows_59 (f_X4_layRows_9 v_w n) x1 x2 v_rowOf v_rows
      else
        if ((390 : Int32) + x2) < 0 ∨ 510 ≤ (((390 : Int32) + x2)).toNatClampNeg then none else
        if (((390 : Int32) + x2) - (1 : Int32)) < 0 ∨ 510 ≤ ((((390 : Int32) + x2) - (1 : Int32))).toNatClampNeg then none else
        if (v_w ((((390 : Int32) + x2)).toNatClampNeg)) = (v_w (((((390 : Int32) + x2) - (1 : Int32))).toNatClampNeg)) then
          if x1 = (v_w 0) then
            f_X4_layRows_59 (f_X4_layRows_9 v_w n) x1 x2 v_rowOf v_rows
          else
            f_X4_layRows_64 (f_X4_layRows_9 v_w n) x1 x2 (0 : Int32) v_rowOf v_rows
        else
          f_X4_layRows_59 (f_X4_layRows_9 v_w n) x1 x2 v_rowOf v_rows
def f_X4_layRows (v_w : (Nat → Int32)) (v_rowOf : (Nat → Int32)) (v_rows : Int32) : Option ((Nat → Int32) × Int32) :=
  f_X4_layRows_9 v_w gas (0 : Int32) (0 : Int32) v_rowOf (0 : Int32)
def rm_X4_layRows : Room := { frames := 0, cells := 0, slots := 0, locals := 0 }
set_option maxHeartbeats 4000000 in
set_option maxRecDepth 100000 in
theorem c_X4_layRows (l : Launch) (dC : Nat → ClassId) (dI : Nat → Nat → Nat) (cI cZ cO : ClassId) (aM a_w a_past a_images a_text a_rowOf a_readLetter a_readCue a_readPassage a_held : Nat) (sz : Nat) (v_w : (Nat → Int32)) (v_past : (Nat → Int32)) (v_pastMany : Int32) (v_images : (Nat → Int32)) (v_filled : Int32) (v_text : (Nat → Int32)) (v_length : Int32) (v_faultKind : Int32) (v_faultPlace : Int32) (v_rowOf : (Nat → Int32)) (v_rows : Int32) (v_wrongKind : Int32) (v_wrongPlace : Int32) (v_readWords : Int32) (v_readPassages : Int32) (v_readLetter : (Nat → Int32)) (v_readCue : (Nat → Int32)) (v_readPassage : (Nat → Int32)) (v_held : (Nat → Int32)) (o_rowOf : (Nat → Int32)) (o_rows : Int32) (hF : f_X4_layRows v_w v_rowOf v_rows = some (o_rowOf, o_rows)) : Met l yX4_layRows wsX4_layRows rm_X4_layRows (va_Pc [.ref aM] (wrW dC dI cI cZ cO sz [(aM, .inr (4, [.ref a_w, .ref a_past, .int v_pastMany, .ref a_images, .int v_filled, .ref a_text, .int v_length, .int v_faultKind, .int v_faultPlace, .ref a_rowOf, .int v_rows, .int v_wrongKind, .int v_wrongPlace, .int v_readWords, .int v_readPassages, .ref a_readLetter, .ref a_readCue, .ref a_readPassage, .ref a_held])), (a_w, .inl (cI, 510, .inl v_w)), (a_past, .inl (cI, 4080, .inl v_past)), (a_images, .inl (cI, 1020, .inl v_images)), (a_text, .inl (cI, 140, .inl v_text)), (a_rowOf, .inl (cI, 120, .inl v_rowOf)), (a_readLetter, .inl (cI, 120, .inl v_readLetter)), (a_readCue, .inl (cI, 120, .inl v_readCue)), (a_readPassage, .inl (cI, 120, .inl v_readPassage)), (a_held, .inl (cI, 510, .inl v_held))])) (va_Qv (fun (_ : Unit) => True) (wrE dC dI [(aM, .inr (4, [.ref a_w, .ref a_past, .int v_pastMany, .ref a_images, .int v_filled, .ref a_text, .int v_length, .int v_faultKind, .int v_faultPlace, .ref a_rowOf, .int v_rows, .int v_wrongKind, .int v_wrongPlace, .int v_readWords, .int v_readPassages, .ref a_readLetter, .ref a_readCue, .ref a_readPassage, .ref a_held])), (a_w, .inl (cI, 510, .inl v_w)), (a_past, .inl (cI, 4080, .inl v_past)), (a_images, .inl (cI, 1020, .inl v_images)), (a_text, .inl (cI, 140, .inl v_text)), (a_rowOf, .inl (cI, 120, .inl v_rowOf)), (a_readLetter, .inl (cI, 120, .inl v_readLetter)), (a_readCue, .inl (cI, 120, .inl v_readCue)), (a_readPassage, .inl (cI, 120, .inl v_readPassage)), (a_held, .inl (cI, 510, .inl v_held))] sz [(aM, .inr (4, [.ref a_w, .ref a_past, .int v_pastMany, .ref a_images, .int v_filled, .ref a_text, .int v_length, .int v_faultKind, .int v_faultPlace, .ref a_rowOf, .int o_rows, .int v_wrongKind, .int v_wrongPlace, .int v_readWords, .int v_readPassages, .ref a_readLetter, .ref a_readCue, .ref a_readPassage, .ref a_held])), (a_w, .inl (cI, 510, .inl v_w)), (a_past, .inl (cI, 4080, .inl v_past)), (a_images, .inl (cI, 1020, .inl v_images)), (a_text, .inl (cI, 140, .inl v_text)), (a_rowOf, .inl (cI, 120, .inl o_rowOf)), (a_readLetter, .inl (cI, 120, .inl v_readLetter)), (a_readCue, .inl (cI, 120, .inl v_readCue)), (a_readPassage, .inl (cI, 120, .inl v_readPassage)), (a_held, .inl (cI, 510, .inl v_held))]) (va_A [(aM, .inr (4, [.ref a_w, .ref a_past, .int v_pastMany, .ref a_images, .int v_filled, .ref a_text, .int v_length, .int v_faultKind, .int v_faultPlace, .ref a_rowOf, .int v_rows, .int v_wrongKind, .int v_wrongPlace, .int v_readWords, .int v_readPassages, .ref a_readLetter, .ref a_readCue, .ref a_readPassage, .ref a_held])), (a_w, .inl (cI, 510, .inl v_w)), (a_past, .inl (cI, 4080, .inl v_past)), (a_images, .inl (cI, 1020, .inl v_images)), (a_text, .inl (cI, 140, .inl v_text)), (a_rowOf, .inl (cI, 120, .inl v_rowOf)), (a_readLetter, .inl (cI, 120, .inl v_readLetter)), (a_readCue, .inl (cI, 120, .inl v_readCue)), (a_readPassage, .inl (cI, 120, .inl v_readPassage)), (a_held, .inl (cI, 510, .inl v_held))] sz)) 0 0 (va_A [(aM, .inr (4, [.ref a_w, .ref a_past, .int v_pastMany, .ref a_images, .int v_filled, .ref a_text, .int v_length, .int v_faultKind, .int v_faultPlace, .ref a_rowOf, .int v_rows, .int v_wrongKind, .int v_wrongPlace, .int v_readWords, .int v_readPassages, .ref a_readLetter, .ref a_readCue, .ref a_readPassage, .ref a_held])), (a_w, .inl (cI, 510, .inl v_w)), (a_past, .inl (cI, 4080, .inl v_past)), (a_images, .inl (cI, 1020, .inl v_images)), (a_text, .inl (cI, 140, .inl v_text)), (a_rowOf, .inl (cI, 120, .inl v_rowOf)), (a_readLetter, .inl (cI, 120, .inl v_readLetter)), (a_readCue, .inl (cI, 120, .inl v_readCue)), (a_readPassage, .inl (cI, 120, .inl v_readPassage)), (a_held, .inl (cI, 510, .inl v_held))] sz) := by
  refine Met.ofW (cc := cX4_layRows) (maxL := 4) (ret := none) (by decide) rfl ?_
  intro p e s m args below meth c s₁ B hml hv
  obtain ⟨rfl, hsz, hP, hK, hN, hD0⟩ := hv
  have hx := B.exec
  have hb := B.bytes
  have hr := B.returns
  have hts := atoms_spec (ws := wsX4_layRows) B.pre
  have hown : s.vm.findClass RX4 = some m.cls := findClass_of_methodNamed B.named
  have hlocks := B.notSynchronized
  subst hsz
  have hD := hD0.self (sz := s.heap.size)
  obtain ⟨Q, hQ⟩ : ∃ Q, Q = MQ below (va_Qv (fun (_ : Unit) => True) (wrE dC dI [(aM, .inr (4, [.ref a_w, .ref a_past, .int v_pastMany, .ref a_images, .int v_filled, .ref a_text, .int v_length, .int v_faultKind, .int v_faultPlace, .ref a_rowOf, .int v_rows, .int v_wrongKind, .int v_wrongPlace, .int v_readWords, .int v_readPassages, .ref a_readLetter, .ref a_readCue, .ref a_readPassage, .ref a_held])), (a_w, .inl (cI, 510, .inl v_w)), (a_past, .inl (cI, 4080, .inl v_past)), (a_images, .inl (cI, 1020, .inl v_images)), (a_text, .inl (cI, 140, .inl v_text)), (a_rowOf, .inl (cI, 120, .inl v_rowOf)), (a_readLetter, .inl (cI, 120, .inl v_readLetter)), (a_readCue, .inl (cI, 120, .inl v_readCue)), (a_readPassage, .inl (cI, 120, .inl v_readPassage)), (a_held, .inl (cI, 510, .inl v_held))] s.heap.size [(aM, .inr (4, [.ref a_w, .ref a_past, .int v_pastMany, .ref a_images, .int v_filled, .ref a_text, .int v_length, .int v_faultKind, .int v_faultPlace, .ref a_rowOf, .int o_rows, .int v_wrongKind, .int v_wrongPlace, .int v_readWords, .int v_readPassages, .ref a_readLetter, .ref a_readCue, .ref a_readPassage, .ref a_held])), (a_w, .inl (cI, 510, .inl v_w)), (a_past, .inl (cI, 4080, .inl v_past)), (a_images, .inl (cI, 1020, .inl v_images)), (a_text, .inl (cI, 140, .inl v_text)), (a_rowOf, .inl (cI, 120, .inl o_rowOf)), (a_readLetter, .inl (cI, 120, .inl v_readLetter)), (a_readCue, .inl (cI, 120, .inl v_readCue)), (a_readPassage, .inl (cI, 120, .inl v_readPassage)), (a_held, .inl (cI, 510, .inl v_held))]) (va_A [(aM, .inr (4, [.ref a_w, .ref a_past, .int v_pastMany, .ref a_images, .int v_filled, .ref a_text, .int v_length, .int v_faultKind, .int v_faultPlace, .ref a_rowOf, .int v_rows, .int v_wrongKind, .int v_wrongPlace, .int v_readWords, .int v_readPassages, .ref a_readLetter, .ref a_readCue, .ref a_readPassage, .ref a_held])), (a_w, .inl (cI, 510, .inl v_w)), (a_past, .inl (cI, 4080, .inl v_past)), (a_images, .inl (cI, 1020, .inl v_images)), (a_text, .inl (cI, 140, .inl v_text)), (a_rowOf, .inl (cI, 120, .inl v_rowOf)), (a_readLetter, .inl (cI, 120, .inl v_readLetter)), (a_readCue, .inl (cI, 120, .inl v_readCue)), (a_readPassage, .inl (cI, 120, .inl v_readPassage)), (a_held, .inl (cI, 510, .inl v_held))] s.heap.size)) ([.ref aM] : List Value).toArray s 0 0 (va_A [(aM, .inr (4, [.ref a_w, .ref a_past, .int v_pastMany, .ref a_images, .int v_filled, .ref a_text, .int v_length, .int v_faultKind, .int v_faultPlace, .ref a_rowOf, .int v_rows, .int v_wrongKind, .int v_wrongPlace, .int v_readWords, .int v_readPassages, .ref a_readLetter, .ref a_readCue, .ref a_readPassage, .ref a_held])), (a_w, .inl (cI, 510, .inl v_w)), (a_past, .inl (cI, 4080, .inl v_past)), (a_images, .inl (cI, 1020, .inl v_images)), (a_text, .inl (cI, 140, .inl v_text)), (a_rowOf, .inl (cI, 120, .inl v_rowOf)), (a_readLetter, .inl (cI, 120, .inl v_readLetter)), (a_readCue, .inl (cI, 120, .inl v_readCue)), (a_readPassage, .inl (cI, 120, .inl v_readPassage)), (a_held, .inl (cI, 510, .inl v_held))] s.heap.size) := ⟨_, rfl⟩
  rw [← hQ]
  obtain ⟨A, hAe⟩ : ∃ A, A = va_A [(aM, .inr (4, [.ref a_w, .ref a_past, .int v_pastMany, .ref a_images, .int v_filled, .ref a_text, .int v_length, .int v_faultKind, .int v_faultPlace, .ref a_rowOf, .int v_rows, .int v_wrongKind, .int v_wrongPlace, .int v_readWords, .int v_readPassages, .ref a_readLetter, .ref a_readCue, .ref a_readPassage, .ref a_held])), (a_w, .inl (cI, 510, .inl v_w)), (a_past, .inl (cI, 4080, .inl v_past)), (a_images, .inl (cI, 1020, .inl v_images)), (a_text, .inl (cI, 140, .inl v_text)), (a_rowOf, .inl (cI, 120, .inl v_rowOf)), (a_readLetter, .inl (cI, 120, .inl v_readLetter)), (a_readCue, .inl (cI, 120, .inl v_readCue)), (a_readPassage, .inl (cI, 120, .inl v_readPassage)), (a_held, .inl (cI, 510, .inl v_held))] s.heap.size := ⟨_, rfl⟩
  rw [← hAe] at hD
  have hA : ∀ q : Nat, s.heap.size ≤ q → A q := fun q h => by rw [hAe]; exact Or.inr h
  obtain ⟨H, hH⟩ : ∃ H, H = s.heap := ⟨_, rfl⟩
  have hS : va_S A s.heap H [] := by rw [hH]; exact va_S.rf
  rw [← hH] at hP
  rw [← hH]
  have fl29 := hts (.fieldLink RX4 29 "TeleprompterModel" "rowOf" "[I") (by decide +kernel)
  have fl50 := hts (.fieldLink RX4 50 "TeleprompterModel" "rows" "I") (by decide +kernel)
  have fl7 := hts (.fieldLink RX4 7 "TeleprompterModel" "w" "[I") (by decide +kernel)
  have inX4 : ∀ w ∈ u_ws RX4 TX4 19, w ∈ wsX4_layRows := by decide +kernel
  have hl := lv_entry ([.ref aM]) (n := 4) (Nat.le_of_ble_eq_true rfl)
  rw [lg_entry_eq]
  generalize (lg_sl ([.ref aM]) ++ List.replicate (4 - (lg_sl ([.ref aM])).length) Slot.unset).toArray = ls at hl ⊢
  have hl : lv_has ls 4 [(0, .ref aM)] := hl
  have B9 : ∀ (n_9 : Nat) (x1_9 : Int32) (x2_9 : Int32) (v_rowOf_9 : (Nat → Int32)) (v_rows_9 : Int32), f_X4_layRows_9 v_w n_9 x1_9 x2_9 v_rowOf_9 v_rows_9 = some (o_rowOf, o_rows) → ∀ (H : Heap) (locs : List Loc), va_P (dC, dI) vwCl [(aM, .inr (4, [.ref a_w, .ref a_past, .int v_pastMany, .ref a_images, .int v_filled, .ref a_text, .int v_length, .int v_faultKind, .int v_faultPlace, .ref a_rowOf, .int v_rows_9, .int v_wrongKind, .int v_wrongPlace, .int v_readWords, .int v_readPassages, .ref a_readLetter, .ref a_readCue, .ref a_readPassage, .ref a_held])), (a_w, .inl (cI, 510, .inl v_w)), (a_past, .inl (cI, 4080, .inl v_past)), (a_images, .inl (cI, 1020, .inl v_images)), (a_text, .inl (cI, 140, .inl v_text)), (a_rowOf, .inl (cI, 120, .inl v_rowOf_9)), (a_readLetter, .inl (cI, 120, .inl v_readLetter)), (a_readCue, .inl (cI, 120, .inl v_readCue)), (a_readPassage, .inl (cI, 120, .inl v_readPassage)), (a_held, .inl (cI, 510, .inl v_held))] H → va_D A [(aM, .inr (4, [.ref a_w, .ref a_past, .int v_pastMany, .ref a_images, .int v_filled, .ref a_text, .int v_length, .int v_faultKind, .int v_faultPlace, .ref a_rowOf, .int v_rows_9, .int v_wrongKind, .int v_wrongPlace, .int v_readWords, .int v_readPassages, .ref a_readLetter, .ref a_readCue, .ref a_readPassage, .ref a_held])), (a_w, .inl (cI, 510, .inl v_w)), (a_past, .inl (cI, 4080, .inl v_past)), (a_images, .inl (cI, 1020, .inl v_images)), (a_text, .inl (cI, 140, .inl v_text)), (a_rowOf, .inl (cI, 120, .inl v_rowOf_9)), (a_readLetter, .inl (cI, 120, .inl v_readLetter)), (a_readCue, .inl (cI, 120, .inl v_readCue)), (a_readPassage, .inl (cI, 120, .inl v_readPassage)), (a_held, .inl (cI, 510, .inl v_held))] → va_S A s.heap H locs → ∀ ls : Array Slot, lv_has ls 4 [(0, .ref aM), (1, .int x1_9), (2, .int x2_9)] → W p l e (headSpec wsX4_layRows rm_X4_layRows).room s m ([.ref aM] : List Value).toArray below meth c H locs 0 0 Q (F0 m 9 ls []) := by
    intro n_9
    induction n_9 with
    | zero => intro x1_9 x2_9 v_rowOf_9 v_rows_9 hF; exact noneE hF
    | succ n_9 ih9 =>
      intro x1_9 x2_9 v_rowOf_9 v_rows_9 hF H locs hP hD hS ls hl
      have B94 : ∀ (x2_94 : Int32) (s0_94 : Int32) (v_rowOf_94 : (Nat → Int32)) (v_rows_94 : Int32), f_X4_layRows_94 (f_X4_layRows_9 v_w n_9) x2_94 s0_94 v_rowOf_94 v_rows_94 = some (o_rowOf, o_rows) → ∀ (H : Heap) (locs : List Loc), va_P (dC, dI) vwCl [(aM, .inr (4, [.ref a_w, .ref a_past, .int v_pastMany, .ref a_images, .int v_filled, .ref a_text, .int v_length, .int v_faultKind, .int v_faultPlace, .ref a_rowOf, .int v_rows_94, .int v_wrongKind, .int v_wrongPlace, .int v_readWords, .int v_readPassages, .ref a_readLetter, .ref a_readCue, .ref a_readPassage, .ref a_held])), (a_w, .inl (cI, 510, .inl v_w)), (a_past, .inl (cI, 4080, .inl v_past)), (a_images, .inl (cI, 1020, .inl v_images)), (a_text, .inl (cI, 140, .inl v_text)), (a_rowOf, .inl (cI, 120, .inl v_rowOf_94)), (a_readLetter, .inl (cI, 120, .inl v_readLetter)), (a_readCue, .inl (cI, 120, .inl v_readCue)), (a_readPassage, .inl (cI, 120, .inl v_readPassage)), (a_held, .inl (cI, 510, .inl v_held))] H → va_D A [(aM, .inr (4, [.ref a_w, .ref a_past, .int v_pastMany, .ref a_images, .int v_filled, .ref a_text, .int v_length, .int v_faultKind, .int v_faultPlace, .ref a_rowOf, .int v_rows_94, .int v_wrongKind, .int v_wrongPlace, .int v_readWords, .int v_readPassages, .ref a_readLetter, .ref a_readCue, .ref a_readPassage, .ref a_held])), (a_w, .inl (cI, 510, .inl v_w)), (a_past, .inl (cI, 4080, .inl v_past)), (a_images, .inl (cI, 1020, .inl v_images)), (a_text, .inl (cI, 140, .inl v_text)), (a_rowOf, .inl (cI, 120, .inl v_rowOf_94)), (a_readLetter, .inl (cI, 120, .inl v_readLetter)), (a_readCue, .inl (cI, 120, .inl v_readCue)), (a_readPassage, .inl (cI, 120, .inl v_readPassage)), (a_held, .inl (cI, 510, .inl v_held))] → va_S A s.heap H locs → ∀ ls : Array Slot, lv_has ls 4 [(0, .ref aM), (2, .int x2_94)] → W p l e (headSpec wsX4_layRows rm_X4_layRows).room s m ([.ref aM] : List Value).toArray below meth c H locs 0 0 Q (F0 m 94 ls [.int s0_94]) := by
        intro x2_94 s0_94 v_rowOf_94 v_rows_94 hF H locs hP hD hS ls hl
        unfold f_X4_layRows_94 at hF
        refine lv_istore_n (lv' := [(1, .int s0_94), (0, .ref aM), (2, .int x2_94)]) hx hb dX4_layRows_94 rfl hl (by decide) rfl (fun ls hl => ?_)
        refine lv_aload_n hx hb dX4_layRows_95 rfl (lv_at hl 1 rfl) ?_
        refine va_get (D := (dC, dI)) (ci := 4) (v := .ref a_rowOf) (C := RX4) (T := TX4) (N := 19) hx hb hts inX4 hown hK hP 0 rfl rfl 9 (by decide) fl29 (fun _ h9 => h9) rfl dX4_layRows_96 ?_
        refine lv_iload_n hx hb dX4_layRows_99 rfl (lv_at hl 2 rfl) ?_
        refine lv_aload_n hx hb dX4_layRows_100 rfl (lv_at hl 1 rfl) ?_
        refine va_get (D := (dC, dI)) (ci := 4) (v := .int v_rows_94) (C := RX4) (T := TX4) (N := 19) hx hb hts inX4 hown hK hP 0 rfl rfl 10 (by decide) fl50 (fun _ h9 => h9) rfl dX4_layRows_101 ?_
        refine lv_iconst (v := (1 : Int32)) hx hb dX4_layRows_104 (by decide) ?_
        refine lv_isub hx hb dX4_layRows_105 ?_
        by_cases b_106 : (x2_94 < 0 ∨ 120 ≤ x2_94.toNatClampNeg)
        · exact noneE ((if_pos b_106).symm.trans hF)
        have hF := (if_neg b_106).symm.trans hF
        refine va_iast hx hb hK hP hD hS 5 0 rfl rfl b_106 dX4_layRows_106 (fun H locs hP hD hS => ?_)
        have hP : va_P (dC, dI) vwCl [(aM, .inr (4, [.ref a_w, .ref a_past, .int v_pastMany, .ref a_images, .int v_filled, .ref a_text, .int v_length, .int v_faultKind, .int v_faultPlace, .ref a_rowOf, .int v_rows_94, .int v_wrongKind, .int v_wrongPlace, .int v_readWords, .int v_readPassages, .ref a_readLetter, .ref a_readCue, .ref a_readPassage, .ref a_held])), (a_w, .inl (cI, 510, .inl v_w)), (a_past, .inl (cI, 4080, .inl v_past)), (a_images, .inl (cI, 1020, .inl v_images)), (a_text, .inl (cI, 140, .inl v_text)), (a_rowOf, .inl (cI, 120, .inl (upd v_rowOf_94 x2_94.toNatClampNeg (v_rows_94 - (1 : Int32))))), (a_readLetter, .inl (cI, 120, .inl v_readLetter)), (a_readCue, .inl (cI, 120, .inl v_readCue)), (a_readPassage, .inl (cI, 120, .inl v_readPassage)), (a_held, .inl (cI, 510, .inl v_held))] H := hP
        have hD : va_D A [(aM, .inr (4, [.ref a_w, .ref a_past, .int v_pastMany, .ref a_images, .int v_filled, .ref a_text, .int v_length, .int v_faultKind, .int v_faultPlace, .ref a_rowOf, .int v_rows_94, .int v_wrongKind, .int v_wrongPlace, .int v_readWords, .int v_readPassages, .ref a_readLetter, .ref a_readCue, .ref a_readPassage, .ref a_held])), (a_w, .inl (cI, 510, .inl v_w)), (a_past, .inl (cI, 4080, .inl v_past)), (a_images, .inl (cI, 1020, .inl v_images)), (a_text, .inl (cI, 140, .inl v_text)), (a_rowOf, .inl (cI, 120, .inl (upd v_rowOf_94 x2_94.toNatClampNeg (v_rows_94 - (1 : Int32))))), (a_readLetter, .inl (cI, 120, .inl v_readLetter)), (a_readCue, .inl (cI, 120, .inl v_readCue)), (a_readPassage, .inl (cI, 120, .inl v_readPassage)), (a_held, .inl (cI, 510, .inl v_held))] := hD
        refine lv_iinc (v := (x2_94 + 1)) (lv' := [(2, .int (x2_94 + 1)), (1, .int s0_94), (0, .ref aM)]) hx hb dX4_layRows_107 hl (k := 2) rfl rfl (by decide) rfl (fun ls hl => ?_)
        refine lv_goto (tgt := 9) hx hb dX4_layRows_110 (by decide) ?_
        exact ih9 s0_94 (x2_94 + 1) (upd v_rowOf_94 x2_94.toNatClampNeg (v_rows_94 - (1 : Int32))) v_rows_94 hF _ _ hP hD hS _ (lv_sub hl [2, 1, 0] rfl)
      have B79 : ∀ (x1_79 : Int32) (x2_79 : Int32) (x3_79 : Int32) (s1_79 : Int32) (s2_79 : Int32) (v_rowOf_79 : (Nat → Int32)) (v_rows_79 : Int32), f_X4_layRows_79 (f_X4_layRows_9 v_w n_9) x1_79 x2_79 x3_79 s1_79 s2_79 v_rowOf_79 v_rows_79 = some (o_rowOf, o_rows) → ∀ (H : Heap) (locs : List Loc), va_P (dC, dI) vwCl [(aM, .inr (4, [.ref a_w, .ref a_past, .int v_pastMany, .ref a_images, .int v_filled, .ref a_text, .int v_length, .int v_faultKind, .int v_faultPlace, .ref a_rowOf, .int v_rows_79, .int v_wrongKind, .int v_wrongPlace, .int v_readWords, .int v_readPassages, .ref a_readLetter, .ref a_readCue, .ref a_readPassage, .ref a_held])), (a_w, .inl (cI, 510, .inl v_w)), (a_past, .inl (cI, 4080, .inl v_past)), (a_images, .inl (cI, 1020, .inl v_images)), (a_text, .inl (cI, 140, .inl v_text)), (a_rowOf, .inl (cI, 120, .inl v_rowOf_79)), (a_readLetter, .inl (cI, 120, .inl v_readLetter)), (a_readCue, .inl (cI, 120, .inl v_readCue)), (a_readPassage, .inl (cI, 120, .inl v_readPassage)), (a_held, .inl (cI, 510, .inl v_held))] H → va_D A [(aM, .inr (4, [.ref a_w, .ref a_past, .int v_pastMany, .ref a_images, .int v_filled, .ref a_text, .int v_length, .int v_faultKind, .int v_faultPlace, .ref a_rowOf, .int v_rows_79, .int v_wrongKind, .int v_wrongPlace, .int v_readWords, .int v_readPassages, .ref a_readLetter, .ref a_readCue, .ref a_readPassage, .ref a_held])), (a_w, .inl (cI, 510, .inl v_w)), (a_past, .inl (cI, 4080, .inl v_past)), (a_images, .inl (cI, 1020, .inl v_images)), (a_text, .inl (cI, 140, .inl v_text)), (a_rowOf, .inl (cI, 120, .inl v_rowOf_79)), (a_readLetter, .inl (cI, 120, .inl v_readLetter)), (a_readCue, .inl (cI, 120, .inl v_readCue)), (a_readPassage, .inl (cI, 120, .inl v_readPassage)), (a_held, .inl (cI, 510, .inl v_held))] → va_S A s.heap H locs → ∀ ls : Array Slot, lv_has ls 4 [(0, .ref aM), (1, .int x1_79), (2, .int x2_79), (3, .int x3_79)] → W p l e (headSpec wsX4_layRows rm_X4_layRows).room s m ([.ref aM] : List Value).toArray below meth c H locs 0 0 Q (F0 m 79 ls [.int s2_79, .int s1_79, .ref aM]) := by
        intro x1_79 x2_79 x3_79 s1_79 s2_79 v_rowOf_79 v_rows_79 hF H locs hP hD hS ls hl
        unfold f_X4_layRows_79 at hF
        refine lv_iadd hx hb dX4_layRows_79 ?_
        refine va_put (D := (dC, dI)) (ci := 4) (v := .int (s1_79 + s2_79)) (ty := .int) (C := RX4) (T := TX4) (N := 19) hx hb hts inX4 tyX4 tyX4_ok nmX4 hown hK hP hD hS 0 rfl rfl 10 (by decide) fl50 (fun _ h9 => h9) rfl (by decide +kernel) rfl rfl (Nat.le_of_ble_eq_true rfl) dX4_layRows_80 (fun H locs hP hD hS => ?_)
        have hP : va_P (dC, dI) vwCl [(aM, .inr (4, [.ref a_w, .ref a_past, .int v_pastMany, .ref a_images, .int v_filled, .ref a_text, .int v_length, .int v_faultKind, .int v_faultPlace, .ref a_rowOf, .int (s1_79 + s2_79), .int v_wrongKind, .int v_wrongPlace, .int v_readWords, .int v_readPassages, .ref a_readLetter, .ref a_readCue, .ref a_readPassage, .ref a_held])), (a_w, .inl (cI, 510, .inl v_w)), (a_past, .inl (cI, 4080, .inl v_past)), (a_images, .inl (cI, 1020, .inl v_images)), (a_text, .inl (cI, 140, .inl v_text)), (a_rowOf, .inl (cI, 120, .inl v_rowOf_79)), (a_readLetter, .inl (cI, 120, .inl v_readLetter)), (a_readCue, .inl (cI, 120, .inl v_readCue)), (a_readPassage, .inl (cI, 120, .inl v_readPassage)), (a_held, .inl (cI, 510, .inl v_held))] H := hP
        have hD : va_D A [(aM, .inr (4, [.ref a_w, .ref a_past, .int v_pastMany, .ref a_images, .int v_filled, .ref a_text, .int v_length, .int v_faultKind, .int v_faultPlace, .ref a_rowOf, .int (s1_79 + s2_79), .int v_wrongKind, .int v_wrongPlace, .int v_readWords, .int v_readPassages, .ref a_readLetter, .ref a_readCue, .ref a_readPassage, .ref a_held])), (a_w, .inl (cI, 510, .inl v_w)), (a_past, .inl (cI, 4080, .inl v_past)), (a_images, .inl (cI, 1020, .inl v_images)), (a_text, .inl (cI, 140, .inl v_text)), (a_rowOf, .inl (cI, 120, .inl v_rowOf_79)), (a_readLetter, .inl (cI, 120, .inl v_readLetter)), (a_readCue, .inl (cI, 120, .inl v_readCue)), (a_readPassage, .inl (cI, 120, .inl v_readPassage)), (a_held, .inl (cI, 510, .inl v_held))] := hD
        refine lv_iload_n hx hb dX4_layRows_83 rfl (lv_at hl 3 rfl) ?_
        refine lv_if_eq (tgt := 91) hx hb dX4_layRows_84 (by decide) (fun c_84 => ?_) (fun c_84 => ?_)
        · have hF := (if_pos c_84).symm.trans hF
          refine lv_iload_n hx hb dX4_layRows_91 rfl (lv_at hl 1 rfl) ?_
          refine lv_iconst (v := (1 : Int32)) hx hb dX4_layRows_92 (by decide) ?_
          refine lv_iadd hx hb dX4_layRows_93 ?_
          exact B94 x2_79 (x1_79 + (1 : Int32)) v_rowOf_79 (s1_79 + s2_79) hF _ _ hP hD hS _ (lv_sub hl [0, 2] rfl)
        · have hF := (if_neg c_84).symm.trans hF
          refine lv_iconst (v := (1 : Int32)) hx hb dX4_layRows_87 (by decide) ?_
          refine lv_goto (tgt := 94) hx hb dX4_layRows_88 (by decide) ?_
          exact B94 x2_79 (1 : Int32) v_rowOf_79 (s1_79 + s2_79) hF _ _ hP hD hS _ (lv_sub hl [0, 2] rfl)
      have B64 : ∀ (x1_64 : Int32) (x2_64 : Int32) (s0_64 : Int32) (v_rowOf_64 : (Nat → Int32)) (v_rows_64 : Int32), f_X4_layRows_64 (f_X4_layRows_9 v_w n_9) x1_64 x2_64 s0_64 v_rowOf_64 v_rows_64 = some (o_rowOf, o_rows) → ∀ (H : Heap) (locs : List Loc), va_P (dC, dI) vwCl [(aM, .inr (4, [.ref a_w, .ref a_past, .int v_pastMany, .ref a_images, .int v_filled, .ref a_text, .int v_length, .int v_faultKind, .int v_faultPlace, .ref a_rowOf, .int v_rows_64, .int v_wrongKind, .int v_wrongPlace, .int v_readWords, .int v_readPassages, .ref a_readLetter, .ref a_readCue, .ref a_readPassage, .ref a_held])), (a_w, .inl (cI, 510, .inl v_w)), (a_past, .inl (cI, 4080, .inl v_past)), (a_images, .inl (cI, 1020, .inl v_images)), (a_text, .inl (cI, 140, .inl v_text)), (a_rowOf, .inl (cI, 120, .inl v_rowOf_64)), (a_readLetter, .inl (cI, 120, .inl v_readLetter)), (a_readCue, .inl (cI, 120, .inl v_readCue)), (a_readPassage, .inl (cI, 120, .inl v_readPassage)), (a_held, .inl (cI, 510, .inl v_held))] H → va_D A [(aM, .inr (4, [.ref a_w, .ref a_past, .int v_pastMany, .ref a_images, .int v_filled, .ref a_text, .int v_length, .int v_faultKind, .int v_faultPlace, .ref a_rowOf, .int v_rows_64, .int v_wrongKind, .int v_wrongPlace, .int v_readWords, .int v_readPassages, .ref a_readLetter, .ref a_readCue, .ref a_readPassage, .ref a_held])), (a_w, .inl (cI, 510, .inl v_w)), (a_past, .inl (cI, 4080, .inl v_past)), (a_images, .inl (cI, 1020, .inl v_images)), (a_text, .inl (cI, 140, .inl v_text)), (a_rowOf, .inl (cI, 120, .inl v_rowOf_64)), (a_readLetter, .inl (cI, 120, .inl v_readLetter)), (a_readCue, .inl (cI, 120, .inl v_readCue)), (a_readPassage, .inl (cI, 120, .inl v_readPassage)), (a_held, .inl (cI, 510, .inl v_held))] → va_S A s.heap H locs → ∀ ls : Array Slot, lv_has ls 4 [(0, .ref aM), (1, .int x1_64), (2, .int x2_64)] → W p l e (headSpec wsX4_layRows rm_X4_layRows).room s m ([.ref aM] : List Value).toArray below meth c H locs 0 0 Q (F0 m 64 ls [.int s0_64]) := by
        intro x1_64 x2_64 s0_64 v_rowOf_64 v_rows_64 hF H locs hP hD hS ls hl
        unfold f_X4_layRows_64 at hF
        refine lv_istore_n (lv' := [(3, .int s0_64), (0, .ref aM), (1, .int x1_64), (2, .int x2_64)]) hx hb dX4_layRows_64 rfl hl (by decide) rfl (fun ls hl => ?_)
        refine lv_aload_n hx hb dX4_layRows_65 rfl (lv_at hl 1 rfl) ?_
        refine lv_dup hx hb dX4_layRows_66 rfl ?_
        refine va_get (D := (dC, dI)) (ci := 4) (v := .int v_rows_64) (C := RX4) (T := TX4) (N := 19) hx hb hts inX4 hown hK hP 0 rfl rfl 10 (by decide) fl50 (fun _ h9 => h9) rfl dX4_layRows_67 ?_
        refine lv_iload_n hx hb dX4_layRows_70 rfl (lv_at hl 0 rfl) ?_
        refine lv_if_eq (tgt := 78) hx hb dX4_layRows_71 (by decide) (fun c_71 => ?_) (fun c_71 => ?_)
        · have hF := (if_pos c_71).symm.trans hF
          refine lv_iconst (v := (0 : Int32)) hx hb dX4_layRows_78 (by decide) ?_
          exact B79 x1_64 x2_64 s0_64 v_rows_64 (0 : Int32) v_rowOf_64 v_rows_64 hF _ _ hP hD hS _ (lv_sub hl [1, 2, 3, 0] rfl)
        · have hF := (if_neg c_71).symm.trans hF
          refine lv_iconst (v := (1 : Int32)) hx hb dX4_layRows_74 (by decide) ?_
          refine lv_goto (tgt := 79) hx hb dX4_layRows_75 (by decide) ?_
          exact B79 x1_64 x2_64 s0_64 v_rows_64 (1 : Int32) v_rowOf_64 v_rows_64 hF _ _ hP hD hS _ (lv_sub hl [1, 2, 3, 0] rfl)
      have B59 : ∀ (x1_59 : Int32) (x2_59 : Int32) (v_rowOf_59 : (Nat → Int32)) (v_rows_59 : Int32), f_X4_layRows_59 (f_X4_layRows_9 v_w n_9) x1_59 x2_59 v_rowOf_59 v_rows_59 = some (o_rowOf, o_rows) → ∀ (H : Heap) (locs : List Loc), va_P (dC, dI) vwCl [(aM, .inr (4, [.ref a_w, .ref a_past, .int v_pastMany, .ref a_images, .int v_filled, .ref a_text, .int v_length, .int v_faultKind, .int v_faultPlace, .ref a_rowOf, .int v_rows_59, .int v_wrongKind, .int v_wrongPlace, .int v_readWords, .int v_readPassages, .ref a_readLetter, .ref a_readCue, .ref a_readPassage, .ref a_held])), (a_w, .inl (cI, 510, .inl v_w)), (a_past, .inl (cI, 4080, .inl v_past)), (a_images, .inl (cI, 1020, .inl v_images)), (a_text, .inl (cI, 140, .inl v_text)), (a_rowOf, .inl (cI, 120, .inl v_rowOf_59)), (a_readLetter, .inl (cI, 120, .inl v_readLetter)), (a_readCue, .inl (cI, 120, .inl v_readCue)), (a_readPassage, .inl (cI, 120, .inl v_readPassage)), (a_held, .inl (cI, 510, .inl v_held))] H → va_D A [(aM, .inr (4, [.ref a_w, .ref a_past, .int v_pastMany, .ref a_images, .int v_filled, .ref a_text, .int v_length, .int v_faultKind, .int v_faultPlace, .ref a_rowOf, .int v_rows_59, .int v_wrongKind, .int v_wrongPlace, .int v_readWords, .int v_readPassages, .ref a_readLetter, .ref a_readCue, .ref a_readPassage, .ref a_held])), (a_w, .inl (cI, 510, .inl v_w)), (a_past, .inl (cI, 4080, .inl v_past)), (a_images, .inl (cI, 1020, .inl v_images)), (a_text, .inl (cI, 140, .inl v_text)), (a_rowOf, .inl (cI, 120, .inl v_rowOf_59)), (a_readLetter, .inl (cI, 120, .inl v_readLetter)), (a_readCue, .inl (cI, 120, .inl v_readCue)), (a_readPassage, .inl (cI, 120, .inl v_readPassage)), (a_held, .inl (cI, 510, .inl v_held))] → va_S A s.heap H locs → ∀ ls : Array Slot, lv_has ls 4 [(0, .ref aM), (1, .int x1_59), (2, .int x2_59)] → W p l e (headSpec wsX4_layRows rm_X4_layRows).room s m ([.ref aM] : List Value).toArray below meth c H locs 0 0 Q (F0 m 59 ls []) := by
        intro x1_59 x2_59 v_rowOf_59 v_rows_59 hF H locs hP hD hS ls hl
        unfold f_X4_layRows_59 at hF
        refine lv_iconst (v := (1 : Int32)) hx hb dX4_layRows_59 (by decide) ?_
        refine lv_goto (tgt := 64) hx hb dX4_layRows_60 (by decide) ?_
        exact B64 x1_59 x2_59 (1 : Int32) v_rowOf_59 v_rows_59 hF _ _ hP hD hS _ (lv_sub hl [0, 1, 2] rfl)
      rw [f_X4_layRows_9] at hF
      refine lv_iload_n hx hb dX4_layRows_9 rfl (lv_at hl 2 rfl) ?_
      refine lv_aload_n hx hb dX4_layRows_10 rfl (lv_at hl 0 rfl) ?_
      refine va_get (D := (dC, dI)) (ci := 4) (v := .ref a_w) (C := RX4) (T := TX4) (N := 19) hx hb hts inX4 hown hK hP 0 rfl rfl 0 (by decide) fl7 (fun _ h9 => h9) rfl dX4_layRows_11 ?_
      refine lv_bipush (v := (9 : Int32)) hx hb dX4_layRows_14 (by decide) ?_
      refine va_ialdK hx hb hK hP 1 0 rfl rfl (inK (by decide)) (j := 9) (by decide) dX4_layRows_16 ?_
      refine lv_icmp_ge (tgt := 113) hx hb dX4_layRows_17 (by decide) (fun c_17 => ?_) (fun c_17 => ?_)
      · have hF := (if_pos c_17).symm.trans hF
        have hF : some (v_rowOf_9, v_rows_9) = some (o_rowOf, o_rows) := hF
        have hP9 := hP
        have hD9 := hD
        cases hF
        subst hQ
        subst hAe
        exact W.vret hx hb hr (fun t ht hW => ⟨⟨(), rfl, trivial, ⟨by rw [ht]; exact hP9, hD9⟩⟩, hS.F ht⟩) hS.2.2 dX4_layRows_113
      · have hF := (if_neg c_17).symm.trans hF
        refine lv_iload_n hx hb dX4_layRows_20 rfl (lv_at hl 2 rfl) ?_
        refine lv_if_eq (tgt := 59) hx hb dX4_layRows_21 (by decide) (fun c_21 => ?_) (fun c_21 => ?_)
        · have hF := (if_pos c_21).symm.trans hF
          exact B59 x1_9 x2_9 v_rowOf_9 v_rows_9 hF _ _ hP hD hS _ (lv_sub hl [0, 1, 2] rfl)
        · have hF := (if_neg c_21).symm.trans hF
          refine lv_aload_n hx hb dX4_layRows_24 rfl (lv_at hl 0 rfl) ?_
          refine va_get (D := (dC, dI)) (ci := 4) (v := .ref a_w) (C := RX4) (T := TX4) (N := 19) hx hb hts inX4 hown hK hP 0 rfl rfl 0 (by decide) fl7 (fun _ h9 => h9) rfl dX4_layRows_25 ?_
          refine lv_sipush (v := (390 : Int32)) hx hb dX4_layRows_28 (by decide) ?_
          refine lv_iload_n hx hb dX4_layRows_31 rfl (lv_at hl 2 rfl) ?_
          refine lv_iadd hx hb dX4_layRows_32 ?_
          by_cases b_33 : (((390 : Int32) + x2_9) < 0 ∨ 510 ≤ (((390 : Int32) + x2_9)).toNatClampNeg)
          · exact noneE ((if_pos b_33).symm.trans hF)
          have hF := (if_neg b_33).symm.trans hF
          refine va_iald hx hb hK hP 1 0 rfl rfl b_33 dX4_layRows_33 ?_
          refine lv_aload_n hx hb dX4_layRows_34 rfl (lv_at hl 0 rfl) ?_
          refine va_get (D := (dC, dI)) (ci := 4) (v := .ref a_w) (C := RX4) (T := TX4) (N := 19) hx hb hts inX4 hown hK hP 0 rfl rfl 0 (by decide) fl7 (fun _ h9 => h9) rfl dX4_layRows_35 ?_
          refine lv_sipush (v := (390 : Int32)) hx hb dX4_layRows_38 (by decide) ?_
          refine lv_iload_n hx hb dX4_layRows_41 rfl (lv_at hl 2 rfl) ?_
          refine lv_iadd hx hb dX4_layRows_42 ?_
          refine lv_iconst (v := (1 : Int32)) hx hb dX4_layRows_43 (by decide) ?_
          refine lv_isub hx hb dX4_layRows_44 ?_
          by_cases b_45 : ((((390 : Int32) + x2_9) - (1 : Int32)) < 0 ∨ 510 ≤ ((((390 : Int32) + x2_9) - (1 : Int32))).toNatClampNeg)
          · exact noneE ((if_pos b_45).symm.trans hF)
          have hF := (if_neg b_45).symm.trans hF
          refine va_iald hx hb hK hP 1 0 rfl rfl b_45 dX4_layRows_45 ?_
          refine lv_icmp_ne (tgt := 59) hx hb dX4_layRows_46 (by decide) (fun c_46 => ?_) (fun c_46 => ?_)
          · have hF := (if_neg c_46).symm.trans hF
            exact B59 x1_9 x2_9 v_rowOf_9 v_rows_9 hF _ _ hP hD hS _ (lv_sub hl [0, 1, 2] rfl)
          · have hF := (if_pos c_46).symm.trans hF
            refine lv_iload_n hx hb dX4_layRows_49 rfl (lv_at hl 1 rfl) ?_
            refine lv_aload_n hx hb dX4_layRows_50 rfl (lv_at hl 0 rfl) ?_
            refine va_get (D := (dC, dI)) (ci := 4) (v := .ref a_w) (C := RX4) (T := TX4) (N := 19) hx hb hts inX4 hown hK hP 0 rfl rfl 0 (by decide) fl7 (fun _ h9 => h9) rfl dX4_layRows_51 ?_
            refine lv_iconst (v := (0 : Int32)) hx hb dX4_layRows_54 (by decide) ?_
            refine va_ialdK hx hb hK hP 1 0 rfl rfl (inK (by decide)) (j := 0) (by decide) dX4_layRows_55 ?_
            refine lv_icmp_ne (tgt := 63) hx hb dX4_layRows_56 (by decide) (fun c_56 => ?_) (fun c_56 => ?_)
            · have hF := (if_neg c_56).symm.trans hF
              refine lv_iconst (v := (0 : Int32)) hx hb dX4_layRows_63 (by decide) ?_
              exact B64 x1_9 x2_9 (0 : Int32) v_rowOf_9 v_rows_9 hF _ _ hP hD hS _ (lv_sub hl [0, 1, 2] rfl)
            · have hF := (if_pos c_56).symm.trans hF
              exact B59 x1_9 x2_9 v_rowOf_9 v_rows_9 hF _ _ hP hD hS _ (lv_sub hl [0, 1, 2] rfl)
  unfold f_X4_layRows at hF
  refine lv_aload_n hx hb dX4_layRows_0 rfl (lv_at hl 0 rfl) ?_
  refine lv_iconst (v := (0 : Int32)) hx hb dX4_layRows_1 (by decide) ?_
  refine va_put (D := (dC, dI)) (ci := 4) (v := .int (0 : Int32)) (ty := .int) (C := RX4) (T := TX4) (N := 19) hx hb hts inX4 tyX4 tyX4_ok nmX4 hown hK hP hD hS 0 rfl rfl 10 (by decide) fl50 (fun _ h9 => h9) rfl (by decide +kernel) rfl rfl (Nat.le_of_ble_eq_true rfl) dX4_layRows_2 (fun H locs hP hD hS => ?_)
  have hP : va_P (dC, dI) vwCl [(aM, .inr (4, [.ref a_w, .ref a_past, .int v_pastMany, .ref a_images, .int v_filled, .ref a_text, .int v_length, .int v_faultKind, .int v_faultPlace, .ref a_rowOf, .int (0 : Int32), .int v_wrongKind, .int v_wrongPlace, .int v_readWords, .int v_readPassages, .ref a_readLetter, .ref a_readCue, .ref a_readPassage, .ref a_held])), (a_w, .inl (cI, 510, .inl v_w)), (a_past, .inl (cI, 4080, .inl v_past)), (a_images, .inl (cI, 1020, .inl v_images)), (a_text, .inl (cI, 140, .inl v_text)), (a_rowOf, .inl (cI, 120, .inl v_rowOf)), (a_readLetter, .inl (cI, 120, .inl v_readLetter)), (a_readCue, .inl (cI, 120, .inl v_readCue)), (a_readPassage, .inl (cI, 120, .inl v_readPassage)), (a_held, .inl (cI, 510, .inl v_held))] H := hP
  have hD : va_D A [(aM, .inr (4, [.ref a_w, .ref a_past, .int v_pastMany, .ref a_images, .int v_filled, .ref a_text, .int v_length, .int v_faultKind, .int v_faultPlace, .ref a_rowOf, .int (0 : Int32), .int v_wrongKind, .int v_wrongPlace, .int v_readWords, .int v_readPassages, .ref a_readLetter, .ref a_readCue, .ref a_readPassage, .ref a_held])), (a_w, .inl (cI, 510, .inl v_w)), (a_past, .inl (cI, 4080, .inl v_past)), (a_images, .inl (cI, 1020, .inl v_images)), (a_text, .inl (cI, 140, .inl v_text)), (a_rowOf, .inl (cI, 120, .inl v_rowOf)), (a_readLetter, .inl (cI, 120, .inl v_readLetter)), (a_readCue, .inl (cI, 120, .inl v_readCue)), (a_readPassage, .inl (cI, 120, .inl v_readPassage)), (a_held, .inl (cI, 510, .inl v_held))] := hD
  refine lv_iconst (v := (0 : Int32)) hx hb dX4_layRows_5 (by decide) ?_
  refine lv_istore_n (lv' := [(1, .int (0 : Int32)), (0, .ref aM)]) hx hb dX4_layRows_6 rfl hl (by decide) rfl (fun ls hl => ?_)
  refine lv_iconst (v := (0 : Int32)) hx hb dX4_layRows_7 (by decide) ?_
  refine lv_istore_n (lv' := [(2, .int (0 : Int32)), (1, .int (0 : Int32)), (0, .ref aM)]) hx hb dX4_layRows_8 rfl hl (by decide) rfl (fun ls hl => ?_)
  exact B9 gas (0 : Int32) (0 : Int32) v_rowOf (0 : Int32) hF _ _ hP hD hS _ (lv_sub hl [2, 1, 0] rfl)
def f_X4_remember_52 (v_w : (Nat → Int32)) (v_pastMany : Int32) : Nat → Int32 → (Nat → Int32) → Option ((Nat → Int32) × Int32)
  | 0, _, _ => none
  | n + 1, x1, v_past =>
    if (510 : Int32) ≤ x1 then
      some (v_past, (v_pastMany + (1 : Int32)))
    else
      if x1 < 0 ∨ 510 ≤ x1.toNatClampNeg then none else
      if (((510 : Int32) * v_pastMany) + x1) < 0 ∨ 4080 ≤ ((((510 : Int32) * v_pastMany) + x1)).toNatClampNeg then none else
      (some (upd v_past (((((510 : Int32) * v_pastMany) + x1)).toNatClampNeg) (v_w x1.toNatClampNeg))).bind fun a79 =>
      f_X4_remember_52 v_w v_pastMany n (x1 + 1) a79
def f_X4_remember_11 (v_w : (Nat → Int32)) (v_pastMany : Int32) : Nat → Int32 → (Nat → Int32) → Option ((Nat → Int32) × Int32)
  | 0, _, _ => none
  | n + 1, x1, v_past =>
    if (3570 : Int32) ≤ x1 then
      f_X4_remember_52 v_w (v_pastMany - (1 : Int32)) gas (0 : Int32) v_past
    else
      if (x1 + (510 : Int32)) < 0 ∨ 4080 ≤ ((x1 + (510 : Int32))).toNatClampNeg then none else
      if x1 < 0 ∨ 4080 ≤ x1.toNatClampNeg then none else
      (some (upd v_past x1.toNatClampNeg (v_past (((x1 + (510 : Int32))).toNatClampNeg)))).bind fun a33 =>
      f_X4_remember_11 v_w v_pastMany n (x1 + 1) a33
def f_X4_remember (v_w : (Nat → Int32)) (v_past : (Nat → Int32)) (v_pastMany : Int32) : Option ((Nat → Int32) × Int32) :=
  if v_pastMany = (8 : Int32) then
    f_X4_remember_11 v_w v_pastMany gas (0 : Int32) v_past
  else
    f_X4_remember_52 v_w v_pastMany gas (0 : Int32) v_past
def rm_X4_remember : Room := { frames := 0, cells := 0, slots := 0, locals := 0 }
set_option maxHeartbeats 4000000 in
set_option maxRecDepth 100000 in
theorem c_X4_remember (l : Launch) (dC : Nat → ClassId) (dI : Nat → Nat → Nat) (cI cZ cO : ClassId) (aM a_w a_past a_images a_text a_rowOf a_readLetter a_readCue a_readPassage a_held : Nat) (sz : Nat) (v_w : (Nat → Int32)) (v_past : (Nat → Int32)) (v_pastMany : Int32) (v_images : (Nat → Int32)) (v_filled : Int32) (v_text : (Nat → Int32)) (v_length : Int32) (v_faultKind : Int32) (v_faultPlace : Int32) (v_rowOf : (Nat → Int32)) (v_rows : Int32) (v_wrongKind : Int32) (v_wrongPlace : Int32) (v_readWords : Int32) (v_readPassages : Int32) (v_readLetter : (Nat → Int32)) (v_readCue : (Nat → Int32)) (v_readPassage : (Nat → Int32)) (v_held : (Nat → Int32)) (o_past : (Nat → Int32)) (o_pastMany : Int32) (hF : f_X4_remember v_w v_past v_pastMany = some (o_past, o_pastMany)) : Met l yX4_remember wsX4_remember rm_X4_remember (va_Pc [.ref aM] (wrW dC dI cI cZ cO sz [(aM, .inr (4, [.ref a_w, .ref a_past, .int v_pastMany, .ref a_images, .int v_filled, .ref a_text, .int v_length, .int v_faultKind, .int v_faultPlace, .ref a_rowOf, .int v_rows, .int v_wrongKind, .int v_wrongPlace, .int v_readWords, .int v_readPassages, .ref a_readLetter, .ref a_readCue, .ref a_readPassage, .ref a_held])), (a_w, .inl (cI, 510, .inl v_w)), (a_past, .inl (cI, 4080, .inl v_past)), (a_images, .inl (cI, 1020, .inl v_images)), (a_text, .inl (cI, 140, .inl v_text)), (a_rowOf, .inl (cI, 120, .inl v_rowOf)), (a_readLetter, .inl (cI, 120, .inl v_readLetter)), (a_readCue, .inl (cI, 120, .inl v_readCue)), (a_readPassage, .inl (cI, 120, .inl v_readPassage)), (a_held, .inl (cI, 510, .inl v_held))])) (va_Qv (fun (_ : Unit) => True) (wrE dC dI [(aM, .inr (4, [.ref a_w, .ref a_past, .int v_pastMany, .ref a_images, .int v_filled, .ref a_text, .int v_length, .int v_faultKind, .int v_faultPlace, .ref a_rowOf, .int v_rows, .int v_wrongKind, .int v_wrongPlace, .int v_readWords, .int v_readPassages, .ref a_readLetter, .ref a_readCue, .ref a_readPassage, .ref a_held])), (a_w, .inl (cI, 510, .inl v_w)), (a_past, .inl (cI, 4080, .inl v_past)), (a_images, .inl (cI, 1020, .inl v_images)), (a_text, .inl (cI, 140, .inl v_text)), (a_rowOf, .inl (cI, 120, .inl v_rowOf)), (a_readLetter, .inl (cI, 120, .inl v_readLetter)), (a_readCue, .inl (cI, 120, .inl v_readCue)), (a_readPassage, .inl (cI, 120, .inl v_readPassage)), (a_held, .inl (cI, 510, .inl v_held))] sz [(aM, .inr (4, [.ref a_w, .ref a_past, .int o_pastMany, .ref a_images, .int v_filled, .ref a_text, .int v_length, .int v_faultKind, .int v_faultPlace, .ref a_rowOf, .int v_rows, .int v_wrongKind, .int v_wrongPlace, .int v_readWords, .int v_readPassages, .ref a_readLetter, .ref a_readCue, .ref a_readPassage, .ref a_held])), (a_w, .inl (cI, 510, .inl v_w)), (a_past, .inl (cI, 4080, .inl o_past)), (a_images, .inl (cI, 1020, .inl v_images)), (a_text, .inl (cI, 140, .inl v_text)), (a_rowOf, .inl (cI, 120, .inl v_rowOf)), (a_readLetter, .inl (cI, 120, .inl v_readLetter)), (a_readCue, .inl (cI, 120, .inl v_readCue)), (a_readPassage, .inl (cI, 120, .inl v_readPassage)), (a_held, .inl (cI, 510, .inl v_held))]) (va_A [(aM, .inr (4, [.ref a_w, .ref a_past, .int v_pastMany, .ref a_images, .int v_filled, .ref a_text, .int v_length, .int v_faultKind, .int v_faultPlace, .ref a_rowOf, .int v_rows, .int v_wrongKind, .int v_wrongPlace, .int v_readWords, .int v_readPassages, .ref a_readLetter, .ref a_readCue, .ref a_readPassage, .ref a_held])), (a_w, .inl (cI, 510, .inl v_w)), (a_past, .inl (cI, 4080, .inl v_past)), (a_images, .inl (cI, 1020, .inl v_images)), (a_text, .inl (cI, 140, .inl v_text)), (a_rowOf, .inl (cI, 120, .inl v_rowOf)), (a_readLetter, .inl (cI, 120, .inl v_readLetter)), (a_readCue, .inl (cI, 120, .inl v_readCue)), (a_readPassage, .inl (cI, 120, .inl v_readPassage)), (a_held, .inl (cI, 510, .inl v_held))] sz)) 0 0 (va_A [(aM, .inr (4, [.ref a_w, .ref a_past, .int v_pastMany, .ref a_images, .int v_filled, .ref a_text, .int v_length, .int v_faultKind, .int v_faultPlace, .ref a_rowOf, .int v_rows, .int v_wrongKind, .int v_wrongPlace, .int v_readWords, .int v_readPassages, .ref a_readLetter, .ref a_readCue, .ref a_readPassage, .ref a_held])), (a_w, .inl (cI, 510, .inl v_w)), (a_past, .inl (cI, 4080, .inl v_past)), (a_images, .inl (cI, 1020, .inl v_images)), (a_text, .inl (cI, 140, .inl v_text)), (a_rowOf, .inl (cI, 120, .inl v_rowOf)), (a_readLetter, .inl (cI, 120, .inl v_readLetter)), (a_readCue, .inl (cI, 120, .inl v_readCue)), (a_readPassage, .inl (cI, 120, .inl v_readPassage)), (a_held, .inl (cI, 510, .inl v_held))] sz) := by
  refine Met.ofW (cc := cX4_remember) (maxL := 2) (ret := none) (by decide) rfl ?_
  intro p e s m args below meth c s₁ B hml hv
  obtain ⟨rfl, hsz, hP, hK, hN, hD0⟩ := hv
  have hx := B.exec
  have hb := B.bytes
  have hr := B.returns
  have hts := atoms_spec (ws := wsX4_remember) B.pre
  have hown : s.vm.findClass RX4 = some m.cls := findClass_of_methodNamed B.named
  have hlocks := B.notSynchronized
  subst hsz
  have hD := hD0.self (sz := s.heap.size)
  obtain ⟨Q, hQ⟩ : ∃ Q, Q = MQ below (va_Qv (fun (_ : Unit) => True) (wrE dC dI [(aM, .inr (4, [.ref a_w, .ref a_past, .int v_pastMany, .ref a_images, .int v_filled, .ref a_text, .int v_length, .int v_faultKind, .int v_faultPlace, .ref a_rowOf, .int v_rows, .int v_wrongKind, .int v_wrongPlace, .int v_readWords, .int v_readPassages, .ref a_readLetter, .ref a_readCue, .ref a_readPassage, .ref a_held])), (a_w, .inl (cI, 510, .inl v_w)), (a_past, .inl (cI, 4080, .inl v_past)), (a_images, .inl (cI, 1020, .inl v_images)), (a_text, .inl (cI, 140, .inl v_text)), (a_rowOf, .inl (cI, 120, .inl v_rowOf)), (a_readLetter, .inl (cI, 120, .inl v_readLetter)), (a_readCue, .inl (cI, 120, .inl v_readCue)), (a_readPassage, .inl (cI, 120, .inl v_readPassage)), (a_held, .inl (cI, 510, .inl v_held))] s.heap.size [(aM, .inr (4, [.ref a_w, .ref a_past, .int o_pastMany, .ref a_images, .int v_filled, .ref a_text, .int v_length, .int v_faultKind, .int v_faultPlace, .ref a_rowOf, .int v_rows, .int v_wrongKind, .int v_wrongPlace, .int v_readWords, .int v_readPassages, .ref a_readLetter, .ref a_readCue, .ref a_readPassage, .ref a_held])), (a_w, .inl (cI, 510, .inl v_w)), (a_past, .inl (cI, 4080, .inl o_past)), (a_images, .inl (cI, 1020, .inl v_images)), (a_text, .inl (cI, 140, .inl v_text)), (a_rowOf, .inl (cI, 120, .inl v_rowOf)), (a_readLetter, .inl (cI, 120, .inl v_readLetter)), (a_readCue, .inl (cI, 120, .inl v_readCue)), (a_readPassage, .inl (cI, 120, .inl v_readPassage)), (a_held, .inl (cI, 510, .inl v_held))]) (va_A [(aM, .inr (4, [.ref a_w, .ref a_past, .int v_pastMany, .ref a_images, .int v_filled, .ref a_text, .int v_length, .int v_faultKind, .int v_faultPlace, .ref a_rowOf, .int v_rows, .int v_wrongKind, .int v_wrongPlace, .int v_readWords, .int v_readPassages, .ref a_readLetter, .ref a_readCue, .ref a_readPassage, .ref a_held])), (a_w, .inl (cI, 510, .inl v_w)), (a_past, .inl (cI, 4080, .inl v_past)), (a_images, .inl (cI, 1020, .inl v_images)), (a_text, .inl (cI, 140, .inl v_text)), (a_rowOf, .inl (cI, 120, .inl v_rowOf)), (a_readLetter, .inl (cI, 120, .inl v_readLetter)), (a_readCue, .inl (cI, 120, .inl v_readCue)), (a_readPassage, .inl (cI, 120, .inl v_readPassage)), (a_held, .inl (cI, 510, .inl v_held))] s.heap.size)) ([.ref aM] : List Value).toArray s 0 0 (va_A [(aM, .inr (4, [.ref a_w, .ref a_past, .int v_pastMany, .ref a_images, .int v_filled, .ref a_text, .int v_length, .int v_faultKind, .int v_faultPlace, .ref a_rowOf, .int v_rows, .int v_wrongKind, .int v_wrongPlace, .int v_readWords, .int v_readPassages, .ref a_readLetter, .ref a_readCue, .ref a_readPassage, .ref a_held])), (a_w, .inl (cI, 510, .inl v_w)), (a_past, .inl (cI, 4080, .inl v_past)), (a_images, .inl (cI, 1020, .inl v_images)), (a_text, .inl (cI, 140, .inl v_text)), (a_rowOf, .inl (cI, 120, .inl v_rowOf)), (a_readLetter, .inl (cI, 120, .inl v_readLetter)), (a_readCue, .inl (cI, 120, .inl v_readCue)), (a_readPassage, .inl (cI, 120, .inl v_readPassage)), (a_held, .inl (cI, 510, .inl v_held))] s.heap.size) := ⟨_, rfl⟩
  rw [← hQ]
  obtain ⟨A, hAe⟩ : ∃ A, A = va_A [(aM, .inr (4, [.ref a_w, .ref a_past, .int v_pastMany, .ref a_images, .int v_filled, .ref a_text, .int v_length, .int v_faultKind, .int v_faultPlace, .ref a_rowOf, .int v_rows, .int v_wrongKind, .int v_wrongPlace, .int v_readWords, .int v_readPassages, .ref a_readLetter, .ref a_readCue, .ref a_readPassage, .ref a_held])), (a_w, .inl (cI, 510, .inl v_w)), (a_past, .inl (cI, 4080, .inl v_past)), (a_images, .inl (cI, 1020, .inl v_images)), (a_text, .inl (cI, 140, .inl v_text)), (a_rowOf, .inl (cI, 120, .inl v_rowOf)), (a_readLetter, .inl (cI, 120, .inl v_readLetter)), (a_readCue, .inl (cI, 120, .inl v_readCue)), (a_readPassage, .inl (cI, 120, .inl v_readPassage)), (a_held, .inl (cI, 510, .inl v_held))] s.heap.size := ⟨_, rfl⟩
  rw [← hAe] at hD
  have hA : ∀ q : Nat, s.heap.size ≤ q → A q := fun q h => by rw [hAe]; exact Or.inr h
  obtain ⟨H, hH⟩ : ∃ H, H = s.heap := ⟨_, rfl⟩
  have hS : va_S A s.heap H [] := by rw [hH]; exact va_S.rf
  rw [← hH] at hP
  rw [← hH]
  have fl47 := hts (.fieldLink RX4 47 "TeleprompterModel" "pastMany" "I") (by decide +kernel)
  have fl13 := hts (.fieldLink RX4 13 "TeleprompterModel" "past" "[I") (by decide +kernel)
  have fl7 := hts (.fieldLink RX4 7 "TeleprompterModel" "w" "[I") (by decide +kernel)
  have inX4 : ∀ w ∈ u_ws RX4 TX4 19, w ∈ wsX4_remember := by decide +kernel
  have hl := lv_entry ([.ref aM]) (n := 2) (Nat.le_of_ble_eq_true rfl)
  rw [lg_entry_eq]
  generalize (lg_sl ([.ref aM]) ++ List.replicate (2 - (lg_sl ([.ref aM])).length) Slot.unset).toArray = ls at hl ⊢
  have hl : lv_has ls 2 [(0, .ref aM)] := hl
  have B52 : ∀ (n_52 : Nat) (v_pastMany_52 : Int32) (x1_52 : Int32) (v_past_52 : (Nat → Int32)), f_X4_remember_52 v_w v_pastMany_52 n_52 x1_52 v_past_52 = some (o_past, o_pastMany) → ∀ (H : Heap) (locs : List Loc), va_P (dC, dI) vwCl [(aM, .inr (4, [.ref a_w, .ref a_past, .int v_pastMany_52, .ref a_images, .int v_filled, .ref a_text, .int v_length, .int v_faultKind, .int v_faultPlace, .ref a_rowOf, .int v_rows, .int v_wrongKind, .int v_wrongPlace, .int v_readWords, .int v_readPassages, .ref a_readLetter, .ref a_readCue, .ref a_readPassage, .ref a_held])), (a_w, .inl (cI, 510, .inl v_w)), (a_past, .inl (cI, 4080, .inl v_past_52)), (a_images, .inl (cI, 1020, .inl v_images)), (a_text, .inl (cI, 140, .inl v_text)), (a_rowOf, .inl (cI, 120, .inl v_rowOf)), (a_readLetter, .inl (cI, 120, .inl v_readLetter)), (a_readCue, .inl (cI, 120, .inl v_readCue)), (a_readPassage, .inl (cI, 120, .inl v_readPassage)), (a_held, .inl (cI, 510, .inl v_held))] H → va_D A [(aM, .inr (4, [.ref a_w, .ref a_past, .int v_pastMany_52, .ref a_images, .int v_filled, .ref a_text, .int v_length, .int v_faultKind, .int v_faultPlace, .ref a_rowOf, .int v_rows, .int v_wrongKind, .int v_wrongPlace, .int v_readWords, .int v_readPassages, .ref a_readLetter, .ref a_readCue, .ref a_readPassage, .ref a_held])), (a_w, .inl (cI, 510, .inl v_w)), (a_past, .inl (cI, 4080, .inl v_past_52)), (a_images, .inl (cI, 1020, .inl v_images)), (a_text, .inl (cI, 140, .inl v_text)), (a_rowOf, .inl (cI, 120, .inl v_rowOf)), (a_readLetter, .inl (cI, 120, .inl v_readLetter)), (a_readCue, .inl (cI, 120, .inl v_readCue)), (a_readPassage, .inl (cI, 120, .inl v_readPassage)), (a_held, .inl (cI, 510, .inl v_held))] → va_S A s.heap H locs → ∀ ls : Array Slot, lv_has ls 2 [(0, .ref aM), (1, .int x1_52)] → W p l e (headSpec wsX4_remember rm_X4_remember).room s m ([.ref aM] : List Value).toArray below meth c H locs 0 0 Q (F0 m 52 ls []) := by
    intro n_52
    induction n_52 with
    | zero => intro v_pastMany_52 x1_52 v_past_52 hF; exact noneE hF
    | succ n_52 ih52 =>
      intro v_pastMany_52 x1_52 v_past_52 hF H locs hP hD hS ls hl
      rw [f_X4_remember_52] at hF
      refine lv_iload_n hx hb dX4_remember_52 rfl (lv_at hl 1 rfl) ?_
      refine lv_sipush (v := (510 : Int32)) hx hb dX4_remember_53 (by decide) ?_
      refine lv_icmp_ge (tgt := 86) hx hb dX4_remember_56 (by decide) (fun c_56 => ?_) (fun c_56 => ?_)
      · have hF := (if_pos c_56).symm.trans hF
        refine lv_aload_n hx hb dX4_remember_86 rfl (lv_at hl 0 rfl) ?_
        refine lv_dup hx hb dX4_remember_87 rfl ?_
        refine va_get (D := (dC, dI)) (ci := 4) (v := .int v_pastMany_52) (C := RX4) (T := TX4) (N := 19) hx hb hts inX4 hown hK hP 0 rfl rfl 2 (by decide) fl47 (fun _ h9 => h9) rfl dX4_remember_88 ?_
        refine lv_iconst (v := (1 : Int32)) hx hb dX4_remember_91 (by decide) ?_
        refine lv_iadd hx hb dX4_remember_92 ?_
        refine va_put (D := (dC, dI)) (ci := 4) (v := .int (v_pastMany_52 + (1 : Int32))) (ty := .int) (C := RX4) (T := TX4) (N := 19) hx hb hts inX4 tyX4 tyX4_ok nmX4 hown hK hP hD hS 0 rfl rfl 2 (by decide) fl47 (fun _ h9 => h9) rfl (by decide +kernel) rfl rfl (Nat.le_of_ble_eq_true rfl) dX4_remember_93 (fun H locs hP hD hS => ?_)
        have hP : va_P (dC, dI) vwCl [(aM, .inr (4, [.ref a_w, .ref a_past, .int (v_pastMany_52 + (1 : Int32)), .ref a_images, .int v_filled, .ref a_text, .int v_length, .int v_faultKind, .int v_faultPlace, .ref a_rowOf, .int v_rows, .int v_wrongKind, .int v_wrongPlace, .int v_readWords, .int v_readPassages, .ref a_readLetter, .ref a_readCue, .ref a_readPassage, .ref a_held])), (a_w, .inl (cI, 510, .inl v_w)), (a_past, .inl (cI, 4080, .inl v_past_52)), (a_images, .inl (cI, 1020, .inl v_images)), (a_text, .inl (cI, 140, .inl v_text)), (a_rowOf, .inl (cI, 120, .inl v_rowOf)), (a_readLetter, .inl (cI, 120, .inl v_readLetter)), (a_readCue, .inl (cI, 120, .inl v_readCue)), (a_readPassage, .inl (cI, 120, .inl v_readPassage)), (a_held, .inl (cI, 510, .inl v_held))] H := hP
        have hD : va_D A [(aM, .inr (4, [.ref a_w, .ref a_past, .int (v_pastMany_52 + (1 : Int32)), .ref a_images, .int v_filled, .ref a_text, .int v_length, .int v_faultKind, .int v_faultPlace, .ref a_rowOf, .int v_rows, .int v_wrongKind, .int v_wrongPlace, .int v_readWords, .int v_readPassages, .ref a_readLetter, .ref a_readCue, .ref a_readPassage, .ref a_held])), (a_w, .inl (cI, 510, .inl v_w)), (a_past, .inl (cI, 4080, .inl v_past_52)), (a_images, .inl (cI, 1020, .inl v_images)), (a_text, .inl (cI, 140, .inl v_text)), (a_rowOf, .inl (cI, 120, .inl v_rowOf)), (a_readLetter, .inl (cI, 120, .inl v_readLetter)), (a_readCue, .inl (cI, 120, .inl v_readCue)), (a_readPassage, .inl (cI, 120, .inl v_readPassage)), (a_held, .inl (cI, 510, .inl v_held))] := hD
        have hF : some (v_past_52, (v_pastMany_52 + (1 : Int32))) = some (o_past, o_pastMany) := hF
        have hP9 := hP
        have hD9 := hD
        cases hF
        subst hQ
        subst hAe
        exact W.vret hx hb hr (fun t ht hW => ⟨⟨(), rfl, trivial, ⟨by rw [ht]; exact hP9, hD9⟩⟩, hS.F ht⟩) hS.2.2 dX4_remember_96
      · have hF := (if_neg c_56).symm.trans hF
        refine lv_aload_n hx hb dX4_remember_59 rfl (lv_at hl 0 rfl) ?_
        refine va_get (D := (dC, dI)) (ci := 4) (v := .ref a_past) (C := RX4) (T := TX4) (N := 19) hx hb hts inX4 hown hK hP 0 rfl rfl 1 (by decide) fl13 (fun _ h9 => h9) rfl dX4_remember_60 ?_
        refine lv_sipush (v := (510 : Int32)) hx hb dX4_remember_63 (by decide) ?_
        refine lv_aload_n hx hb dX4_remember_66 rfl (lv_at hl 0 rfl) ?_
        refine va_get (D := (dC, dI)) (ci := 4) (v := .int v_pastMany_52) (C := RX4) (T := TX4) (N := 19) hx hb hts inX4 hown hK hP 0 rfl rfl 2 (by decide) fl47 (fun _ h9 => h9) rfl dX4_remember_67 ?_
        refine lv_imul hx hb dX4_remember_70 ?_
        refine lv_iload_n hx hb dX4_remember_71 rfl (lv_at hl 1 rfl) ?_
        refine lv_iadd hx hb dX4_remember_72 ?_
        refine lv_aload_n hx hb dX4_remember_73 rfl (lv_at hl 0 rfl) ?_
        refine va_get (D := (dC, dI)) (ci := 4) (v := .ref a_w) (C := RX4) (T := TX4) (N := 19) hx hb hts inX4 hown hK hP 0 rfl rfl 0 (by decide) fl7 (fun _ h9 => h9) rfl dX4_remember_74 ?_
        refine lv_iload_n hx hb dX4_remember_77 rfl (lv_at hl 1 rfl) ?_
        by_cases b_78 : (x1_52 < 0 ∨ 510 ≤ x1_52.toNatClampNeg)
        · exact noneE ((if_pos b_78).symm.trans hF)
        have hF := (if_neg b_78).symm.trans hF
        refine va_iald hx hb hK hP 1 0 rfl rfl b_78 dX4_remember_78 ?_
        by_cases b_79 : ((((510 : Int32) * v_pastMany_52) + x1_52) < 0 ∨ 4080 ≤ ((((510 : Int32) * v_pastMany_52) + x1_52)).toNatClampNeg)
        · exact noneE ((if_pos b_79).symm.trans hF)
        have hF := (if_neg b_79).symm.trans hF
        refine va_iast hx hb hK hP hD hS 2 0 rfl rfl b_79 dX4_remember_79 (fun H locs hP hD hS => ?_)
        have hP : va_P (dC, dI) vwCl [(aM, .inr (4, [.ref a_w, .ref a_past, .int v_pastMany_52, .ref a_images, .int v_filled, .ref a_text, .int v_length, .int v_faultKind, .int v_faultPlace, .ref a_rowOf, .int v_rows, .int v_wrongKind, .int v_wrongPlace, .int v_readWords, .int v_readPassages, .ref a_readLetter, .ref a_readCue, .ref a_readPassage, .ref a_held])), (a_w, .inl (cI, 510, .inl v_w)), (a_past, .inl (cI, 4080, .inl (upd v_past_52 (((((510 : Int32) * v_pastMany_52) + x1_52)).toNatClampNeg) (v_w x1_52.toNatClampNeg)))), (a_images, .inl (cI, 1020, .inl v_images)), (a_text, .inl (cI, 140, .inl v_text)), (a_rowOf, .inl (cI, 120, .inl v_rowOf)), (a_readLetter, .inl (cI, 120, .inl v_readLetter)), (a_readCue, .inl (cI, 120, .inl v_readCue)), (a_readPassage, .inl (cI, 120, .inl v_readPassage)), (a_held, .inl (cI, 510, .inl v_held))] H := hP
        have hD : va_D A [(aM, .inr (4, [.ref a_w, .ref a_past, .int v_pastMany_52, .ref a_images, .int v_filled, .ref a_text, .int v_length, .int v_faultKind, .int v_faultPlace, .ref a_rowOf, .int v_rows, .int v_wrongKind, .int v_wrongPlace, .int v_readWords, .int v_readPassages, .ref a_readLetter, .ref a_readCue, .ref a_readPassage, .ref a_held])), (a_w, .inl (cI, 510, .inl v_w)), (a_past, .inl (cI, 4080, .inl (upd v_past_52 (((((510 : Int32) * v_pastMany_52) + x1_52)).toNatClampNeg) (v_w x1_52.toNatClampNeg)))), (a_images, .inl (cI, 1020, .inl v_images)), (a_text, .inl (cI, 140, .inl v_text)), (a_rowOf, .inl (cI, 120, .inl v_rowOf)), (a_readLetter, .inl (cI, 120, .inl v_readLetter)), (a_readCue, .inl (cI, 120, .inl v_readCue)), (a_readPassage, .inl (cI, 120, .inl v_readPassage)), (a_held, .inl (cI, 510, .inl v_held))] := hD
        obtain ⟨a_79, ha_79, hF⟩ := bindE hF
        have ha_79 := Option.some.inj ha_79
        rw [ha_79] at hP hD
        refine lv_iinc (v := (x1_52 + 1)) (lv' := [(1, .int (x1_52 + 1)), (0, .ref aM)]) hx hb dX4_remember_80 hl (k := 1) rfl rfl (by decide) rfl (fun ls hl => ?_)
        refine lv_goto (tgt := 52) hx hb dX4_remember_83 (by decide) ?_
        exact ih52 v_pastMany_52 (x1_52 + 1) a_79 hF _ _ hP hD hS _ (lv_sub hl [1, 0] rfl)
  have B11 : ∀ (n_11 : Nat) (v_pastMany_11 : Int32) (x1_11 : Int32) (v_past_11 : (Nat → Int32)), f_X4_remember_11 v_w v_pastMany_11 n_11 x1_11 v_past_11 = some (o_past, o_pastMany) → ∀ (H : Heap) (locs : List Loc), va_P (dC, dI) vwCl [(aM, .inr (4, [.ref a_w, .ref a_past, .int v_pastMany_11, .ref a_images, .int v_filled, .ref a_text, .int v_length, .int v_faultKind, .int v_faultPlace, .ref a_rowOf, .int v_rows, .int v_wrongKind, .int v_wrongPlace, .int v_readWords, .int v_readPassages, .ref a_readLetter, .ref a_readCue, .ref a_readPassage, .ref a_held])), (a_w, .inl (cI, 510, .inl v_w)), (a_past, .inl (cI, 4080, .inl v_past_11)), (a_images, .inl (cI, 1020, .inl v_images)), (a_text, .inl (cI, 140, .inl v_text)), (a_rowOf, .inl (cI, 120, .inl v_rowOf)), (a_readLetter, .inl (cI, 120, .inl v_readLetter)), (a_readCue, .inl (cI, 120, .inl v_readCue)), (a_readPassage, .inl (cI, 120, .inl v_readPassage)), (a_held, .inl (cI, 510, .inl v_held))] H → va_D A [(aM, .inr (4, [.ref a_w, .ref a_past, .int v_pastMany_11, .ref a_images, .int v_filled, .ref a_text, .int v_length, .int v_faultKind, .int v_faultPlace, .ref a_rowOf, .int v_rows, .int v_wrongKind, .int v_wrongPlace, .int v_readWords, .int v_readPassages, .ref a_readLetter, .ref a_readCue, .ref a_readPassage, .ref a_held])), (a_w, .inl (cI, 510, .inl v_w)), (a_past, .inl (cI, 4080, .inl v_past_11)), (a_images, .inl (cI, 1020, .inl v_images)), (a_text, .inl (cI, 140, .inl v_text)), (a_rowOf, .inl (cI, 120, .inl v_rowOf)), (a_readLetter, .inl (cI, 120, .inl v_readLetter)), (a_readCue, .inl (cI, 120, .inl v_readCue)), (a_readPassage, .inl (cI, 120, .inl v_readPassage)), (a_held, .inl (cI, 510, .inl v_held))] → va_S A s.heap H locs → ∀ ls : Array Slot, lv_has ls 2 [(0, .ref aM), (1, .int x1_11)] → W p l e (headSpec wsX4_remember rm_X4_remember).room s m ([.ref aM] : List Value).toArray below meth c H locs 0 0 Q (F0 m 11 ls []) := by
    intro n_11
    induction n_11 with
    | zero => intro v_pastMany_11 x1_11 v_past_11 hF; exact noneE hF
    | succ n_11 ih11 =>
      intro v_pastMany_11 x1_11 v_past_11 hF H locs hP hD hS ls hl
      rw [f_X4_remember_11] at hF
      refine lv_iload_n hx hb dX4_remember_11 rfl (lv_at hl 1 rfl) ?_
      refine lv_sipush (v := (3570 : Int32)) hx hb dX4_remember_12 (by decide) ?_
      refine lv_icmp_ge (tgt := 40) hx hb dX4_remember_15 (by decide) (fun c_15 => ?_) (fun c_15 => ?_)
      · have hF := (if_pos c_15).symm.trans hF
        refine lv_aload_n hx hb dX4_remember_40 rfl (lv_at hl 0 rfl) ?_
        refine lv_dup hx hb dX4_remember_41 rfl ?_
        refine va_get (D := (dC, dI)) (ci := 4) (v := .int v_pastMany_11) (C := RX4) (T := TX4) (N := 19) hx hb hts inX4 hown hK hP 0 rfl rfl 2 (by decide) fl47 (fun _ h9 => h9) rfl dX4_remember_42 ?_
        refine lv_iconst (v := (1 : Int32)) hx hb dX4_remember_45 (by decide) ?_
        refine lv_isub hx hb dX4_remember_46 ?_
        refine va_put (D := (dC, dI)) (ci := 4) (v := .int (v_pastMany_11 - (1 : Int32))) (ty := .int) (C := RX4) (T := TX4) (N := 19) hx hb hts inX4 tyX4 tyX4_ok nmX4 hown hK hP hD hS 0 rfl rfl 2 (by decide) fl47 (fun _ h9 => h9) rfl (by decide +kernel) rfl rfl (Nat.le_of_ble_eq_true rfl) dX4_remember_47 (fun H locs hP hD hS => ?_)
        have hP : va_P (dC, dI) vwCl [(aM, .inr (4, [.ref a_w, .ref a_past, .int (v_pastMany_11 - (1 : Int32)), .ref a_images, .int v_filled, .ref a_text, .int v_length, .int v_faultKind, .int v_faultPlace, .ref a_rowOf, .int v_rows, .int v_wrongKind, .int v_wrongPlace, .int v_readWords, .int v_readPassages, .ref a_readLetter, .ref a_readCue, .ref a_readPassage, .ref a_held])), (a_w, .inl (cI, 510, .inl v_w)), (a_past, .inl (cI, 4080, .inl v_past_11)), (a_images, .inl (cI, 1020, .inl v_images)), (a_text, .inl (cI, 140, .inl v_text)), (a_rowOf, .inl (cI, 120, .inl v_rowOf)), (a_readLetter, .inl (cI, 120, .inl v_readLetter)), (a_readCue, .inl (cI, 120, .inl v_readCue)), (a_readPassage, .inl (cI, 120, .inl v_readPassage)), (a_held, .inl (cI, 510, .inl v_held))] H := hP
        have hD : va_D A [(aM, .inr (4, [.ref a_w, .ref a_past, .int (v_pastMany_11 - (1 : Int32)), .ref a_images, .int v_filled, .ref a_text, .int v_length, .int v_faultKind, .int v_faultPlace, .ref a_rowOf, .int v_rows, .int v_wrongKind, .int v_wrongPlace, .int v_readWords, .int v_readPassages, .ref a_readLetter, .ref a_readCue, .ref a_readPassage, .ref a_held])), (a_w, .inl (cI, 510, .inl v_w)), (a_past, .inl (cI, 4080, .inl v_past_11)), (a_images, .inl (cI, 1020, .inl v_images)), (a_text, .inl (cI, 140, .inl v_text)), (a_rowOf, .inl (cI, 120, .inl v_rowOf)), (a_readLetter, .inl (cI, 120, .inl v_readLetter)), (a_readCue, .inl (cI, 120, .inl v_readCue)), (a_readPassage, .inl (cI, 120, .inl v_readPassage)), (a_held, .inl (cI, 510, .inl v_held))] := hD
        refine lv_iconst (v := (0 : Int32)) hx hb dX4_remember_50 (by decide) ?_
        refine lv_istore_n (lv' := [(1, .int (0 : Int32)), (0, .ref aM)]) hx hb dX4_remember_51 rfl hl (by decide) rfl (fun ls hl => ?_)
        exact B52 gas (v_pastMany_11 - (1 : Int32)) (0 : Int32) v_past_11 hF _ _ hP hD hS _ (lv_sub hl [1, 0] rfl)
      · have hF := (if_neg c_15).symm.trans hF
        refine lv_aload_n hx hb dX4_remember_18 rfl (lv_at hl 0 rfl) ?_
        refine va_get (D := (dC, dI)) (ci := 4) (v := .ref a_past) (C := RX4) (T := TX4) (N := 19) hx hb hts inX4 hown hK hP 0 rfl rfl 1 (by decide) fl13 (fun _ h9 => h9) rfl dX4_remember_19 ?_
        refine lv_iload_n hx hb dX4_remember_22 rfl (lv_at hl 1 rfl) ?_
        refine lv_aload_n hx hb dX4_remember_23 rfl (lv_at hl 0 rfl) ?_
        refine va_get (D := (dC, dI)) (ci := 4) (v := .ref a_past) (C := RX4) (T := TX4) (N := 19) hx hb hts inX4 hown hK hP 0 rfl rfl 1 (by decide) fl13 (fun _ h9 => h9) rfl dX4_remember_24 ?_
        refine lv_iload_n hx hb dX4_remember_27 rfl (lv_at hl 1 rfl) ?_
        refine lv_sipush (v := (510 : Int32)) hx hb dX4_remember_28 (by decide) ?_
        refine lv_iadd hx hb dX4_remember_31 ?_
        by_cases b_32 : ((x1_11 + (510 : Int32)) < 0 ∨ 4080 ≤ ((x1_11 + (510 : Int32))).toNatClampNeg)
        · exact noneE ((if_pos b_32).symm.trans hF)
        have hF := (if_neg b_32).symm.trans hF
        refine va_iald hx hb hK hP 2 0 rfl rfl b_32 dX4_remember_32 ?_
        by_cases b_33 : (x1_11 < 0 ∨ 4080 ≤ x1_11.toNatClampNeg)
        · exact noneE ((if_pos b_33).symm.trans hF)
        have hF := (if_neg b_33).symm.trans hF
        refine va_iast hx hb hK hP hD hS 2 0 rfl rfl b_33 dX4_remember_33 (fun H locs hP hD hS => ?_)
        have hP : va_P (dC, dI) vwCl [(aM, .inr (4, [.ref a_w, .ref a_past, .int v_pastMany_11, .ref a_images, .int v_filled, .ref a_text, .int v_length, .int v_faultKind, .int v_faultPlace, .ref a_rowOf, .int v_rows, .int v_wrongKind, .int v_wrongPlace, .int v_readWords, .int v_readPassages, .ref a_readLetter, .ref a_readCue, .ref a_readPassage, .ref a_held])), (a_w, .inl (cI, 510, .inl v_w)), (a_past, .inl (cI, 4080, .inl (upd v_past_11 x1_11.toNatClampNeg (v_past_11 (((x1_11 + (510 : Int32))).toNatClampNeg))))), (a_images, .inl (cI, 1020, .inl v_images)), (a_text, .inl (cI, 140, .inl v_text)), (a_rowOf, .inl (cI, 120, .inl v_rowOf)), (a_readLetter, .inl (cI, 120, .inl v_readLetter)), (a_readCue, .inl (cI, 120, .inl v_readCue)), (a_readPassage, .inl (cI, 120, .inl v_readPassage)), (a_held, .inl (cI, 510, .inl v_held))] H := hP
        have hD : va_D A [(aM, .inr (4, [.ref a_w, .ref a_past, .int v_pastMany_11, .ref a_images, .int v_filled, .ref a_text, .int v_length, .int v_faultKind, .int v_faultPlace, .ref a_rowOf, .int v_rows, .int v_wrongKind, .int v_wrongPlace, .int v_readWords, .int v_readPassages, .ref a_readLetter, .ref a_readCue, .ref a_readPassage, .ref a_held])), (a_w, .inl (cI, 510, .inl v_w)), (a_past, .inl (cI, 4080, .inl (upd v_past_11 x1_11.toNatClampNeg (v_past_11 (((x1_11 + (510 : Int32))).toNatClampNeg))))), (a_images, .inl (cI, 1020, .inl v_images)), (a_text, .inl (cI, 140, .inl v_text)), (a_rowOf, .inl (cI, 120, .inl v_rowOf)), (a_readLetter, .inl (cI, 120, .inl v_readLetter)), (a_readCue, .inl (cI, 120, .inl v_readCue)), (a_readPassage, .inl (cI, 120, .inl v_readPassage)), (a_held, .inl (cI, 510, .inl v_held))] := hD
        obtain ⟨a_33, ha_33, hF⟩ := bindE hF
        have ha_33 := Option.some.inj ha_33
        rw [ha_33] at hP hD
        refine lv_iinc (v := (x1_11 + 1)) (lv' := [(1, .int (x1_11 + 1)), (0, .ref aM)]) hx hb dX4_remember_34 hl (k := 1) rfl rfl (by decide) rfl (fun ls hl => ?_)
        refine lv_goto (tgt := 11) hx hb dX4_remember_37 (by decide) ?_
        exact ih11 v_pastMany_11 (x1_11 + 1) a_33 hF _ _ hP hD hS _ (lv_sub hl [1, 0] rfl)
  unfold f_X4_remember at hF
  refine lv_aload_n hx hb dX4_remember_0 rfl (lv_at hl 0 rfl) ?_
  refine va_get (D := (dC, dI)) (ci := 4) (v := .int v_pastMany) (C := RX4) (T := TX4) (N := 19) hx hb hts inX4 hown hK hP 0 rfl rfl 2 (by decide) fl47 (fun _ h9 => h9) rfl dX4_remember_1 ?_
  refine lv_bipush (v := (8 : Int32)) hx hb dX4_remember_4 (by decide) ?_
  refine lv_icmp_ne (tgt := 50) hx hb dX4_remember_6 (by decide) (fun c_6 => ?_) (fun c_6 => ?_)
  · have hF := (if_neg c_6).symm.trans hF
    refine lv_iconst (v := (0 : Int32)) hx hb dX4_remember_50 (by decide) ?_
    refine lv_istore_n (lv' := [(1, .int (0 : Int32)), (0, .ref aM)]) hx hb dX4_remember_51 rfl hl (by decide) rfl (fun ls hl => ?_)
    exact B52 gas v_pastMany (0 : Int32) v_past hF _ _ hP hD hS _ (lv_sub hl [1, 0] rfl)
  · have hF := (if_pos c_6).symm.trans hF
    refine lv_iconst (v := (0 : Int32)) hx hb dX4_remember_9 (by decide) ?_
    refine lv_istore_n (lv' := [(1, .int (0 : Int32)), (0, .ref aM)]) hx hb dX4_remember_10 rfl hl (by decide) rfl (fun ls hl => ?_)
    exact B11 gas v_pastMany (0 : Int32) v_past hF _ _ hP hD hS _ (lv_sub hl [1, 0] rfl)
def f_X4_keepWord_2 (x1 : Int32) : Nat → Int32 → (Nat → Int32) → Option (Nat → Int32)
  | 0, _, _ => none
  | n + 1, x2, v_w =>
    if x2 ≤ (0 : Int32) then
      (some (upd v_w 21 x1)).bind fun a39 =>
      if (4 : Int32) ≤ (a39 20) then
        (some (upd a39 20 ((a39 20) + (0 : Int32)))).bind fun a65 =>
        some a65
      else
        (some (upd a39 20 ((a39 20) + (1 : Int32)))).bind fun a65 =>
        some a65
    else
      if (((21 : Int32) + x2) - (1 : Int32)) < 0 ∨ 510 ≤ ((((21 : Int32) + x2) - (1 : Int32))).toNatClampNeg then none else
      if ((21 : Int32) + x2) < 0 ∨ 510 ≤ (((21 : Int32) + x2)).toNatClampNeg then none else
      (some (upd v_w ((((21 : Int32) + x2)).toNatClampNeg) (v_w (((((21 : Int32) + x2) - (1 : Int32))).toNatClampNeg)))).bind fun a25 =>
      f_X4_keepWord_2 x1 n (x2 + (-1)) a25
def f_X4_keepWord (p1 : Int32) (v_w : (Nat → Int32)) : Option (Nat → Int32) :=
  f_X4_keepWord_2 p1 gas (3 : Int32) v_w
def rm_X4_keepWord : Room := { frames := 0, cells := 0, slots := 0, locals := 0 }
set_option maxHeartbeats 4000000 in
set_option maxRecDepth 100000 in
theorem c_X4_keepWord (l : Launch) (dC : Nat → ClassId) (dI : Nat → Nat → Nat) (cI cZ cO : ClassId) (aM a_w a_past a_images a_text a_rowOf a_readLetter a_readCue a_readPassage a_held : Nat) (sz : Nat) (p1 : Int32) (v_w : (Nat → Int32)) (v_past : (Nat → Int32)) (v_pastMany : Int32) (v_images : (Nat → Int32)) (v_filled : Int32) (v_text : (Nat → Int32)) (v_length : Int32) (v_faultKind : Int32) (v_faultPlace : Int32) (v_rowOf : (Nat → Int32)) (v_rows : Int32) (v_wrongKind : Int32) (v_wrongPlace : Int32) (v_readWords : Int32) (v_readPassages : Int32) (v_readLetter : (Nat → Int32)) (v_readCue : (Nat → Int32)) (v_readPassage : (Nat → Int32)) (v_held : (Nat → Int32)) (o_w : (Nat → Int32)) (hF : f_X4_keepWord p1 v_w = some o_w) : Met l yX4_keepWord wsX4_keepWord rm_X4_keepWord (va_Pc [.ref aM, .int p1] (wrW dC dI cI cZ cO sz [(aM, .inr (4, [.ref a_w, .ref a_past, .int v_pastMany, .ref a_images, .int v_filled, .ref a_text, .int v_length, .int v_faultKind, .int v_faultPlace, .ref a_rowOf, .int v_rows, .int v_wrongKind, .int v_wrongPlace, .int v_readWords, .int v_readPassages, .ref a_readLetter, .ref a_readCue, .ref a_readPassage, .ref a_held])), (a_w, .inl (cI, 510, .inl v_w)), (a_past, .inl (cI, 4080, .inl v_past)), (a_images, .inl (cI, 1020, .inl v_images)), (a_text, .inl (cI, 140, .inl v_text)), (a_rowOf, .inl (cI, 120, .inl v_rowOf)), (a_readLetter, .inl (cI, 120, .inl v_readLetter)), (a_readCue, .inl (cI, 120, .inl v_readCue)), (a_readPassage, .inl (cI, 120, .inl v_readPassage)), (a_held, .inl (cI, 510, .inl v_held))])) (va_Qv (fun (_ : Unit) => True) (wrE dC dI [(aM, .inr (4, [.ref a_w, .ref a_past, .int v_pastMany, .ref a_images, .int v_filled, .ref a_text, .int v_length, .int v_faultKind, .int v_faultPlace, .ref a_rowOf, .int v_rows, .int v_wrongKind, .int v_wrongPlace, .int v_readWords, .int v_readPassages, .ref a_readLetter, .ref a_readCue, .ref a_readPassage, .ref a_held])), (a_w, .inl (cI, 510, .inl v_w)), (a_past, .inl (cI, 4080, .inl v_past)), (a_images, .inl (cI, 1020, .inl v_images)), (a_text, .inl (cI, 140, .inl v_text)), (a_rowOf, .inl (cI, 120, .inl v_rowOf)), (a_readLetter, .inl (cI, 120, .inl v_readLetter)), (a_readCue, .inl (cI, 120, .inl v_readCue)), (a_readPassage, .inl (cI, 120, .inl v_readPassage)), (a_held, .inl (cI, 510, .inl v_held))] sz [(aM, .inr (4, [.ref a_w, .ref a_past, .int v_pastMany, .ref a_images, .int v_filled, .ref a_text, .int v_length, .int v_faultKind, .int v_faultPlace, .ref a_rowOf, .int v_rows, .int v_wrongKind, .int v_wrongPlace, .int v_readWords, .int v_readPassages, .ref a_readLetter, .ref a_readCue, .ref a_readPassage, .ref a_held])), (a_w, .inl (cI, 510, .inl o_w)), (a_past, .inl (cI, 4080, .inl v_past)), (a_images, .inl (cI, 1020, .inl v_images)), (a_text, .inl (cI, 140, .inl v_text)), (a_rowOf, .inl (cI, 120, .inl v_rowOf)), (a_readLetter, .inl (cI, 120, .inl v_readLetter)), (a_readCue, .inl (cI, 120, .inl v_readCue)), (a_readPassage, .inl (cI, 120, .inl v_readPassage)), (a_held, .inl (cI, 510, .inl v_held))]) (va_A [(aM, .inr (4, [.ref a_w, .ref a_past, .int v_pastMany, .ref a_images, .int v_filled, .ref a_text, .int v_length, .int v_faultKind, .int v_faultPlace, .ref a_rowOf, .int v_rows, .int v_wrongKind, .int v_wrongPlace, .int v_readWords, .int v_readPassages, .ref a_readLetter, .ref a_readCue, .ref a_readPassage, .ref a_held])), (a_w, .inl (cI, 510, .inl v_w)), (a_past, .inl (cI, 4080, .inl v_past)), (a_images, .inl (cI, 1020, .inl v_images)), (a_text, .inl (cI, 140, .inl v_text)), (a_rowOf, .inl (cI, 120, .inl v_rowOf)), (a_readLetter, .inl (cI, 120, .inl v_readLetter)), (a_readCue, .inl (cI, 120, .inl v_readCue)), (a_readPassage, .inl (cI, 120, .inl v_readPassage)), (a_held, .inl (cI, 510, .inl v_held))] sz)) 0 0 (va_A [(aM, .inr (4, [.ref a_w, .ref a_past, .int v_pastMany, .ref a_images, .int v_filled, .ref a_text, .int v_length, .int v_faultKind, .int v_faultPlace, .ref a_rowOf, .int v_rows, .int v_wrongKind, .int v_wrongPlace, .int v_readWords, .int v_readPassages, .ref a_readLetter, .ref a_readCue, .ref a_readPassage, .ref a_held])), (a_w, .inl (cI, 510, .inl v_w)), (a_past, .inl (cI, 4080, .inl v_past)), (a_images, .inl (cI, 1020, .inl v_images)), (a_text, .inl (cI, 140, .inl v_text)), (a_rowOf, .inl (cI, 120, .inl v_rowOf)), (a_readLetter, .inl (cI, 120, .inl v_readLetter)), (a_readCue, .inl (cI, 120, .inl v_readCue)), (a_readPassage, .inl (cI, 120, .inl v_readPassage)), (a_held, .inl (cI, 510, .inl v_held))] sz) := by
  refine Met.ofW (cc := cX4_keepWord) (maxL := 3) (ret := none) (by decide) rfl ?_
  intro p e s m args below meth c s₁ B hml hv
  obtain ⟨rfl, hsz, hP, hK, hN, hD0⟩ := hv
  have hx := B.exec
  have hb := B.bytes
  have hr := B.returns
  have hts := atoms_spec (ws := wsX4_keepWord) B.pre
  have hown : s.vm.findClass RX4 = some m.cls := findClass_of_methodNamed B.named
  have hlocks := B.notSynchronized
  subst hsz
  have hD := hD0.self (sz := s.heap.size)
  obtain ⟨Q, hQ⟩ : ∃ Q, Q = MQ below (va_Qv (fun (_ : Unit) => True) (wrE dC dI [(aM, .inr (4, [.ref a_w, .ref a_past, .int v_pastMany, .ref a_images, .int v_filled, .ref a_text, .int v_length, .int v_faultKind, .int v_faultPlace, .ref a_rowOf, .int v_rows, .int v_wrongKind, .int v_wrongPlace, .int v_readWords, .int v_readPassages, .ref a_readLetter, .ref a_readCue, .ref a_readPassage, .ref a_held])), (a_w, .inl (cI, 510, .inl v_w)), (a_past, .inl (cI, 4080, .inl v_past)), (a_images, .inl (cI, 1020, .inl v_images)), (a_text, .inl (cI, 140, .inl v_text)), (a_rowOf, .inl (cI, 120, .inl v_rowOf)), (a_readLetter, .inl (cI, 120, .inl v_readLetter)), (a_readCue, .inl (cI, 120, .inl v_readCue)), (a_readPassage, .inl (cI, 120, .inl v_readPassage)), (a_held, .inl (cI, 510, .inl v_held))] s.heap.size [(aM, .inr (4, [.ref a_w, .ref a_past, .int v_pastMany, .ref a_images, .int v_filled, .ref a_text, .int v_length, .int v_faultKind, .int v_faultPlace, .ref a_rowOf, .int v_rows, .int v_wrongKind, .int v_wrongPlace, .int v_readWords, .int v_readPassages, .ref a_readLetter, .ref a_readCue, .ref a_readPassage, .ref a_held])), (a_w, .inl (cI, 510, .inl o_w)), (a_past, .inl (cI, 4080, .inl v_past)), (a_images, .inl (cI, 1020, .inl v_images)), (a_text, .inl (cI, 140, .inl v_text)), (a_rowOf, .inl (cI, 120, .inl v_rowOf)), (a_readLetter, .inl (cI, 120, .inl v_readLetter)), (a_readCue, .inl (cI, 120, .inl v_readCue)), (a_readPassage, .inl (cI, 120, .inl v_readPassage)), (a_held, .inl (cI, 510, .inl v_held))]) (va_A [(aM, .inr (4, [.ref a_w, .ref a_past, .int v_pastMany, .ref a_images, .int v_filled, .ref a_text, .int v_length, .int v_faultKind, .int v_faultPlace, .ref a_rowOf, .int v_rows, .int v_wrongKind, .int v_wrongPlace, .int v_readWords, .int v_readPassages, .ref a_readLetter, .ref a_readCue, .ref a_readPassage, .ref a_held])), (a_w, .inl (cI, 510, .inl v_w)), (a_past, .inl (cI, 4080, .inl v_past)), (a_images, .inl (cI, 1020, .inl v_images)), (a_text, .inl (cI, 140, .inl v_text)), (a_rowOf, .inl (cI, 120, .inl v_rowOf)), (a_readLetter, .inl (cI, 120, .inl v_readLetter)), (a_readCue, .inl (cI, 120, .inl v_readCue)), (a_readPassage, .inl (cI, 120, .inl v_readPassage)), (a_held, .inl (cI, 510, .inl v_held))] s.heap.size)) ([.ref aM, .int p1] : List Value).toArray s 0 0 (va_A [(aM, .inr (4, [.ref a_w, .ref a_past, .int v_pastMany, .ref a_images, .int v_filled, .ref a_text, .int v_length, .int v_faultKind, .int v_faultPlace, .ref a_rowOf, .int v_rows, .int v_wrongKind, .int v_wrongPlace, .int v_readWords, .int v_readPassages, .ref a_readLetter, .ref a_readCue, .ref a_readPassage, .ref a_held])), (a_w, .inl (cI, 510, .inl v_w)), (a_past, .inl (cI, 4080, .inl v_past)), (a_images, .inl (cI, 1020, .inl v_images)), (a_text, .inl (cI, 140, .inl v_text)), (a_rowOf, .inl (cI, 120, .inl v_rowOf)), (a_readLetter, .inl (cI, 120, .inl v_readLetter)), (a_readCue, .inl (cI, 120, .inl v_readCue)), (a_readPassage, .inl (cI, 120, .inl v_readPassage)), (a_held, .inl (cI, 510, .inl v_held))] s.heap.size) := ⟨_, rfl⟩
  rw [← hQ]
  obtain ⟨A, hAe⟩ : ∃ A, A = va_A [(aM, .inr (4, [.ref a_w, .ref a_past, .int v_pastMany, .ref a_images, .int v_filled, .ref a_text, .int v_length, .int v_faultKind, .int v_faultPlace, .ref a_rowOf, .int v_rows, .int v_wrongKind, .int v_wrongPlace, .int v_readWords, .int v_readPassages, .ref a_readLetter, .ref a_readCue, .ref a_readPassage, .ref a_held])), (a_w, .inl (cI, 510, .inl v_w)), (a_past, .inl (cI, 4080, .inl v_past)), (a_images, .inl (cI, 1020, .inl v_images)), (a_text, .inl (cI, 140, .inl v_text)), (a_rowOf, .inl (cI, 120, .inl v_rowOf)), (a_readLetter, .inl (cI, 120, .inl v_readLetter)), (a_readCue, .inl (cI, 120, .inl v_readCue)), (a_readPassage, .inl (cI, 120, .inl v_readPassage)), (a_held, .inl (cI, 510, .inl v_held))] s.heap.size := ⟨_, rfl⟩
  rw [← hAe] at hD
  have hA : ∀ q : Nat, s.heap.size ≤ q → A q := fun q h => by rw [hAe]; exact Or.inr h
  obtain ⟨H, hH⟩ : ∃ H, H = s.heap := ⟨_, rfl⟩
  have hS : va_S A s.heap H [] := by rw [hH]; exact va_S.rf
  rw [← hH] at hP
  rw [← hH]
  have fl7 := hts (.fieldLink RX4 7 "TeleprompterModel" "w" "[I") (by decide +kernel)
  have inX4 : ∀ w ∈ u_ws RX4 TX4 19, w ∈ wsX4_keepWord := by decide +kernel
  have hl := lv_entry ([.ref aM, .int p1]) (n := 3) (Nat.le_of_ble_eq_true rfl)
  rw [lg_entry_eq]
  generalize (lg_sl ([.ref aM, .int p1]) ++ List.replicate (3 - (lg_sl ([.ref aM, .int p1])).length) Slot.unset).toArray = ls at hl ⊢
  have hl : lv_has ls 3 [(0, .ref aM), (1, .int p1)] := hl
  have B2 : ∀ (n_2 : Nat) (x1_2 : Int32) (x2_2 : Int32) (v_w_2 : (Nat → Int32)), f_X4_keepWord_2 x1_2 n_2 x2_2 v_w_2 = some o_w → ∀ (H : Heap) (locs : List Loc), va_P (dC, dI) vwCl [(aM, .inr (4, [.ref a_w, .ref a_past, .int v_pastMany, .ref a_images, .int v_filled, .ref a_text, .int v_length, .int v_faultKind, .int v_faultPlace, .ref a_rowOf, .int v_rows, .int v_wrongKind, .int v_wrongPlace, .int v_readWords, .int v_readPassages, .ref a_readLetter, .ref a_readCue, .ref a_readPassage, .ref a_held])), (a_w, .inl (cI, 510, .inl v_w_2)), (a_past, .inl (cI, 4080, .inl v_past)), (a_images, .inl (cI, 1020, .inl v_images)), (a_text, .inl (cI, 140, .inl v_text)), (a_rowOf, .inl (cI, 120, .inl v_rowOf)), (a_readLetter, .inl (cI, 120, .inl v_readLetter)), (a_readCue, .inl (cI, 120, .inl v_readCue)), (a_readPassage, .inl (cI, 120, .inl v_readPassage)), (a_held, .inl (cI, 510, .inl v_held))] H → va_D A [(aM, .inr (4, [.ref a_w, .ref a_past, .int v_pastMany, .ref a_images, .int v_filled, .ref a_text, .int v_length, .int v_faultKind, .int v_faultPlace, .ref a_rowOf, .int v_rows, .int v_wrongKind, .int v_wrongPlace, .int v_readWords, .int v_readPassages, .ref a_readLetter, .ref a_readCue, .ref a_readPassage, .ref a_held])), (a_w, .inl (cI, 510, .inl v_w_2)), (a_past, .inl (cI, 4080, .inl v_past)), (a_images, .inl (cI, 1020, .inl v_images)), (a_text, .inl (cI, 140, .inl v_text)), (a_rowOf, .inl (cI, 120, .inl v_rowOf)), (a_readLetter, .inl (cI, 120, .inl v_readLetter)), (a_readCue, .inl (cI, 120, .inl v_readCue)), (a_readPassage, .inl (cI, 120, .inl v_readPassage)), (a_held, .inl (cI, 510, .inl v_held))] → va_S A s.heap H locs → ∀ ls : Array Slot, lv_has ls 3 [(0, .ref aM), (1, .int x1_2), (2, .int x2_2)] → W p l e (headSpec wsX4_keepWord rm_X4_keepWord).room s m ([.ref aM, .int p1] : List Value).toArray below meth c H locs 0 0 Q (F0 m 2 ls []) := by
    intro n_2
    induction n_2 with
    | zero => intro x1_2 x2_2 v_w_2 hF; exact noneE hF
    | succ n_2 ih2 =>
      intro x1_2 x2_2 v_w_2 hF H locs hP hD hS ls hl
      rw [f_X4_keepWord_2] at hF
      refine lv_iload_n hx hb dX4_keepWord_2 rfl (lv_at hl 2 rfl) ?_
      refine lv_if_le (tgt := 32) hx hb dX4_keepWord_3 (by decide) (fun c_3 => ?_) (fun c_3 => ?_)
      · have hF := (if_pos c_3).symm.trans hF
        refine lv_aload_n hx hb dX4_keepWord_32 rfl (lv_at hl 0 rfl) ?_
        refine va_get (D := (dC, dI)) (ci := 4) (v := .ref a_w) (C := RX4) (T := TX4) (N := 19) hx hb hts inX4 hown hK hP 0 rfl rfl 0 (by decide) fl7 (fun _ h9 => h9) rfl dX4_keepWord_33 ?_
        refine lv_bipush (v := (21 : Int32)) hx hb dX4_keepWord_36 (by decide) ?_
        refine lv_iload_n hx hb dX4_keepWord_38 rfl (lv_at hl 1 rfl) ?_
        refine va_iastK hx hb hK hP hD hS 1 0 rfl rfl (inK (by decide)) (j := 21) (by decide) dX4_keepWord_39 (fun H locs hP hD hS => ?_)
        have hP : va_P (dC, dI) vwCl [(aM, .inr (4, [.ref a_w, .ref a_past, .int v_pastMany, .ref a_images, .int v_filled, .ref a_text, .int v_length, .int v_faultKind, .int v_faultPlace, .ref a_rowOf, .int v_rows, .int v_wrongKind, .int v_wrongPlace, .int v_readWords, .int v_readPassages, .ref a_readLetter, .ref a_readCue, .ref a_readPassage, .ref a_held])), (a_w, .inl (cI, 510, .inl (upd v_w_2 21 x1_2))), (a_past, .inl (cI, 4080, .inl v_past)), (a_images, .inl (cI, 1020, .inl v_images)), (a_text, .inl (cI, 140, .inl v_text)), (a_rowOf, .inl (cI, 120, .inl v_rowOf)), (a_readLetter, .inl (cI, 120, .inl v_readLetter)), (a_readCue, .inl (cI, 120, .inl v_readCue)), (a_readPassage, .inl (cI, 120, .inl v_readPassage)), (a_held, .inl (cI, 510, .inl v_held))] H := hP
        have hD : va_D A [(aM, .inr (4, [.ref a_w, .ref a_past, .int v_pastMany, .ref a_images, .int v_filled, .ref a_text, .int v_length, .int v_faultKind, .int v_faultPlace, .ref a_rowOf, .int v_rows, .int v_wrongKind, .int v_wrongPlace, .int v_readWords, .int v_readPassages, .ref a_readLetter, .ref a_readCue, .ref a_readPassage, .ref a_held])), (a_w, .inl (cI, 510, .inl (upd v_w_2 21 x1_2))), (a_past, .inl (cI, 4080, .inl v_past)), (a_images, .inl (cI, 1020, .inl v_images)), (a_text, .inl (cI, 140, .inl v_text)), (a_rowOf, .inl (cI, 120, .inl v_rowOf)), (a_readLetter, .inl (cI, 120, .inl v_readLetter)), (a_readCue, .inl (cI, 120, .inl v_readCue)), (a_readPassage, .inl (cI, 120, .inl v_readPassage)), (a_held, .inl (cI, 510, .inl v_held))] := hD
        obtain ⟨a_39, ha_39, hF⟩ := bindE hF
        have ha_39 := Option.some.inj ha_39
        rw [ha_39] at hP hD
        refine lv_aload_n hx hb dX4_keepWord_40 rfl (lv_at hl 0 rfl) ?_
        refine va_get (D := (dC, dI)) (ci := 4) (v := .ref a_w) (C := RX4) (T := TX4) (N := 19) hx hb hts inX4 hown hK hP 0 rfl rfl 0 (by decide) fl7 (fun _ h9 => h9) rfl dX4_keepWord_41 ?_
        refine lv_bipush (v := (20 : Int32)) hx hb dX4_keepWord_44 (by decide) ?_
        refine lv_dup2_11 hx hb dX4_keepWord_46 rfl rfl ?_
        refine va_ialdK hx hb hK hP 1 0 rfl rfl (inK (by decide)) (j := 20) (by decide) dX4_keepWord_47 ?_
        refine lv_aload_n hx hb dX4_keepWord_48 rfl (lv_at hl 0 rfl) ?_
        refine va_get (D := (dC, dI)) (ci := 4) (v := .ref a_w) (C := RX4) (T := TX4) (N := 19) hx hb hts inX4 hown hK hP 0 rfl rfl 0 (by decide) fl7 (fun _ h9 => h9) rfl dX4_keepWord_49 ?_
        refine lv_bipush (v := (20 : Int32)) hx hb dX4_keepWord_52 (by decide) ?_
        refine va_ialdK hx hb hK hP 1 0 rfl rfl (inK (by decide)) (j := 20) (by decide) dX4_keepWord_54 ?_
        refine lv_iconst (v := (4 : Int32)) hx hb dX4_keepWord_55 (by decide) ?_
        refine lv_icmp_ge (tgt := 63) hx hb dX4_keepWord_56 (by decide) (fun c_56 => ?_) (fun c_56 => ?_)
        · have hF := (if_pos c_56).symm.trans hF
          refine lv_iconst (v := (0 : Int32)) hx hb dX4_keepWord_63 (by decide) ?_
          refine lv_iadd hx hb dX4_keepWord_64 ?_
          refine va_iastK hx hb hK hP hD hS 1 0 rfl rfl (inK (by decide)) (j := 20) (by decide) dX4_keepWord_65 (fun H locs hP hD hS => ?_)
          have hP : va_P (dC, dI) vwCl [(aM, .inr (4, [.ref a_w, .ref a_past, .int v_pastMany, .ref a_images, .int v_filled, .ref a_text, .int v_length, .int v_faultKind, .int v_faultPlace, .ref a_rowOf, .int v_rows, .int v_wrongKind, .int v_wrongPlace, .int v_readWords, .int v_readPassages, .ref a_readLetter, .ref a_readCue, .ref a_readPassage, .ref a_held])), (a_w, .inl (cI, 510, .inl (upd a_39 20 ((a_39 20) + (0 : Int32))))), (a_past, .inl (cI, 4080, .inl v_past)), (a_images, .inl (cI, 1020, .inl v_images)), (a_text, .inl (cI, 140, .inl v_text)), (a_rowOf, .inl (cI, 120, .inl v_rowOf)), (a_readLetter, .inl (cI, 120, .inl v_readLetter)), (a_readCue, .inl (cI, 120, .inl v_readCue)), (a_readPassage, .inl (cI, 120, .inl v_readPassage)), (a_held, .inl (cI, 510, .inl v_held))] H := hP
          have hD : va_D A [(aM, .inr (4, [.ref a_w, .ref a_past, .int v_pastMany, .ref a_images, .int v_filled, .ref a_text, .int v_length, .int v_faultKind, .int v_faultPlace, .ref a_rowOf, .int v_rows, .int v_wrongKind, .int v_wrongPlace, .int v_readWords, .int v_readPassages, .ref a_readLetter, .ref a_readCue, .ref a_readPassage, .ref a_held])), (a_w, .inl (cI, 510, .inl (upd a_39 20 ((a_39 20) + (0 : Int32))))), (a_past, .inl (cI, 4080, .inl v_past)), (a_images, .inl (cI, 1020, .inl v_images)), (a_text, .inl (cI, 140, .inl v_text)), (a_rowOf, .inl (cI, 120, .inl v_rowOf)), (a_readLetter, .inl (cI, 120, .inl v_readLetter)), (a_readCue, .inl (cI, 120, .inl v_readCue)), (a_readPassage, .inl (cI, 120, .inl v_readPassage)), (a_held, .inl (cI, 510, .inl v_held))] := hD
          obtain ⟨a_65, ha_65, hF⟩ := bindE hF
          have ha_65 := Option.some.inj ha_65
          rw [ha_65] at hP hD
          have hF : some a_65 = some o_w := hF
          have hP9 := hP
          have hD9 := hD
          cases hF
          subst hQ
          subst hAe
          exact W.vret hx hb hr (fun t ht hW => ⟨⟨(), rfl, trivial, ⟨by rw [ht]; exact hP9, hD9⟩⟩, hS.F ht⟩) hS.2.2 dX4_keepWord_66
        · have hF := (if_neg c_56).symm.trans hF
          refine lv_iconst (v := (1 : Int32)) hx hb dX4_keepWord_59 (by decide) ?_
          refine lv_goto (tgt := 64) hx hb dX4_keepWord_60 (by decide) ?_
          refine lv_iadd hx hb dX4_keepWord_64 ?_
          refine va_iastK hx hb hK hP hD hS 1 0 rfl rfl (inK (by decide)) (j := 20) (by decide) dX4_keepWord_65 (fun H locs hP hD hS => ?_)
          have hP : va_P (dC, dI) vwCl [(aM, .inr (4, [.ref a_w, .ref a_past, .int v_pastMany, .ref a_images, .int v_filled, .ref a_text, .int v_length, .int v_faultKind, .int v_faultPlace, .ref a_rowOf, .int v_rows, .int v_wrongKind, .int v_wrongPlace, .int v_readWords, .int v_readPassages, .ref a_readLetter, .ref a_readCue, .ref a_readPassage, .ref a_held])), (a_w, .inl (cI, 510, .inl (upd a_39 20 ((a_39 20) + (1 : Int32))))), (a_past, .inl (cI, 4080, .inl v_past)), (a_images, .inl (cI, 1020, .inl v_images)), (a_text, .inl (cI, 140, .inl v_text)), (a_rowOf, .inl (cI, 120, .inl v_rowOf)), (a_readLetter, .inl (cI, 120, .inl v_readLetter)), (a_readCue, .inl (cI, 120, .inl v_readCue)), (a_readPassage, .inl (cI, 120, .inl v_readPassage)), (a_held, .inl (cI, 510, .inl v_held))] H := hP
          have hD : va_D A [(aM, .inr (4, [.ref a_w, .ref a_past, .int v_pastMany, .ref a_images, .int v_filled, .ref a_text, .int v_length, .int v_faultKind, .int v_faultPlace, .ref a_rowOf, .int v_rows, .int v_wrongKind, .int v_wrongPlace, .int v_readWords, .int v_readPassages, .ref a_readLetter, .ref a_readCue, .ref a_readPassage, .ref a_held])), (a_w, .inl (cI, 510, .inl (upd a_39 20 ((a_39 20) + (1 : Int32))))), (a_past, .inl (cI, 4080, .inl v_past)), (a_images, .inl (cI, 1020, .inl v_images)), (a_text, .inl (cI, 140, .inl v_text)), (a_rowOf, .inl (cI, 120, .inl v_rowOf)), (a_readLetter, .inl (cI, 120, .inl v_readLetter)), (a_readCue, .inl (cI, 120, .inl v_readCue)), (a_readPassage, .inl (cI, 120, .inl v_readPassage)), (a_held, .inl (cI, 510, .inl v_held))] := hD
          obtain ⟨a_65, ha_65, hF⟩ := bindE hF
          have ha_65 := Option.some.inj ha_65
          rw [ha_65] at hP hD
          have hF : some a_65 = some o_w := hF
          have hP9 := hP
          have hD9 := hD
          cases hF
          subst hQ
          subst hAe
          exact W.vret hx hb hr (fun t ht hW => ⟨⟨(), rfl, trivial, ⟨by rw [ht]; exact hP9, hD9⟩⟩, hS.F ht⟩) hS.2.2 dX4_keepWord_66
      · have hF := (if_neg c_3).symm.trans hF
        refine lv_aload_n hx hb dX4_keepWord_6 rfl (lv_at hl 0 rfl) ?_
        refine va_get (D := (dC, dI)) (ci := 4) (v := .ref a_w) (C := RX4) (T := TX4) (N := 19) hx hb hts inX4 hown hK hP 0 rfl rfl 0 (by decide) fl7 (fun _ h9 => h9) rfl dX4_keepWord_7 ?_
        refine lv_bipush (v := (21 : Int32)) hx hb dX4_keepWord_10 (by decide) ?_
        refine lv_iload_n hx hb dX4_keepWord_12 rfl (lv_at hl 2 rfl) ?_
        refine lv_iadd hx hb dX4_keepWord_13 ?_
        refine lv_aload_n hx hb dX4_keepWord_14 rfl (lv_at hl 0 rfl) ?_
        refine va_get (D := (dC, dI)) (ci := 4) (v := .ref a_w) (C := RX4) (T := TX4) (N := 19) hx hb hts inX4 hown hK hP 0 rfl rfl 0 (by decide) fl7 (fun _ h9 => h9) rfl dX4_keepWord_15 ?_
        refine lv_bipush (v := (21 : Int32)) hx hb dX4_keepWord_18 (by decide) ?_
        refine lv_iload_n hx hb dX4_keepWord_20 rfl (lv_at hl 2 rfl) ?_
        refine lv_iadd hx hb dX4_keepWord_21 ?_
        refine lv_iconst (v := (1 : Int32)) hx hb dX4_keepWord_22 (by decide) ?_
        refine lv_isub hx hb dX4_keepWord_23 ?_
        by_cases b_24 : ((((21 : Int32) + x2_2) - (1 : Int32)) < 0 ∨ 510 ≤ ((((21 : Int32) + x2_2) - (1 : Int32))).toNatClampNeg)
        · exact noneE ((if_pos b_24).symm.trans hF)
        have hF := (if_neg b_24).symm.trans hF
        refine va_iald hx hb hK hP 1 0 rfl rfl b_24 dX4_keepWord_24 ?_
        by_cases b_25 : (((21 : Int32) + x2_2) < 0 ∨ 510 ≤ (((21 : Int32) + x2_2)).toNatClampNeg)
        · exact noneE ((if_pos b_25).symm.trans hF)
        have hF := (if_neg b_25).symm.trans hF
        refine va_iast hx hb hK hP hD hS 1 0 rfl rfl b_25 dX4_keepWord_25 (fun H locs hP hD hS => ?_)
        have hP : va_P (dC, dI) vwCl [(aM, .inr (4, [.ref a_w, .ref a_past, .int v_pastMany, .ref a_images, .int v_filled, .ref a_text, .int v_length, .int v_faultKind, .int v_faultPlace, .ref a_rowOf, .int v_rows, .int v_wrongKind, .int v_wrongPlace, .int v_readWords, .int v_readPassages, .ref a_readLetter, .ref a_readCue, .ref a_readPassage, .ref a_held])), (a_w, .inl (cI, 510, .inl (upd v_w_2 ((((21 : Int32) + x2_2)).toNatClampNeg) (v_w_2 (((((21 : Int32) + x2_2) - (1 : Int32))).toNatClampNeg))))), (a_past, .inl (cI, 4080, .inl v_past)), (a_images, .inl (cI, 1020, .inl v_images)), (a_text, .inl (cI, 140, .inl v_text)), (a_rowOf, .inl (cI, 120, .inl v_rowOf)), (a_readLetter, .inl (cI, 120, .inl v_readLetter)), (a_readCue, .inl (cI, 120, .inl v_readCue)), (a_readPassage, .inl (cI, 120, .inl v_readPassage)), (a_held, .inl (cI, 510, .inl v_held))] H := hP
        have hD : va_D A [(aM, .inr (4, [.ref a_w, .ref a_past, .int v_pastMany, .ref a_images, .int v_filled, .ref a_text, .int v_length, .int v_faultKind, .int v_faultPlace, .ref a_rowOf, .int v_rows, .int v_wrongKind, .int v_wrongPlace, .int v_readWords, .int v_readPassages, .ref a_readLetter, .ref a_readCue, .ref a_readPassage, .ref a_held])), (a_w, .inl (cI, 510, .inl (upd v_w_2 ((((21 : Int32) + x2_2)).toNatClampNeg) (v_w_2 (((((21 : Int32) + x2_2) - (1 : Int32))).toNatClampNeg))))), (a_past, .inl (cI, 4080, .inl v_past)), (a_images, .inl (cI, 1020, .inl v_images)), (a_text, .inl (cI, 140, .inl v_text)), (a_rowOf, .inl (cI, 120, .inl v_rowOf)), (a_readLetter, .inl (cI, 120, .inl v_readLetter)), (a_readCue, .inl (cI, 120, .inl v_readCue)), (a_readPassage, .inl (cI, 120, .inl v_readPassage)), (a_held, .inl (cI, 510, .inl v_held))] := hD
        obtain ⟨a_25, ha_25, hF⟩ := bindE hF
        have ha_25 := Option.some.inj ha_25
        rw [ha_25] at hP hD
        refine lv_iinc (v := (x2_2 + (-1))) (lv' := [(2, .int (x2_2 + (-1))), (0, .ref aM), (1, .int x1_2)]) hx hb dX4_keepWord_26 hl (k := 2) rfl rfl (by decide) rfl (fun ls hl => ?_)
        refine lv_goto (tgt := 2) hx hb dX4_keepWord_29 (by decide) ?_
        exact ih2 x1_2 (x2_2 + (-1)) a_25 hF _ _ hP hD hS _ (lv_sub hl [1, 2, 0] rfl)
  unfold f_X4_keepWord at hF
  refine lv_iconst (v := (3 : Int32)) hx hb dX4_keepWord_0 (by decide) ?_
  refine lv_istore_n (lv' := [(2, .int (3 : Int32)), (0, .ref aM), (1, .int p1)]) hx hb dX4_keepWord_1 rfl hl (by decide) rfl (fun ls hl => ?_)
  exact B2 gas p1 (3 : Int32) v_w hF _ _ hP hD hS _ (lv_sub hl [1, 2, 0] rfl)
def f_X4_leaveTrail_144 (k116 : (Nat → Int32) → Option (Nat → Int32)) : Nat → Int32 → (Nat → Int32) → Option (Nat → Int32)
  | 0, _, _ => none
  | n + 1, x2, v_w =>
    if (((26 : Int32) + ((2 : Int32) * (v_w 25))) - (2 : Int32)) ≤ x2 then
      (some (upd v_w 25 ((v_w 25) - (1 : Int32)))).bind fun a192 =>
      k116 a192
    else
      if (x2 + (2 : Int32)) < 0 ∨ 510 ≤ ((x2 + (2 : Int32))).toNatClampNeg then none else
      if x2 < 0 ∨ 510 ≤ x2.toNatClampNeg then none else
      (some (upd v_w x2.toNatClampNeg (v_w (((x2 + (2 : Int32))).toNatClampNeg)))).bind fun a175 =>
      f_X4_leaveTrail_144 k116 n (x2 + 1) a175
def f_X4_leaveTrail_116  : Nat → (Nat → Int32) → Option (Nat → Int32)
  | 0, _ => none
  | n + 1, v_w =>
    if ((v_w 10) - (v_w 6)) ≤ (v_w 26) then
      if (v_w 25) ≤ (1 : Int32) then
        some v_w
      else
        if ((((26 : Int32) + ((2 : Int32) * (v_w 25))) - (2 : Int32)) + (1 : Int32)) < 0 ∨ 510 ≤ (((((26 : Int32) + ((2 : Int32) * (v_w 25))) - (2 : Int32)) + (1 : Int32))).toNatClampNeg then none else
        if (((26 : Int32) + ((2 : Int32) * (v_w 25))) - (2 : Int32)) < 0 ∨ 510 ≤ ((((26 : Int32) + ((2 : Int32) * (v_w 25))) - (2 : Int32))).toNatClampNeg then none else
        if ((v_w (((((26 : Int32) + ((2 : Int32) * (v_w 25))) - (2 : Int32))).toNatClampNeg)) - (v_w 26)) = (0 : Int32) then none else
        (some (upd v_w 12 (((100 : Int32) * ((v_w ((((((26 : Int32) + ((2 : Int32) * (v_w 25))) - (2 : Int32)) + (1 : Int32))).toNatClampNeg)) - (v_w 27))) / ((v_w (((((26 : Int32) + ((2 : Int32) * (v_w 25))) - (2 : Int32))).toNatClampNeg)) - (v_w 26))))).bind fun a262 =>
        some a262
    else
      f_X4_leaveTrail_144 (f_X4_leaveTrail_116 n) gas (26 : Int32) v_w
def f_X4_leaveTrail_62 (s1 : Int32) (s2 : Int32) (s3 : Int32) (v_w : (Nat → Int32)) : Option (Nat → Int32) :=
  if s1 < 0 ∨ 510 ≤ s1.toNatClampNeg then none else
    (some (upd v_w s1.toNatClampNeg (s2 + s3))).bind fun a63 =>
    if (((26 : Int32) + ((2 : Int32) * (a63 25))) - (2 : Int32)) < 0 ∨ 510 ≤ ((((26 : Int32) + ((2 : Int32) * (a63 25))) - (2 : Int32))).toNatClampNeg then none else
    (some (upd a63 (((((26 : Int32) + ((2 : Int32) * (a63 25))) - (2 : Int32))).toNatClampNeg) (a63 10))).bind fun a89 =>
    if (((26 : Int32) + ((2 : Int32) * (a89 25))) - (1 : Int32)) < 0 ∨ 510 ≤ ((((26 : Int32) + ((2 : Int32) * (a89 25))) - (1 : Int32))).toNatClampNeg then none else
    (some (upd a89 (((((26 : Int32) + ((2 : Int32) * (a89 25))) - (1 : Int32))).toNatClampNeg) (a89 11))).bind fun a115 =>
    f_X4_leaveTrail_116 gas a115
def f_X4_leaveTrail_44 (s0 : Int32) (v_w : (Nat → Int32)) : Option (Nat → Int32) :=
  if s0 = (0 : Int32) then
      f_X4_leaveTrail_62 (25 : Int32) (v_w 25) (1 : Int32) v_w
    else
      f_X4_leaveTrail_62 (25 : Int32) (v_w 25) (0 : Int32) v_w
def f_X4_leaveTrail_43 (v_w : (Nat → Int32)) : Option (Nat → Int32) :=
  f_X4_leaveTrail_44 (0 : Int32) v_w
def f_X4_leaveTrail (v_w : (Nat → Int32)) : Option (Nat → Int32) :=
  if (v_w 25) ≤ (0 : Int32) then
    f_X4_leaveTrail_43 v_w
  else
    if (((26 : Int32) + ((2 : Int32) * (v_w 25))) - (2 : Int32)) < 0 ∨ 510 ≤ ((((26 : Int32) + ((2 : Int32) * (v_w 25))) - (2 : Int32))).toNatClampNeg then none else
    if (v_w (((((26 : Int32) + ((2 : Int32) * (v_w 25))) - (2 : Int32))).toNatClampNeg)) = (v_w 10) then
      f_X4_leaveTrail_44 (1 : Int32) v_w
    else
      f_X4_leaveTrail_43 v_w
def rm_X4_leaveTrail : Room := { frames := 0, cells := 0, slots := 0, locals := 0 }
set_option maxHeartbeats 4000000 in
set_option maxRecDepth 100000 in
theorem c_X4_leaveTrail (l : Launch) (dC : Nat → ClassId) (dI : Nat → Nat → Nat) (cI cZ cO : ClassId) (aM a_w a_past a_images a_text a_rowOf a_readLetter a_readCue a_readPassage a_held : Nat) (sz : Nat) (v_w : (Nat → Int32)) (v_past : (Nat → Int32)) (v_pastMany : Int32) (v_images : (Nat → Int32)) (v_filled : Int32) (v_text : (Nat → Int32)) (v_length : Int32) (v_faultKind : Int32) (v_faultPlace : Int32) (v_rowOf : (Nat → Int32)) (v_rows : Int32) (v_wrongKind : Int32) (v_wrongPlace : Int32) (v_readWords : Int32) (v_readPassages : Int32) (v_readLetter : (Nat → Int32)) (v_readCue : (Nat → Int32)) (v_readPassage : (Nat → Int32)) (v_held : (Nat → Int32)) (o_w : (Nat → Int32)) (hF : f_X4_leaveTrail v_w = some o_w) : Met l yX4_leaveTrail wsX4_leaveTrail rm_X4_leaveTrail (va_Pc [.ref aM] (wrW dC dI cI cZ cO sz [(aM, .inr (4, [.ref a_w, .ref a_past, .int v_pastMany, .ref a_images, .int v_filled, .ref a_text, .int v_length, .int v_faultKind, .int v_faultPlace, .ref a_rowOf, .int v_rows, .int v_wrongKind, .int v_wrongPlace, .int v_readWords, .int v_readPassages, .ref a_readLetter, .ref a_readCue, .ref a_readPassage, .ref a_held])), (a_w, .inl (cI, 510, .inl v_w)), (a_past, .inl (cI, 4080, .inl v_past)), (a_images, .inl (cI, 1020, .inl v_images)), (a_text, .inl (cI, 140, .inl v_text)), (a_rowOf, .inl (cI, 120, .inl v_rowOf)), (a_readLetter, .inl (cI, 120, .inl v_readLetter)), (a_readCue, .inl (cI, 120, .inl v_readCue)), (a_readPassage, .inl (cI, 120, .inl v_readPassage)), (a_held, .inl (cI, 510, .inl v_held))])) (va_Qv (fun (_ : Unit) => True) (wrE dC dI [(aM, .inr (4, [.ref a_w, .ref a_past, .int v_pastMany, .ref a_images, .int v_filled, .ref a_text, .int v_length, .int v_faultKind, .int v_faultPlace, .ref a_rowOf, .int v_rows, .int v_wrongKind, .int v_wrongPlace, .int v_readWords, .int v_readPassages, .ref a_readLetter, .ref a_readCue, .ref a_readPassage, .ref a_held])), (a_w, .inl (cI, 510, .inl v_w)), (a_past, .inl (cI, 4080, .inl v_past)), (a_images, .inl (cI, 1020, .inl v_images)), (a_text, .inl (cI, 140, .inl v_text)), (a_rowOf, .inl (cI, 120, .inl v_rowOf)), (a_readLetter, .inl (cI, 120, .inl v_readLetter)), (a_readCue, .inl (cI, 120, .inl v_readCue)), (a_readPassage, .inl (cI, 120, .inl v_readPassage)), (a_held, .inl (cI, 510, .inl v_held))] sz [(aM, .inr (4, [.ref a_w, .ref a_past, .int v_pastMany, .ref a_images, .int v_filled, .ref a_text, .int v_length, .int v_faultKind, .int v_faultPlace, .ref a_rowOf, .int v_rows, .int v_wrongKind, .int v_wrongPlace, .int v_readWords, .int v_readPassages, .ref a_readLetter, .ref a_readCue, .ref a_readPassage, .ref a_held])), (a_w, .inl (cI, 510, .inl o_w)), (a_past, .inl (cI, 4080, .inl v_past)), (a_images, .inl (cI, 1020, .inl v_images)), (a_text, .inl (cI, 140, .inl v_text)), (a_rowOf, .inl (cI, 120, .inl v_rowOf)), (a_readLetter, .inl (cI, 120, .inl v_readLetter)), (a_readCue, .inl (cI, 120, .inl v_readCue)), (a_readPassage, .inl (cI, 120, .inl v_readPassage)), (a_held, .inl (cI, 510, .inl v_held))]) (va_A [(aM, .inr (4, [.ref a_w, .ref a_past, .int v_pastMany, .ref a_images, .int v_filled, .ref a_text, .int v_length, .int v_faultKind, .int v_faultPlace, .ref a_rowOf, .int v_rows, .int v_wrongKind, .int v_wrongPlace, .int v_readWords, .int v_readPassages, .ref a_readLetter, .ref a_readCue, .ref a_readPassage, .ref a_held])), (a_w, .inl (cI, 510, .inl v_w)), (a_past, .inl (cI, 4080, .inl v_past)), (a_images, .inl (cI, 1020, .inl v_images)), (a_text, .inl (cI, 140, .inl v_text)), (a_rowOf, .inl (cI, 120, .inl v_rowOf)), (a_readLetter, .inl (cI, 120, .inl v_readLetter)), (a_readCue, .inl (cI, 120, .inl v_readCue)), (a_readPassage, .inl (cI, 120, .inl v_readPassage)), (a_held, .inl (cI, 510, .inl v_held))] sz)) 0 0 (va_A [(aM, .inr (4, [.ref a_w, .ref a_past, .int v_pastMany, .ref a_images, .int v_filled, .ref a_text, .int v_length, .int v_faultKind, .int v_faultPlace, .ref a_rowOf, .int v_rows, .int v_wrongKind, .int v_wrongPlace, .int v_readWords, .int v_readPassages, .ref a_readLetter, .ref a_readCue, .ref a_readPassage, .ref a_held])), (a_w, .inl (cI, 510, .inl v_w)), (a_past, .inl (cI, 4080, .inl v_past)), (a_images, .inl (cI, 1020, .inl v_images)), (a_text, .inl (cI, 140, .inl v_text)), (a_rowOf, .inl (cI, 120, .inl v_rowOf)), (a_readLetter, .inl (cI, 120, .inl v_readLetter)), (a_readCue, .inl (cI, 120, .inl v_readCue)), (a_readPassage, .inl (cI, 120, .inl v_readPassage)), (a_held, .inl (cI, 510, .inl v_held))] sz) := by
  refine Met.ofW (cc := cX4_leaveTrail) (maxL := 3) (ret := none) (by decide) rfl ?_
  intro p e s m args below meth c s₁ B hml hv
  obtain ⟨rfl, hsz, hP, hK, hN, hD0⟩ := hv
  have hx := B.exec
  have hb := B.bytes
  have hr := B.returns
  have hts := atoms_spec (ws := wsX4_leaveTrail) B.pre
  have hown : s.vm.findClass RX4 = some m.cls := findClass_of_methodNamed B.named
  have hlocks := B.notSynchronized
  subst hsz
  have hD := hD0.self (sz := s.heap.size)
  obtain ⟨Q, hQ⟩ : ∃ Q, Q = MQ below (va_Qv (fun (_ : Unit) => True) (wrE dC dI [(aM, .inr (4, [.ref a_w, .ref a_past, .int v_pastMany, .ref a_images, .int v_filled, .ref a_text, .int v_length, .int v_faultKind, .int v_faultPlace, .ref a_rowOf, .int v_rows, .int v_wrongKind, .int v_wrongPlace, .int v_readWords, .int v_readPassages, .ref a_readLetter, .ref a_readCue, .ref a_readPassage, .ref a_held])), (a_w, .inl (cI, 510, .inl v_w)), (a_past, .inl (cI, 4080, .inl v_past)), (a_images, .inl (cI, 1020, .inl v_images)), (a_text, .inl (cI, 140, .inl v_text)), (a_rowOf, .inl (cI, 120, .inl v_rowOf)), (a_readLetter, .inl (cI, 120, .inl v_readLetter)), (a_readCue, .inl (cI, 120, .inl v_readCue)), (a_readPassage, .inl (cI, 120, .inl v_readPassage)), (a_held, .inl (cI, 510, .inl v_held))] s.heap.size [(aM, .inr (4, [.ref a_w, .ref a_past, .int v_pastMany, .ref a_images, .int v_filled, .ref a_text, .int v_length, .int v_faultKind, .int v_faultPlace, .ref a_rowOf, .int v_rows, .int v_wrongKind, .int v_wrongPlace, .int v_readWords, .int v_readPassages, .ref a_readLetter, .ref a_readCue, .ref a_readPassage, .ref a_held])), (a_w, .inl (cI, 510, .inl o_w)), (a_past, .inl (cI, 4080, .inl v_past)), (a_images, .inl (cI, 1020, .inl v_images)), (a_text, .inl (cI, 140, .inl v_text)), (a_rowOf, .inl (cI, 120, .inl v_rowOf)), (a_readLetter, .inl (cI, 120, .inl v_readLetter)), (a_readCue, .inl (cI, 120, .inl v_readCue)), (a_readPassage, .inl (cI, 120, .inl v_readPassage)), (a_held, .inl (cI, 510, .inl v_held))]) (va_A [(aM, .inr (4, [.ref a_w, .ref a_past, .int v_pastMany, .ref a_images, .int v_filled, .ref a_text, .int v_length, .int v_faultKind, .int v_faultPlace, .ref a_rowOf, .int v_rows, .int v_wrongKind, .int v_wrongPlace, .int v_readWords, .int v_readPassages, .ref a_readLetter, .ref a_readCue, .ref a_readPassage, .ref a_held])), (a_w, .inl (cI, 510, .inl v_w)), (a_past, .inl (cI, 4080, .inl v_past)), (a_images, .inl (cI, 1020, .inl v_images)), (a_text, .inl (cI, 140, .inl v_text)), (a_rowOf, .inl (cI, 120, .inl v_rowOf)), (a_readLetter, .inl (cI, 120, .inl v_readLetter)), (a_readCue, .inl (cI, 120, .inl v_readCue)), (a_readPassage, .inl (cI, 120, .inl v_readPassage)), (a_held, .inl (cI, 510, .inl v_held))] s.heap.size)) ([.ref aM] : List Value).toArray s 0 0 (va_A [(aM, .inr (4, [.ref a_w, .ref a_past, .int v_pastMany, .ref a_images, .int v_filled, .ref a_text, .int v_length, .int v_faultKind, .int v_faultPlace, .ref a_rowOf, .int v_rows, .int v_wrongKind, .int v_wrongPlace, .int v_readWords, .int v_readPassages, .ref a_readLetter, .ref a_readCue, .ref a_readPassage, .ref a_held])), (a_w, .inl (cI, 510, .inl v_w)), (a_past, .inl (cI, 4080, .inl v_past)), (a_images, .inl (cI, 1020, .inl v_images)), (a_text, .inl (cI, 140, .inl v_text)), (a_rowOf, .inl (cI, 120, .inl v_rowOf)), (a_readLetter, .inl (cI, 120, .inl v_readLetter)), (a_readCue, .inl (cI, 120, .inl v_readCue)), (a_readPassage, .inl (cI, 120, .inl v_readPassage)), (a_held, .inl (cI, 510, .inl v_held))] s.heap.size) := ⟨_, rfl⟩
  rw [← hQ]
  obtain ⟨A, hAe⟩ : ∃ A, A = va_A [(aM, .inr (4, [.ref a_w, .ref a_past, .int v_pastMany, .ref a_images, .int v_filled, .ref a_text, .int v_length, .int v_faultKind, .int v_faultPlace, .ref a_rowOf, .int v_rows, .int v_wrongKind, .int v_wrongPlace, .int v_readWords, .int v_readPassages, .ref a_readLetter, .ref a_readCue, .ref a_readPassage, .ref a_held])), (a_w, .inl (cI, 510, .inl v_w)), (a_past, .inl (cI, 4080, .inl v_past)), (a_images, .inl (cI, 1020, .inl v_images)), (a_text, .inl (cI, 140, .inl v_text)), (a_rowOf, .inl (cI, 120, .inl v_rowOf)), (a_readLetter, .inl (cI, 120, .inl v_readLetter)), (a_readCue, .inl (cI, 120, .inl v_readCue)), (a_readPassage, .inl (cI, 120, .inl v_readPassage)), (a_held, .inl (cI, 510, .inl v_held))] s.heap.size := ⟨_, rfl⟩
  rw [← hAe] at hD
  have hA : ∀ q : Nat, s.heap.size ≤ q → A q := fun q h => by rw [hAe]; exact Or.inr h
  obtain ⟨H, hH⟩ : ∃ H, H = s.heap := ⟨_, rfl⟩
  have hS : va_S A s.heap H [] := by rw [hH]; exact va_S.rf
  rw [← hH] at hP
  rw [← hH]
  have fl7 := hts (.fieldLink RX4 7 "TeleprompterModel" "w" "[I") (by decide +kernel)
  have inX4 : ∀ w ∈ u_ws RX4 TX4 19, w ∈ wsX4_leaveTrail := by decide +kernel
  have hl := lv_entry ([.ref aM]) (n := 3) (Nat.le_of_ble_eq_true rfl)
  rw [lg_entry_eq]
  generalize (lg_sl ([.ref aM]) ++ List.replicate (3 - (lg_sl ([.ref aM])).length) Slot.unset).toArray = ls at hl ⊢
  have hl : lv_has ls 3 [(0, .ref aM)] := hl
  have B116 : ∀ (n_116 : Nat) (v_w_116 : (Nat → Int32)), f_X4_leaveTrail_116 n_116 v_w_116 = some o_w → ∀ (H : Heap) (locs : List Loc), va_P (dC, dI) vwCl [(aM, .inr (4, [.ref a_w, .ref a_past, .int v_pastMany, .ref a_images, .int v_filled, .ref a_text, .int v_length, .int v_faultKind, .int v_faultPlace, .ref a_rowOf, .int v_rows, .int v_wrongKind, .int v_wrongPlace, .int v_readWords, .int v_readPassages, .ref a_readLetter, .ref a_readCue, .ref a_readPassage, .ref a_held])), (a_w, .inl (cI, 510, .inl v_w_116)), (a_past, .inl (cI, 4080, .inl v_past)), (a_images, .inl (cI, 1020, .inl v_images)), (a_text, .inl (cI, 140, .inl v_text)), (a_rowOf, .inl (cI, 120, .inl v_rowOf)), (a_readLetter, .inl (cI, 120, .inl v_readLetter)), (a_readCue, .inl (cI, 120, .inl v_readCue)), (a_readPassage, .inl (cI, 120, .inl v_readPassage)), (a_held, .inl (cI, 510, .inl v_held))] H → va_D A [(aM, .inr (4, [.ref a_w, .ref a_past, .int v_pastMany, .ref a_images, .int v_filled, .ref a_text, .int v_length, .int v_faultKind, .int v_faultPlace, .ref a_rowOf, .int v_rows, .int v_wrongKind, .int v_wrongPlace, .int v_readWords, .int v_readPassages, .ref a_readLetter, .ref a_readCue, .ref a_readPassage, .ref a_held])), (a_w, .inl (cI, 510, .inl v_w_116)), (a_past, .inl (cI, 4080, .inl v_past)), (a_images, .inl (cI, 1020, .inl v_images)), (a_text, .inl (cI, 140, .inl v_text)), (a_rowOf, .inl (cI, 120, .inl v_rowOf)), (a_readLetter, .inl (cI, 120, .inl v_readLetter)), (a_readCue, .inl (cI, 120, .inl v_readCue)), (a_readPassage, .inl (cI, 120, .inl v_readPassage)), (a_held, .inl (cI, 510, .inl v_held))] → va_S A s.heap H locs → ∀ ls : Array Slot, lv_has ls 3 [(0, .ref aM)] → W p l e (headSpec wsX4_leaveTrail rm_X4_leaveTrail).room s m ([.ref aM] : List Value).toArray below meth c H locs 0 0 Q (F0 m 116 ls []) := by
    intro n_116
    induction n_116 with
    | zero => intro v_w_116 hF; exact noneE hF
    | succ n_116 ih116 =>
      intro v_w_116 hF H locs hP hD hS ls hl
      have B144 : ∀ (n_144 : Nat) (x2_144 : Int32) (v_w_144 : (Nat → Int32)), f_X4_leaveTrail_144 (f_X4_leaveTrail_116 n_116) n_144 x2_144 v_w_144 = some o_w → ∀ (H : Heap) (locs : List Loc), va_P (dC, dI) vwCl [(aM, .inr (4, [.ref a_w, .ref a_past, .int v_pastMany, .ref a_images, .int v_filled, .ref a_text, .int v_length, .int v_faultKind, .int v_faultPlace, .ref a_rowOf, .int v_rows, .int v_wrongKind, .int v_wrongPlace, .int v_readWords, .int v_readPassages, .ref a_readLetter, .ref a_readCue, .ref a_readPassage, .ref a_held])), (a_w, .inl (cI, 510, .inl v_w_144)), (a_past, .inl (cI, 4080, .inl v_past)), (a_images, .inl (cI, 1020, .inl v_images)), (a_text, .inl (cI, 140, .inl v_text)), (a_rowOf, .inl (cI, 120, .inl v_rowOf)), (a_readLetter, .inl (cI, 120, .inl v_readLetter)), (a_readCue, .inl (cI, 120, .inl v_readCue)), (a_readPassage, .inl (cI, 120, .inl v_readPassage)), (a_held, .inl (cI, 510, .inl v_held))] H → va_D A [(aM, .inr (4, [.ref a_w, .ref a_past, .int v_pastMany, .ref a_images, .int v_filled, .ref a_text, .int v_length, .int v_faultKind, .int v_faultPlace, .ref a_rowOf, .int v_rows, .int v_wrongKind, .int v_wrongPlace, .int v_readWords, .int v_readPassages, .ref a_readLetter, .ref a_readCue, .ref a_readPassage, .ref a_held])), (a_w, .inl (cI, 510, .inl v_w_144)), (a_past, .inl (cI, 4080, .inl v_past)), (a_images, .inl (cI, 1020, .inl v_images)), (a_text, .inl (cI, 140, .inl v_text)), (a_rowOf, .inl (cI, 120, .inl v_rowOf)), (a_readLetter, .inl (cI, 120, .inl v_readLetter)), (a_readCue, .inl (cI, 120, .inl v_readCue)), (a_readPassage, .inl (cI, 120, .inl v_readPassage)), (a_held, .inl (cI, 510, .inl v_held))] → va_S A s.heap H locs → ∀ ls : Array Slot, lv_has ls 3 [(0, .ref aM), (2, .int x2_144)] → W p l e (headSpec wsX4_leaveTrail rm_X4_leaveTrail).room s m ([.ref aM] : List Value).toArray below meth c H locs 0 0 Q (F0 m 144 ls []) := by
        intro n_144
        induction n_144 with
        | zero => intro x2_144 v_w_144 hF; exact noneE hF
        | succ n_144 ih144 =>
          intro x2_144 v_w_144 hF H locs hP hD hS ls hl
          rw [f_X4_leaveTrail_144] at hF
          refine lv_iload_n hx hb dX4_leaveTrail_144 rfl (lv_at hl 1 rfl) ?_
          refine lv_bipush (v := (26 : Int32)) hx hb dX4_leaveTrail_145 (by decide) ?_
          refine lv_iconst (v := (2 : Int32)) hx hb dX4_leaveTrail_147 (by decide) ?_
          refine lv_aload_n hx hb dX4_leaveTrail_148 rfl (lv_at hl 0 rfl) ?_
          refine va_get (D := (dC, dI)) (ci := 4) (v := .ref a_w) (C := RX4) (T := TX4) (N := 19) hx hb hts inX4 hown hK hP 0 rfl rfl 0 (by decide) fl7 (fun _ h9 => h9) rfl dX4_leaveTrail_149 ?_
          refine lv_bipush (v := (25 : Int32)) hx hb dX4_leaveTrail_152 (by decide) ?_
          refine va_ialdK hx hb hK hP 1 0 rfl rfl (inK (by decide)) (j := 25) (by decide) dX4_leaveTrail_154 ?_
          refine lv_imul hx hb dX4_leaveTrail_155 ?_
          refine lv_iadd hx hb dX4_leaveTrail_156 ?_
          refine lv_iconst (v := (2 : Int32)) hx hb dX4_leaveTrail_157 (by decide) ?_
          refine lv_isub hx hb dX4_leaveTrail_158 ?_
          refine lv_icmp_ge (tgt := 182) hx hb dX4_leaveTrail_159 (by decide) (fun c_159 => ?_) (fun c_159 => ?_)
          · have hF := (if_pos c_159).symm.trans hF
            refine lv_aload_n hx hb dX4_leaveTrail_182 rfl (lv_at hl 0 rfl) ?_
            refine va_get (D := (dC, dI)) (ci := 4) (v := .ref a_w) (C := RX4) (T := TX4) (N := 19) hx hb hts inX4 hown hK hP 0 rfl rfl 0 (by decide) fl7 (fun _ h9 => h9) rfl dX4_leaveTrail_183 ?_
            refine lv_bipush (v := (25 : Int32)) hx hb dX4_leaveTrail_186 (by decide) ?_
            refine lv_dup2_11 hx hb dX4_leaveTrail_188 rfl rfl ?_
            refine va_ialdK hx hb hK hP 1 0 rfl rfl (inK (by decide)) (j := 25) (by decide) dX4_leaveTrail_189 ?_
            refine lv_iconst (v := (1 : Int32)) hx hb dX4_leaveTrail_190 (by decide) ?_
            refine lv_isub hx hb dX4_leaveTrail_191 ?_
            refine va_iastK hx hb hK hP hD hS 1 0 rfl rfl (inK (by decide)) (j := 25) (by decide) dX4_leaveTrail_192 (fun H locs hP hD hS => ?_)
            have hP : va_P (dC, dI) vwCl [(aM, .inr (4, [.ref a_w, .ref a_past, .int v_pastMany, .ref a_images, .int v_filled, .ref a_text, .int v_length, .int v_faultKind, .int v_faultPlace, .ref a_rowOf, .int v_rows, .int v_wrongKind, .int v_wrongPlace, .int v_readWords, .int v_readPassages, .ref a_readLetter, .ref a_readCue, .ref a_readPassage, .ref a_held])), (a_w, .inl (cI, 510, .inl (upd v_w_144 25 ((v_w_144 25) - (1 : Int32))))), (a_past, .inl (cI, 4080, .inl v_past)), (a_images, .inl (cI, 1020, .inl v_images)), (a_text, .inl (cI, 140, .inl v_text)), (a_rowOf, .inl (cI, 120, .inl v_rowOf)), (a_readLetter, .inl (cI, 120, .inl v_readLetter)), (a_readCue, .inl (cI, 120, .inl v_readCue)), (a_readPassage, .inl (cI, 120, .inl v_readPassage)), (a_held, .inl (cI, 510, .inl v_held))] H := hP
            have hD : va_D A [(aM, .inr (4, [.ref a_w, .ref a_past, .int v_pastMany, .ref a_images, .int v_filled, .ref a_text, .int v_length, .int v_faultKind, .int v_faultPlace, .ref a_rowOf, .int v_rows, .int v_wrongKind, .int v_wrongPlace, .int v_readWords, .int v_readPassages, .ref a_readLetter, .ref a_readCue, .ref a_readPassage, .ref a_held])), (a_w, .inl (cI, 510, .inl (upd v_w_144 25 ((v_w_144 25) - (1 : Int32))))), (a_past, .inl (cI, 4080, .inl v_past)), (a_images, .inl (cI, 1020, .inl v_images)), (a_text, .inl (cI, 140, .inl v_text)), (a_rowOf, .inl (cI, 120, .inl v_rowOf)), (a_readLetter, .inl (cI, 120, .inl v_readLetter)), (a_readCue, .inl (cI, 120, .inl v_readCue)), (a_readPassage, .inl (cI, 120, .inl v_readPassage)), (a_held, .inl (cI, 510, .inl v_held))] := hD
            obtain ⟨a_192, ha_192, hF⟩ := bindE hF
            have ha_192 := Option.some.inj ha_192
            rw [ha_192] at hP hD
            refine lv_goto (tgt := 116) hx hb dX4_leaveTrail_193 (by decide) ?_
            exact ih116 a_192 hF _ _ hP hD hS _ (lv_sub hl [0] rfl)
          · have hF := (if_neg c_159).symm.trans hF
            refine lv_aload_n hx hb dX4_leaveTrail_162 rfl (lv_at hl 0 rfl) ?_
            refine va_get (D := (dC, dI)) (ci := 4) (v := .ref a_w) (C := RX4) (T := TX4) (N := 19) hx hb hts inX4 hown hK hP 0 rfl rfl 0 (by decide) fl7 (fun _ h9 => h9) rfl dX4_leaveTrail_163 ?_
            refine lv_iload_n hx hb dX4_leaveTrail_166 rfl (lv_at hl 1 rfl) ?_
            refine lv_aload_n hx hb dX4_leaveTrail_167 rfl (lv_at hl 0 rfl) ?_
            refine va_get (D := (dC, dI)) (ci := 4) (v := .ref a_w) (C := RX4) (T := TX4) (N := 19) hx hb hts inX4 hown hK hP 0 rfl rfl 0 (by decide) fl7 (fun _ h9 => h9) rfl dX4_leaveTrail_168 ?_
            refine lv_iload_n hx hb dX4_leaveTrail_171 rfl (lv_at hl 1 rfl) ?_
            refine lv_iconst (v := (2 : Int32)) hx hb dX4_leaveTrail_172 (by decide) ?_
            refine lv_iadd hx hb dX4_leaveTrail_173 ?_
            by_cases b_174 : ((x2_144 + (2 : Int32)) < 0 ∨ 510 ≤ ((x2_144 + (2 : Int32))).toNatClampNeg)
            · exact noneE ((if_pos b_174).symm.trans hF)
            have hF := (if_neg b_174).symm.trans hF
            refine va_iald hx hb hK hP 1 0 rfl rfl b_174 dX4_leaveTrail_174 ?_
            by_cases b_175 : (x2_144 < 0 ∨ 510 ≤ x2_144.toNatClampNeg)
            · exact noneE ((if_pos b_175).symm.trans hF)
            have hF := (if_neg b_175).symm.trans hF
            refine va_iast hx hb hK hP hD hS 1 0 rfl rfl b_175 dX4_leaveTrail_175 (fun H locs hP hD hS => ?_)
            have hP : va_P (dC, dI) vwCl [(aM, .inr (4, [.ref a_w, .ref a_past, .int v_pastMany, .ref a_images, .int v_filled, .ref a_text, .int v_length, .int v_faultKind, .int v_faultPlace, .ref a_rowOf, .int v_rows, .int v_wrongKind, .int v_wrongPlace, .int v_readWords, .int v_readPassages, .ref a_readLetter, .ref a_readCue, .ref a_readPassage, .ref a_held])), (a_w, .inl (cI, 510, .inl (upd v_w_144 x2_144.toNatClampNeg (v_w_144 (((x2_144 + (2 : Int32))).toNatClampNeg))))), (a_past, .inl (cI, 4080, .inl v_past)), (a_images, .inl (cI, 1020, .inl v_images)), (a_text, .inl (cI, 140, .inl v_text)), (a_rowOf, .inl (cI, 120, .inl v_rowOf)), (a_readLetter, .inl (cI, 120, .inl v_readLetter)), (a_readCue, .inl (cI, 120, .inl v_readCue)), (a_readPassage, .inl (cI, 120, .inl v_readPassage)), (a_held, .inl (cI, 510, .inl v_held))] H := hP
            have hD : va_D A [(aM, .inr (4, [.ref a_w, .ref a_past, .int v_pastMany, .ref a_images, .int v_filled, .ref a_text, .int v_length, .int v_faultKind, .int v_faultPlace, .ref a_rowOf, .int v_rows, .int v_wrongKind, .int v_wrongPlace, .int v_readWords, .int v_readPassages, .ref a_readLetter, .ref a_readCue, .ref a_readPassage, .ref a_held])), (a_w, .inl (cI, 510, .inl (upd v_w_144 x2_144.toNatClampNeg (v_w_144 (((x2_144 + (2 : Int32))).toNatClampNeg))))), (a_past, .inl (cI, 4080, .inl v_past)), (a_images, .inl (cI, 1020, .inl v_images)), (a_text, .inl (cI, 140, .inl v_text)), (a_rowOf, .inl (cI, 120, .inl v_rowOf)), (a_readLetter, .inl (cI, 120, .inl v_readLetter)), (a_readCue, .inl (cI, 120, .inl v_readCue)), (a_readPassage, .inl (cI, 120, .inl v_readPassage)), (a_held, .inl (cI, 510, .inl v_held))] := hD
            obtain ⟨a_175, ha_175, hF⟩ := bindE hF
            have ha_175 := Option.some.inj ha_175
            rw [ha_175] at hP hD
            refine lv_iinc (v := (x2_144 + 1)) (lv' := [(2, .int (x2_144 + 1)), (0, .ref aM)]) hx hb dX4_leaveTrail_176 hl (k := 1) rfl rfl (by decide) rfl (fun ls hl => ?_)
            refine lv_goto (tgt := 144) hx hb dX4_leaveTrail_179 (by decide) ?_
            exact ih144 (x2_144 + 1) a_175 hF _ _ hP hD hS _ (lv_sub hl [1, 0] rfl)
      rw [f_X4_leaveTrail_116] at hF
      refine lv_aload_n hx hb dX4_leaveTrail_116 rfl (lv_at hl 0 rfl) ?_
      refine va_get (D := (dC, dI)) (ci := 4) (v := .ref a_w) (C := RX4) (T := TX4) (N := 19) hx hb hts inX4 hown hK hP 0 rfl rfl 0 (by decide) fl7 (fun _ h9 => h9) rfl dX4_leaveTrail_117 ?_
      refine lv_bipush (v := (26 : Int32)) hx hb dX4_leaveTrail_120 (by decide) ?_
      refine va_ialdK hx hb hK hP 1 0 rfl rfl (inK (by decide)) (j := 26) (by decide) dX4_leaveTrail_122 ?_
      refine lv_aload_n hx hb dX4_leaveTrail_123 rfl (lv_at hl 0 rfl) ?_
      refine va_get (D := (dC, dI)) (ci := 4) (v := .ref a_w) (C := RX4) (T := TX4) (N := 19) hx hb hts inX4 hown hK hP 0 rfl rfl 0 (by decide) fl7 (fun _ h9 => h9) rfl dX4_leaveTrail_124 ?_
      refine lv_bipush (v := (10 : Int32)) hx hb dX4_leaveTrail_127 (by decide) ?_
      refine va_ialdK hx hb hK hP 1 0 rfl rfl (inK (by decide)) (j := 10) (by decide) dX4_leaveTrail_129 ?_
      refine lv_aload_n hx hb dX4_leaveTrail_130 rfl (lv_at hl 0 rfl) ?_
      refine va_get (D := (dC, dI)) (ci := 4) (v := .ref a_w) (C := RX4) (T := TX4) (N := 19) hx hb hts inX4 hown hK hP 0 rfl rfl 0 (by decide) fl7 (fun _ h9 => h9) rfl dX4_leaveTrail_131 ?_
      refine lv_bipush (v := (6 : Int32)) hx hb dX4_leaveTrail_134 (by decide) ?_
      refine va_ialdK hx hb hK hP 1 0 rfl rfl (inK (by decide)) (j := 6) (by decide) dX4_leaveTrail_136 ?_
      refine lv_isub hx hb dX4_leaveTrail_137 ?_
      refine lv_icmp_ge (tgt := 196) hx hb dX4_leaveTrail_138 (by decide) (fun c_138 => ?_) (fun c_138 => ?_)
      · have hF := (if_pos c_138).symm.trans hF
        refine lv_bipush (v := (26 : Int32)) hx hb dX4_leaveTrail_196 (by decide) ?_
        refine lv_iconst (v := (2 : Int32)) hx hb dX4_leaveTrail_198 (by decide) ?_
        refine lv_aload_n hx hb dX4_leaveTrail_199 rfl (lv_at hl 0 rfl) ?_
        refine va_get (D := (dC, dI)) (ci := 4) (v := .ref a_w) (C := RX4) (T := TX4) (N := 19) hx hb hts inX4 hown hK hP 0 rfl rfl 0 (by decide) fl7 (fun _ h9 => h9) rfl dX4_leaveTrail_200 ?_
        refine lv_bipush (v := (25 : Int32)) hx hb dX4_leaveTrail_203 (by decide) ?_
        refine va_ialdK hx hb hK hP 1 0 rfl rfl (inK (by decide)) (j := 25) (by decide) dX4_leaveTrail_205 ?_
        refine lv_imul hx hb dX4_leaveTrail_206 ?_
        refine lv_iadd hx hb dX4_leaveTrail_207 ?_
        refine lv_iconst (v := (2 : Int32)) hx hb dX4_leaveTrail_208 (by decide) ?_
        refine lv_isub hx hb dX4_leaveTrail_209 ?_
        refine lv_istore_n (lv' := [(2, .int (((26 : Int32) + ((2 : Int32) * (v_w_116 25))) - (2 : Int32))), (0, .ref aM)]) hx hb dX4_leaveTrail_210 rfl hl (by decide) rfl (fun ls hl => ?_)
        refine lv_aload_n hx hb dX4_leaveTrail_211 rfl (lv_at hl 1 rfl) ?_
        refine va_get (D := (dC, dI)) (ci := 4) (v := .ref a_w) (C := RX4) (T := TX4) (N := 19) hx hb hts inX4 hown hK hP 0 rfl rfl 0 (by decide) fl7 (fun _ h9 => h9) rfl dX4_leaveTrail_212 ?_
        refine lv_bipush (v := (25 : Int32)) hx hb dX4_leaveTrail_215 (by decide) ?_
        refine va_ialdK hx hb hK hP 1 0 rfl rfl (inK (by decide)) (j := 25) (by decide) dX4_leaveTrail_217 ?_
        refine lv_iconst (v := (1 : Int32)) hx hb dX4_leaveTrail_218 (by decide) ?_
        refine lv_icmp_le (tgt := 263) hx hb dX4_leaveTrail_219 (by decide) (fun c_219 => ?_) (fun c_219 => ?_)
        · have hF := (if_pos c_219).symm.trans hF
          have hF : some v_w_116 = some o_w := hF
          have hP9 := hP
          have hD9 := hD
          cases hF
          subst hQ
          subst hAe
          exact W.vret hx hb hr (fun t ht hW => ⟨⟨(), rfl, trivial, ⟨by rw [ht]; exact hP9, hD9⟩⟩, hS.F ht⟩) hS.2.2 dX4_leaveTrail_263
        · have hF := (if_neg c_219).symm.trans hF
          refine lv_aload_n hx hb dX4_leaveTrail_222 rfl (lv_at hl 1 rfl) ?_
          refine va_get (D := (dC, dI)) (ci := 4) (v := .ref a_w) (C := RX4) (T := TX4) (N := 19) hx hb hts inX4 hown hK hP 0 rfl rfl 0 (by decide) fl7 (fun _ h9 => h9) rfl dX4_leaveTrail_223 ?_
          refine lv_bipush (v := (12 : Int32)) hx hb dX4_leaveTrail_226 (by decide) ?_
          refine lv_bipush (v := (100 : Int32)) hx hb dX4_leaveTrail_228 (by decide) ?_
          refine lv_aload_n hx hb dX4_leaveTrail_230 rfl (lv_at hl 1 rfl) ?_
          refine va_get (D := (dC, dI)) (ci := 4) (v := .ref a_w) (C := RX4) (T := TX4) (N := 19) hx hb hts inX4 hown hK hP 0 rfl rfl 0 (by decide) fl7 (fun _ h9 => h9) rfl dX4_leaveTrail_231 ?_
          refine lv_iload_n hx hb dX4_leaveTrail_234 rfl (lv_at hl 0 rfl) ?_
          refine lv_iconst (v := (1 : Int32)) hx hb dX4_leaveTrail_235 (by decide) ?_
          refine lv_iadd hx hb dX4_leaveTrail_236 ?_
          by_cases b_237 : (((((26 : Int32) + ((2 : Int32) * (v_w_116 25))) - (2 : Int32)) + (1 : Int32)) < 0 ∨ 510 ≤ (((((26 : Int32) + ((2 : Int32) * (v_w_116 25))) - (2 : Int32)) + (1 : Int32))).toNatClampNeg)
          · exact noneE ((if_pos b_237).symm.trans hF)
          have hF := (if_neg b_237).symm.trans hF
          refine va_iald hx hb hK hP 1 0 rfl rfl b_237 dX4_leaveTrail_237 ?_
          refine lv_aload_n hx hb dX4_leaveTrail_238 rfl (lv_at hl 1 rfl) ?_
          refine va_get (D := (dC, dI)) (ci := 4) (v := .ref a_w) (C := RX4) (T := TX4) (N := 19) hx hb hts inX4 hown hK hP 0 rfl rfl 0 (by decide) fl7 (fun _ h9 => h9) rfl dX4_leaveTrail_239 ?_
          refine lv_bipush (v := (27 : Int32)) hx hb dX4_leaveTrail_242 (by decide) ?_
          refine va_ialdK hx hb hK hP 1 0 rfl rfl (inK (by decide)) (j := 27) (by decide) dX4_leaveTrail_244 ?_
          refine lv_isub hx hb dX4_leaveTrail_245 ?_
          refine lv_imul hx hb dX4_leaveTrail_246 ?_
          refine lv_aload_n hx hb dX4_leaveTrail_247 rfl (lv_at hl 1 rfl) ?_
          refine va_get (D := (dC, dI)) (ci := 4) (v := .ref a_w) (C := RX4) (T := TX4) (N := 19) hx hb hts inX4 hown hK hP 0 rfl rfl 0 (by decide) fl7 (fun _ h9 => h9) rfl dX4_leaveTrail_248 ?_
          refine lv_iload_n hx hb dX4_leaveTrail_251 rfl (lv_at hl 0 rfl) ?_
          by_cases b_252 : ((((26 : Int32) + ((2 : Int32) * (v_w_116 25))) - (2 : Int32)) < 0 ∨ 510 ≤ ((((26 : Int32) + ((2 : Int32) * (v_w_116 25))) - (2 : Int32))).toNatClampNeg)
          · exact noneE ((if_pos b_252).symm.trans hF)
          have hF := (if_neg b_252).symm.trans hF
          refine va_iald hx hb hK hP 1 0 rfl rfl b_252 dX4_leaveTrail_252 ?_
          refine lv_aload_n hx hb dX4_leaveTrail_253 rfl (lv_at hl 1 rfl) ?_
          refine va_get (D := (dC, dI)) (ci := 4) (v := .ref a_w) (C := RX4) (T := TX4) (N := 19) hx hb hts inX4 hown hK hP 0 rfl rfl 0 (by decide) fl7 (fun _ h9 => h9) rfl dX4_leaveTrail_254 ?_
          refine lv_bipush (v := (26 : Int32)) hx hb dX4_leaveTrail_257 (by decide) ?_
          refine va_ialdK hx hb hK hP 1 0 rfl rfl (inK (by decide)) (j := 26) (by decide) dX4_leaveTrail_259 ?_
          refine lv_isub hx hb dX4_leaveTrail_260 ?_
          by_cases b_261 : (((v_w_116 (((((26 : Int32) + ((2 : Int32) * (v_w_116 25))) - (2 : Int32))).toNatClampNeg)) - (v_w_116 26)) = (0 : Int32))
          · exact noneE ((if_pos b_261).symm.trans hF)
          have hF := (if_neg b_261).symm.trans hF
          refine lv_idiv hx hb dX4_leaveTrail_261 b_261 ?_
          refine va_iastK hx hb hK hP hD hS 1 0 rfl rfl (inK (by decide)) (j := 12) (by decide) dX4_leaveTrail_262 (fun H locs hP hD hS => ?_)
          have hP : va_P (dC, dI) vwCl [(aM, .inr (4, [.ref a_w, .ref a_past, .int v_pastMany, .ref a_images, .int v_filled, .ref a_text, .int v_length, .int v_faultKind, .int v_faultPlace, .ref a_rowOf, .int v_rows, .int v_wrongKind, .int v_wrongPlace, .int v_readWords, .int v_readPassages, .ref a_readLetter, .ref a_readCue, .ref a_readPassage, .ref a_held])), (a_w, .inl (cI, 510, .inl (upd v_w_116 12 (((100 : Int32) * ((v_w_116 ((((((26 : Int32) + ((2 : Int32) * (v_w_116 25))) - (2 : Int32)) + (1 : Int32))).toNatClampNeg)) - (v_w_116 27))) / ((v_w_116 (((((26 : Int32) + ((2 : Int32) * (v_w_116 25))) - (2 : Int32))).toNatClampNeg)) - (v_w_116 26)))))), (a_past, .inl (cI, 4080, .inl v_past)), (a_images, .inl (cI, 1020, .inl v_images)), (a_text, .inl (cI, 140, .inl v_text)), (a_rowOf, .inl (cI, 120, .inl v_rowOf)), (a_readLetter, .inl (cI, 120, .inl v_readLetter)), (a_readCue, .inl (cI, 120, .inl v_readCue)), (a_readPassage, .inl (cI, 120, .inl v_readPassage)), (a_held, .inl (cI, 510, .inl v_held))] H := hP
          have hD : va_D A [(aM, .inr (4, [.ref a_w, .ref a_past, .int v_pastMany, .ref a_images, .int v_filled, .ref a_text, .int v_length, .int v_faultKind, .int v_faultPlace, .ref a_rowOf, .int v_rows, .int v_wrongKind, .int v_wrongPlace, .int v_readWords, .int v_readPassages, .ref a_readLetter, .ref a_readCue, .ref a_readPassage, .ref a_held])), (a_w, .inl (cI, 510, .inl (upd v_w_116 12 (((100 : Int32) * ((v_w_116 ((((((26 : Int32) + ((2 : Int32) * (v_w_116 25))) - (2 : Int32)) + (1 : Int32))).toNatClampNeg)) - (v_w_116 27))) / ((v_w_116 (((((26 : Int32) + ((2 : Int32) * (v_w_116 25))) - (2 : Int32))).toNatClampNeg)) - (v_w_116 26)))))), (a_past, .inl (cI, 4080, .inl v_past)), (a_images, .inl (cI, 1020, .inl v_images)), (a_text, .inl (cI, 140, .inl v_text)), (a_rowOf, .inl (cI, 120, .inl v_rowOf)), (a_readLetter, .inl (cI, 120, .inl v_readLetter)), (a_readCue, .inl (cI, 120, .inl v_readCue)), (a_readPassage, .inl (cI, 120, .inl v_readPassage)), (a_held, .inl (cI, 510, .inl v_held))] := hD
          obtain ⟨a_262, ha_262, hF⟩ := bindE hF
          have ha_262 := Option.some.inj ha_262
          rw [ha_262] at hP hD
          have hF : some a_262 = some o_w := hF
          have hP9 := hP
          have hD9 := hD
          cases hF
          subst hQ
          subst hAe
          exact W.vret hx hb hr (fun t ht hW => ⟨⟨(), rfl, trivial, ⟨by rw [ht]; exact hP9, hD9⟩⟩, hS.F ht⟩) hS.2.2 dX4_leaveTrail_263
      · have hF := (if_neg c_138).symm.trans hF
        refine lv_bipush (v := (26 : Int32)) hx hb dX4_leaveTrail_141 (by decide) ?_
        refine lv_istore_n (lv' := [(2, .int (26 : Int32)), (0, .ref aM)]) hx hb dX4_leaveTrail_143 rfl hl (by decide) rfl (fun ls hl => ?_)
        exact B144 gas (26 : Int32) v_w_116 hF _ _ hP hD hS _ (lv_sub hl [1, 0] rfl)
  have B62 : ∀ (s1_62 : Int32) (s2_62 : Int32) (s3_62 : Int32) (v_w_62 : (Nat → Int32)), f_X4_leaveTrail_62 s1_62 s2_62 s3_62 v_w_62 = some o_w → ∀ (H : Heap) (locs : List Loc), va_P (dC, dI) vwCl [(aM, .inr (4, [.ref a_w, .ref a_past, .int v_pastMany, .ref a_images, .int v_filled, .ref a_text, .int v_length, .int v_faultKind, .int v_faultPlace, .ref a_rowOf, .int v_rows, .int v_wrongKind, .int v_wrongPlace, .int v_readWords, .int v_readPassages, .ref a_readLetter, .ref a_readCue, .ref a_readPassage, .ref a_held])), (a_w, .inl (cI, 510, .inl v_w_62)), (a_past, .inl (cI, 4080, .inl v_past)), (a_images, .inl (cI, 1020, .inl v_images)), (a_text, .inl (cI, 140, .inl v_text)), (a_rowOf, .inl (cI, 120, .inl v_rowOf)), (a_readLetter, .inl (cI, 120, .inl v_readLetter)), (a_readCue, .inl (cI, 120, .inl v_readCue)), (a_readPassage, .inl (cI, 120, .inl v_readPassage)), (a_held, .inl (cI, 510, .inl v_held))] H → va_D A [(aM, .inr (4, [.ref a_w, .ref a_past, .int v_pastMany, .ref a_images, .int v_filled, .ref a_text, .int v_length, .int v_faultKind, .int v_faultPlace, .ref a_rowOf, .int v_rows, .int v_wrongKind, .int v_wrongPlace, .int v_readWords, .int v_readPassages, .ref a_readLetter, .ref a_readCue, .ref a_readPassage, .ref a_held])), (a_w, .inl (cI, 510, .inl v_w_62)), (a_past, .inl (cI, 4080, .inl v_past)), (a_images, .inl (cI, 1020, .inl v_images)), (a_text, .inl (cI, 140, .inl v_text)), (a_rowOf, .inl (cI, 120, .inl v_rowOf)), (a_readLetter, .inl (cI, 120, .inl v_readLetter)), (a_readCue, .inl (cI, 120, .inl v_readCue)), (a_readPassage, .inl (cI, 120, .inl v_readPassage)), (a_held, .inl (cI, 510, .inl v_held))] → va_S A s.heap H locs → ∀ ls : Array Slot, lv_has ls 3 [(0, .ref aM)] → W p l e (headSpec wsX4_leaveTrail rm_X4_leaveTrail).room s m ([.ref aM] : List Value).toArray below meth c H locs 0 0 Q (F0 m 62 ls [.int s3_62, .int s2_62, .int s1_62, .ref a_w]) := by
    intro s1_62 s2_62 s3_62 v_w_62 hF H locs hP hD hS ls hl
    unfold f_X4_leaveTrail_62 at hF
    refine lv_iadd hx hb dX4_leaveTrail_62 ?_
    by_cases b_63 : (s1_62 < 0 ∨ 510 ≤ s1_62.toNatClampNeg)
    · exact noneE ((if_pos b_63).symm.trans hF)
    have hF := (if_neg b_63).symm.trans hF
    refine va_iast hx hb hK hP hD hS 1 0 rfl rfl b_63 dX4_leaveTrail_63 (fun H locs hP hD hS => ?_)
    have hP : va_P (dC, dI) vwCl [(aM, .inr (4, [.ref a_w, .ref a_past, .int v_pastMany, .ref a_images, .int v_filled, .ref a_text, .int v_length, .int v_faultKind, .int v_faultPlace, .ref a_rowOf, .int v_rows, .int v_wrongKind, .int v_wrongPlace, .int v_readWords, .int v_readPassages, .ref a_readLetter, .ref a_readCue, .ref a_readPassage, .ref a_held])), (a_w, .inl (cI, 510, .inl (upd v_w_62 s1_62.toNatClampNeg (s2_62 + s3_62)))), (a_past, .inl (cI, 4080, .inl v_past)), (a_images, .inl (cI, 1020, .inl v_images)), (a_text, .inl (cI, 140, .inl v_text)), (a_rowOf, .inl (cI, 120, .inl v_rowOf)), (a_readLetter, .inl (cI, 120, .inl v_readLetter)), (a_readCue, .inl (cI, 120, .inl v_readCue)), (a_readPassage, .inl (cI, 120, .inl v_readPassage)), (a_held, .inl (cI, 510, .inl v_held))] H := hP
    have hD : va_D A [(aM, .inr (4, [.ref a_w, .ref a_past, .int v_pastMany, .ref a_images, .int v_filled, .ref a_text, .int v_length, .int v_faultKind, .int v_faultPlace, .ref a_rowOf, .int v_rows, .int v_wrongKind, .int v_wrongPlace, .int v_readWords, .int v_readPassages, .ref a_readLetter, .ref a_readCue, .ref a_readPassage, .ref a_held])), (a_w, .inl (cI, 510, .inl (upd v_w_62 s1_62.toNatClampNeg (s2_62 + s3_62)))), (a_past, .inl (cI, 4080, .inl v_past)), (a_images, .inl (cI, 1020, .inl v_images)), (a_text, .inl (cI, 140, .inl v_text)), (a_rowOf, .inl (cI, 120, .inl v_rowOf)), (a_readLetter, .inl (cI, 120, .inl v_readLetter)), (a_readCue, .inl (cI, 120, .inl v_readCue)), (a_readPassage, .inl (cI, 120, .inl v_readPassage)), (a_held, .inl (cI, 510, .inl v_held))] := hD
    obtain ⟨a_63, ha_63, hF⟩ := bindE hF
    have ha_63 := Option.some.inj ha_63
    rw [ha_63] at hP hD
    refine lv_aload_n hx hb dX4_leaveTrail_64 rfl (lv_at hl 0 rfl) ?_
    refine va_get (D := (dC, dI)) (ci := 4) (v := .ref a_w) (C := RX4) (T := TX4) (N := 19) hx hb hts inX4 hown hK hP 0 rfl rfl 0 (by decide) fl7 (fun _ h9 => h9) rfl dX4_leaveTrail_65 ?_
    refine lv_bipush (v := (26 : Int32)) hx hb dX4_leaveTrail_68 (by decide) ?_
    refine lv_iconst (v := (2 : Int32)) hx hb dX4_leaveTrail_70 (by decide) ?_
    refine lv_aload_n hx hb dX4_leaveTrail_71 rfl (lv_at hl 0 rfl) ?_
    refine va_get (D := (dC, dI)) (ci := 4) (v := .ref a_w) (C := RX4) (T := TX4) (N := 19) hx hb hts inX4 hown hK hP 0 rfl rfl 0 (by decide) fl7 (fun _ h9 => h9) rfl dX4_leaveTrail_72 ?_
    refine lv_bipush (v := (25 : Int32)) hx hb dX4_leaveTrail_75 (by decide) ?_
    refine va_ialdK hx hb hK hP 1 0 rfl rfl (inK (by decide)) (j := 25) (by decide) dX4_leaveTrail_77 ?_
    refine lv_imul hx hb dX4_leaveTrail_78 ?_
    refine lv_iadd hx hb dX4_leaveTrail_79 ?_
    refine lv_iconst (v := (2 : Int32)) hx hb dX4_leaveTrail_80 (by decide) ?_
    refine lv_isub hx hb dX4_leaveTrail_81 ?_
    refine lv_aload_n hx hb dX4_leaveTrail_82 rfl (lv_at hl 0 rfl) ?_
    refine va_get (D := (dC, dI)) (ci := 4) (v := .ref a_w) (C := RX4) (T := TX4) (N := 19) hx hb hts inX4 hown hK hP 0 rfl rfl 0 (by decide) fl7 (fun _ h9 => h9) rfl dX4_leaveTrail_83 ?_
    refine lv_bipush (v := (10 : Int32)) hx hb dX4_leaveTrail_86 (by decide) ?_
    refine va_ialdK hx hb hK hP 1 0 rfl rfl (inK (by decide)) (j := 10) (by decide) dX4_leaveTrail_88 ?_
    by_cases b_89 : ((((26 : Int32) + ((2 : Int32) * (a_63 25))) - (2 : Int32)) < 0 ∨ 510 ≤ ((((26 : Int32) + ((2 : Int32) * (a_63 25))) - (2 : Int32))).toNatClampNeg)
    · exact noneE ((if_pos b_89).symm.trans hF)
    have hF := (if_neg b_89).symm.trans hF
    refine va_iast hx hb hK hP hD hS 1 0 rfl rfl b_89 dX4_leaveTrail_89 (fun H locs hP hD hS => ?_)
    have hP : va_P (dC, dI) vwCl [(aM, .inr (4, [.ref a_w, .ref a_past, .int v_pastMany, .ref a_images, .int v_filled, .ref a_text, .int v_length, .int v_faultKind, .int v_faultPlace, .ref a_rowOf, .int v_rows, .int v_wrongKind, .int v_wrongPlace, .int v_readWords, .int v_readPassages, .ref a_readLetter, .ref a_readCue, .ref a_readPassage, .ref a_held])), (a_w, .inl (cI, 510, .inl (upd a_63 (((((26 : Int32) + ((2 : Int32) * (a_63 25))) - (2 : Int32))).toNatClampNeg) (a_63 10)))), (a_past, .inl (cI, 4080, .inl v_past)), (a_images, .inl (cI, 1020, .inl v_images)), (a_text, .inl (cI, 140, .inl v_text)), (a_rowOf, .inl (cI, 120, .inl v_rowOf)), (a_readLetter, .inl (cI, 120, .inl v_readLetter)), (a_readCue, .inl (cI, 120, .inl v_readCue)), (a_readPassage, .inl (cI, 120, .inl v_readPassage)), (a_held, .inl (cI, 510, .inl v_held))] H := hP
    have hD : va_D A [(aM, .inr (4, [.ref a_w, .ref a_past, .int v_pastMany, .ref a_images, .int v_filled, .ref a_text, .int v_length, .int v_faultKind, .int v_faultPlace, .ref a_rowOf, .int v_rows, .int v_wrongKind, .int v_wrongPlace, .int v_readWords, .int v_readPassages, .ref a_readLetter, .ref a_readCue, .ref a_readPassage, .ref a_held])), (a_w, .inl (cI, 510, .inl (upd a_63 (((((26 : Int32) + ((2 : Int32) * (a_63 25))) - (2 : Int32))).toNatClampNeg) (a_63 10)))), (a_past, .inl (cI, 4080, .inl v_past)), (a_images, .inl (cI, 1020, .inl v_images)), (a_text, .inl (cI, 140, .inl v_text)), (a_rowOf, .inl (cI, 120, .inl v_rowOf)), (a_readLetter, .inl (cI, 120, .inl v_readLetter)), (a_readCue, .inl (cI, 120, .inl v_readCue)), (a_readPassage, .inl (cI, 120, .inl v_readPassage)), (a_held, .inl (cI, 510, .inl v_held))] := hD
    obtain ⟨a_89, ha_89, hF⟩ := bindE hF
    have ha_89 := Option.some.inj ha_89
    rw [ha_89] at hP hD
    refine lv_aload_n hx hb dX4_leaveTrail_90 rfl (lv_at hl 0 rfl) ?_
    refine va_get (D := (dC, dI)) (ci := 4) (v := .ref a_w) (C := RX4) (T := TX4) (N := 19) hx hb hts inX4 hown hK hP 0 rfl rfl 0 (by decide) fl7 (fun _ h9 => h9) rfl dX4_leaveTrail_91 ?_
    refine lv_bipush (v := (26 : Int32)) hx hb dX4_leaveTrail_94 (by decide) ?_
    refine lv_iconst (v := (2 : Int32)) hx hb dX4_leaveTrail_96 (by decide) ?_
    refine lv_aload_n hx hb dX4_leaveTrail_97 rfl (lv_at hl 0 rfl) ?_
    refine va_get (D := (dC, dI)) (ci := 4) (v := .ref a_w) (C := RX4) (T := TX4) (N := 19) hx hb hts inX4 hown hK hP 0 rfl rfl 0 (by decide) fl7 (fun _ h9 => h9) rfl dX4_leaveTrail_98 ?_
    refine lv_bipush (v := (25 : Int32)) hx hb dX4_leaveTrail_101 (by decide) ?_
    refine va_ialdK hx hb hK hP 1 0 rfl rfl (inK (by decide)) (j := 25) (by decide) dX4_leaveTrail_103 ?_
    refine lv_imul hx hb dX4_leaveTrail_104 ?_
    refine lv_iadd hx hb dX4_leaveTrail_105 ?_
    refine lv_iconst (v := (1 : Int32)) hx hb dX4_leaveTrail_106 (by decide) ?_
    refine lv_isub hx hb dX4_leaveTrail_107 ?_
    refine lv_aload_n hx hb dX4_leaveTrail_108 rfl (lv_at hl 0 rfl) ?_
    refine va_get (D := (dC, dI)) (ci := 4) (v := .ref a_w) (C := RX4) (T := TX4) (N := 19) hx hb hts inX4 hown hK hP 0 rfl rfl 0 (by decide) fl7 (fun _ h9 => h9) rfl dX4_leaveTrail_109 ?_
    refine lv_bipush (v := (11 : Int32)) hx hb dX4_leaveTrail_112 (by decide) ?_
    refine va_ialdK hx hb hK hP 1 0 rfl rfl (inK (by decide)) (j := 11) (by decide) dX4_leaveTrail_114 ?_
    by_cases b_115 : ((((26 : Int32) + ((2 : Int32) * (a_89 25))) - (1 : Int32)) < 0 ∨ 510 ≤ ((((26 : Int32) + ((2 : Int32) * (a_89 25))) - (1 : Int32))).toNatClampNeg)
    · exact noneE ((if_pos b_115).symm.trans hF)
    have hF := (if_neg b_115).symm.trans hF
    refine va_iast hx hb hK hP hD hS 1 0 rfl rfl b_115 dX4_leaveTrail_115 (fun H locs hP hD hS => ?_)
    have hP : va_P (dC, dI) vwCl [(aM, .inr (4, [.ref a_w, .ref a_past, .int v_pastMany, .ref a_images, .int v_filled, .ref a_text, .int v_length, .int v_faultKind, .int v_faultPlace, .ref a_rowOf, .int v_rows, .int v_wrongKind, .int v_wrongPlace, .int v_readWords, .int v_readPassages, .ref a_readLetter, .ref a_readCue, .ref a_readPassage, .ref a_held])), (a_w, .inl (cI, 510, .inl (upd a_89 (((((26 : Int32) + ((2 : Int32) * (a_89 25))) - (1 : Int32))).toNatClampNeg) (a_89 11)))), (a_past, .inl (cI, 4080, .inl v_past)), (a_images, .inl (cI, 1020, .inl v_images)), (a_text, .inl (cI, 140, .inl v_text)), (a_rowOf, .inl (cI, 120, .inl v_rowOf)), (a_readLetter, .inl (cI, 120, .inl v_readLetter)), (a_readCue, .inl (cI, 120, .inl v_readCue)), (a_readPassage, .inl (cI, 120, .inl v_readPassage)), (a_held, .inl (cI, 510, .inl v_held))] H := hP
    have hD : va_D A [(aM, .inr (4, [.ref a_w, .ref a_past, .int v_pastMany, .ref a_images, .int v_filled, .ref a_text, .int v_length, .int v_faultKind, .int v_faultPlace, .ref a_rowOf, .int v_rows, .int v_wrongKind, .int v_wrongPlace, .int v_readWords, .int v_readPassages, .ref a_readLetter, .ref a_readCue, .ref a_readPassage, .ref a_held])), (a_w, .inl (cI, 510, .inl (upd a_89 (((((26 : Int32) + ((2 : Int32) * (a_89 25))) - (1 : Int32))).toNatClampNeg) (a_89 11)))), (a_past, .inl (cI, 4080, .inl v_past)), (a_images, .inl (cI, 1020, .inl v_images)), (a_text, .inl (cI, 140, .inl v_text)), (a_rowOf, .inl (cI, 120, .inl v_rowOf)), (a_readLetter, .inl (cI, 120, .inl v_readLetter)), (a_readCue, .inl (cI, 120, .inl v_readCue)), (a_readPassage, .inl (cI, 120, .inl v_readPassage)), (a_held, .inl (cI, 510, .inl v_held))] := hD
    obtain ⟨a_115, ha_115, hF⟩ := bindE hF
    have ha_115 := Option.some.inj ha_115
    rw [ha_115] at hP hD
    exact B116 gas a_115 hF _ _ hP hD hS _ (lv_sub hl [0] rfl)
  have B44 : ∀ (s0_44 : Int32) (v_w_44 : (Nat → Int32)), f_X4_leaveTrail_44 s0_44 v_w_44 = some o_w → ∀ (H : Heap) (locs : List Loc), va_P (dC, dI) vwCl [(aM, .inr (4, [.ref a_w, .ref a_past, .int v_pastMany, .ref a_images, .int v_filled, .ref a_text, .int v_length, .int v_faultKind, .int v_faultPlace, .ref a_rowOf, .int v_rows, .int v_wrongKind, .int v_wrongPlace, .int v_readWords, .int v_readPassages, .ref a_readLetter, .ref a_readCue, .ref a_readPassage, .ref a_held])), (a_w, .inl (cI, 510, .inl v_w_44)), (a_past, .inl (cI, 4080, .inl v_past)), (a_images, .inl (cI, 1020, .inl v_images)), (a_text, .inl (cI, 140, .inl v_text)), (a_rowOf, .inl (cI, 120, .inl v_rowOf)), (a_readLetter, .inl (cI, 120, .inl v_readLetter)), (a_readCue, .inl (cI, 120, .inl v_readCue)), (a_readPassage, .inl (cI, 120, .inl v_readPassage)), (a_held, .inl (cI, 510, .inl v_held))] H → va_D A [(aM, .inr (4, [.ref a_w, .ref a_past, .int v_pastMany, .ref a_images, .int v_filled, .ref a_text, .int v_length, .int v_faultKind, .int v_faultPlace, .ref a_rowOf, .int v_rows, .int v_wrongKind, .int v_wrongPlace, .int v_readWords, .int v_readPassages, .ref a_readLetter, .ref a_readCue, .ref a_readPassage, .ref a_held])), (a_w, .inl (cI, 510, .inl v_w_44)), (a_past, .inl (cI, 4080, .inl v_past)), (a_images, .inl (cI, 1020, .inl v_images)), (a_text, .inl (cI, 140, .inl v_text)), (a_rowOf, .inl (cI, 120, .inl v_rowOf)), (a_readLetter, .inl (cI, 120, .inl v_readLetter)), (a_readCue, .inl (cI, 120, .inl v_readCue)), (a_readPassage, .inl (cI, 120, .inl v_readPassage)), (a_held, .inl (cI, 510, .inl v_held))] → va_S A s.heap H locs → ∀ ls : Array Slot, lv_has ls 3 [(0, .ref aM)] → W p l e (headSpec wsX4_leaveTrail rm_X4_leaveTrail).room s m ([.ref aM] : List Value).toArray below meth c H locs 0 0 Q (F0 m 44 ls [.int s0_44]) := by
    intro s0_44 v_w_44 hF H locs hP hD hS ls hl
    unfold f_X4_leaveTrail_44 at hF
    refine lv_istore_n (lv' := [(1, .int s0_44), (0, .ref aM)]) hx hb dX4_leaveTrail_44 rfl hl (by decide) rfl (fun ls hl => ?_)
    refine lv_aload_n hx hb dX4_leaveTrail_45 rfl (lv_at hl 1 rfl) ?_
    refine va_get (D := (dC, dI)) (ci := 4) (v := .ref a_w) (C := RX4) (T := TX4) (N := 19) hx hb hts inX4 hown hK hP 0 rfl rfl 0 (by decide) fl7 (fun _ h9 => h9) rfl dX4_leaveTrail_46 ?_
    refine lv_bipush (v := (25 : Int32)) hx hb dX4_leaveTrail_49 (by decide) ?_
    refine lv_dup2_11 hx hb dX4_leaveTrail_51 rfl rfl ?_
    refine va_ialdK hx hb hK hP 1 0 rfl rfl (inK (by decide)) (j := 25) (by decide) dX4_leaveTrail_52 ?_
    refine lv_iload_n hx hb dX4_leaveTrail_53 rfl (lv_at hl 0 rfl) ?_
    refine lv_if_eq (tgt := 61) hx hb dX4_leaveTrail_54 (by decide) (fun c_54 => ?_) (fun c_54 => ?_)
    · have hF := (if_pos c_54).symm.trans hF
      refine lv_iconst (v := (1 : Int32)) hx hb dX4_leaveTrail_61 (by decide) ?_
      exact B62 (25 : Int32) (v_w_44 25) (1 : Int32) v_w_44 hF _ _ hP hD hS _ (lv_sub hl [1] rfl)
    · have hF := (if_neg c_54).symm.trans hF
      refine lv_iconst (v := (0 : Int32)) hx hb dX4_leaveTrail_57 (by decide) ?_
      refine lv_goto (tgt := 62) hx hb dX4_leaveTrail_58 (by decide) ?_
      exact B62 (25 : Int32) (v_w_44 25) (0 : Int32) v_w_44 hF _ _ hP hD hS _ (lv_sub hl [1] rfl)
  have B43 : ∀ (v_w_43 : (Nat → Int32)), f_X4_leaveTrail_43 v_w_43 = some o_w → ∀ (H : Heap) (locs : List Loc), va_P (dC, dI) vwCl [(aM, .inr (4, [.ref a_w, .ref a_past, .int v_pastMany, .ref a_images, .int v_filled, .ref a_text, .int v_length, .int v_faultKind, .int v_faultPlace, .ref a_rowOf, .int v_rows, .int v_wrongKind, .int v_wrongPlace, .int v_readWords, .int v_readPassages, .ref a_readLetter, .ref a_readCue, .ref a_readPassage, .ref a_held])), (a_w, .inl (cI, 510, .inl v_w_43)), (a_past, .inl (cI, 4080, .inl v_past)), (a_images, .inl (cI, 1020, .inl v_images)), (a_text, .inl (cI, 140, .inl v_text)), (a_rowOf, .inl (cI, 120, .inl v_rowOf)), (a_readLetter, .inl (cI, 120, .inl v_readLetter)), (a_readCue, .inl (cI, 120, .inl v_readCue)), (a_readPassage, .inl (cI, 120, .inl v_readPassage)), (a_held, .inl (cI, 510, .inl v_held))] H → va_D A [(aM, .inr (4, [.ref a_w, .ref a_past, .int v_pastMany, .ref a_images, .int v_filled, .ref a_text, .int v_length, .int v_faultKind, .int v_faultPlace, .ref a_rowOf, .int v_rows, .int v_wrongKind, .int v_wrongPlace, .int v_readWords, .int v_readPassages, .ref a_readLetter, .ref a_readCue, .ref a_readPassage, .ref a_held])), (a_w, .inl (cI, 510, .inl v_w_43)), (a_past, .inl (cI, 4080, .inl v_past)), (a_images, .inl (cI, 1020, .inl v_images)), (a_text, .inl (cI, 140, .inl v_text)), (a_rowOf, .inl (cI, 120, .inl v_rowOf)), (a_readLetter, .inl (cI, 120, .inl v_readLetter)), (a_readCue, .inl (cI, 120, .inl v_readCue)), (a_readPassage, .inl (cI, 120, .inl v_readPassage)), (a_held, .inl (cI, 510, .inl v_held))] → va_S A s.heap H locs → ∀ ls : Array Slot, lv_has ls 3 [(0, .ref aM)] → W p l e (headSpec wsX4_leaveTrail rm_X4_leaveTrail).room s m ([.ref aM] : List Value).toArray below meth c H locs 0 0 Q (F0 m 43 ls []) := by
    intro v_w_43 hF H locs hP hD hS ls hl
    unfold f_X4_leaveTrail_43 at hF
    refine lv_iconst (v := (0 : Int32)) hx hb dX4_leaveTrail_43 (by decide) ?_
    exact B44 (0 : Int32) v_w_43 hF _ _ hP hD hS _ (lv_sub hl [0] rfl)
  unfold f_X4_leaveTrail at hF
  refine lv_aload_n hx hb dX4_leaveTrail_0 rfl (lv_at hl 0 rfl) ?_
  refine va_get (D := (dC, dI)) (ci := 4) (v := .ref a_w) (C := RX4) (T := TX4) (N := 19) hx hb hts inX4 hown hK hP 0 rfl rfl 0 (by decide) fl7 (fun _ h9 => h9) rfl dX4_leaveTrail_1 ?_
  refine lv_bipush (v := (25 : Int32)) hx hb dX4_leaveTrail_4 (by decide) ?_
  refine va_ialdK hx hb hK hP 1 0 rfl rfl (inK (by decide)) (j := 25) (by decide) dX4_leaveTrail_6 ?_
  refine lv_if_le (tgt := 43) hx hb dX4_leaveTrail_7 (by decide) (fun c_7 => ?_) (fun c_7 => ?_)
  · have hF := (if_pos c_7).symm.trans hF
    exact B43 v_w hF _ _ hP hD hS _ (lv_sub hl [0] rfl)
  · have hF := (if_neg c_7).symm.trans hF
    refine lv_aload_n hx hb dX4_leaveTrail_10 rfl (lv_at hl 0 rfl) ?_
    refine va_get (D := (dC, dI)) (ci := 4) (v := .ref a_w) (C := RX4) (T := TX4) (N := 19) hx hb hts inX4 hown hK hP 0 rfl rfl 0 (by decide) fl7 (fun _ h9 => h9) rfl dX4_leaveTrail_11 ?_
    refine lv_bipush (v := (26 : Int32)) hx hb dX4_leaveTrail_14 (by decide) ?_
    refine lv_iconst (v := (2 : Int32)) hx hb dX4_leaveTrail_16 (by decide) ?_
    refine lv_aload_n hx hb dX4_leaveTrail_17 rfl (lv_at hl 0 rfl) ?_
    refine va_get (D := (dC, dI)) (ci := 4) (v := .ref a_w) (C := RX4) (T := TX4) (N := 19) hx hb hts inX4 hown hK hP 0 rfl rfl 0 (by decide) fl7 (fun _ h9 => h9) rfl dX4_leaveTrail_18 ?_
    refine lv_bipush (v := (25 : Int32)) hx hb dX4_leaveTrail_21 (by decide) ?_
    refine va_ialdK hx hb hK hP 1 0 rfl rfl (inK (by decide)) (j := 25) (by decide) dX4_leaveTrail_23 ?_
    refine lv_imul hx hb dX4_leaveTrail_24 ?_
    refine lv_iadd hx hb dX4_leaveTrail_25 ?_
    refine lv_iconst (v := (2 : Int32)) hx hb dX4_leaveTrail_26 (by decide) ?_
    refine lv_isub hx hb dX4_leaveTrail_27 ?_
    by_cases b_28 : ((((26 : Int32) + ((2 : Int32) * (v_w 25))) - (2 : Int32)) < 0 ∨ 510 ≤ ((((26 : Int32) + ((2 : Int32) * (v_w 25))) - (2 : Int32))).toNatClampNeg)
    · exact noneE ((if_pos b_28).symm.trans hF)
    have hF := (if_neg b_28).symm.trans hF
    refine va_iald hx hb hK hP 1 0 rfl rfl b_28 dX4_leaveTrail_28 ?_
    refine lv_aload_n hx hb dX4_leaveTrail_29 rfl (lv_at hl 0 rfl) ?_
    refine va_get (D := (dC, dI)) (ci := 4) (v := .ref a_w) (C := RX4) (T := TX4) (N := 19) hx hb hts inX4 hown hK hP 0 rfl rfl 0 (by decide) fl7 (fun _ h9 => h9) rfl dX4_leaveTrail_30 ?_
    refine lv_bipush (v := (10 : Int32)) hx hb dX4_leaveTrail_33 (by decide) ?_
    refine va_ialdK hx hb hK hP 1 0 rfl rfl (inK (by decide)) (j := 10) (by decide) dX4_leaveTrail_35 ?_
    refine lv_icmp_ne (tgt := 43) hx hb dX4_leaveTrail_36 (by decide) (fun c_36 => ?_) (fun c_36 => ?_)
    · have hF := (if_neg c_36).symm.trans hF
      exact B43 v_w hF _ _ hP hD hS _ (lv_sub hl [0] rfl)
    · have hF := (if_pos c_36).symm.trans hF
      refine lv_iconst (v := (1 : Int32)) hx hb dX4_leaveTrail_39 (by decide) ?_
      refine lv_goto (tgt := 44) hx hb dX4_leaveTrail_40 (by decide) ?_
      exact B44 (1 : Int32) v_w hF _ _ hP hD hS _ (lv_sub hl [0] rfl)
def f_X4_follow_97 (x1 : Int32) : Nat → Int32 → (Nat → Int32) → Option (Nat → Int32)
  | 0, _, _ => none
  | n + 1, x2, v_w =>
    if x1 ≤ x2 then
      (f_X4_leaveTrail v_w).bind fun q145 =>
      some q145
    else
      if ((270 : Int32) + x2) < 0 ∨ 510 ≤ (((270 : Int32) + x2)).toNatClampNeg then none else
      if (v_w ((((270 : Int32) + x2)).toNatClampNeg)) = (1 : Int32) then
        if ((270 : Int32) + x2) < 0 ∨ 510 ≤ (((270 : Int32) + x2)).toNatClampNeg then none else
        (some (upd v_w ((((270 : Int32) + x2)).toNatClampNeg) (3 : Int32))).bind fun a126 =>
        (some (upd a126 19 ((a126 19) + (1 : Int32)))).bind fun a137 =>
        f_X4_follow_97 x1 n (x2 + 1) a137
      else
        f_X4_follow_97 x1 n (x2 + 1) v_w
def f_X4_follow_71 (x1 : Int32) (v_w : (Nat → Int32)) : Option (Nat → Int32) :=
  (some (upd v_w 11 (x1 + (1 : Int32)))).bind fun a80 =>
    (some (upd a80 13 (a80 10))).bind fun a94 =>
    f_X4_follow_97 x1 gas (0 : Int32) a94
def f_X4_follow_61 (x1 : Int32) (s1 : Int32) (s2 : Int32) (s3 : Int32) (v_w : (Nat → Int32)) : Option (Nat → Int32) :=
  if s1 < 0 ∨ 510 ≤ s1.toNatClampNeg then none else
    (some (upd v_w s1.toNatClampNeg (s2 + s3))).bind fun a62 =>
    (some (upd a62 25 (0 : Int32))).bind fun a70 =>
    f_X4_follow_71 x1 a70
def f_X4_follow_35 (x1 : Int32) (s1 : Int32) (s2 : Int32) (s3 : Int32) (v_w : (Nat → Int32)) : Option (Nat → Int32) :=
  if s1 < 0 ∨ 510 ≤ s1.toNatClampNeg then none else
    (some (upd v_w s1.toNatClampNeg (s2 + s3))).bind fun a36 =>
    if (a36 11) ≤ x1 then
      f_X4_follow_61 x1 (16 : Int32) (a36 16) (0 : Int32) a36
    else
      f_X4_follow_61 x1 (16 : Int32) (a36 16) (1 : Int32) a36
def f_X4_follow (p1 : Int32) (v_w : (Nat → Int32)) : Option (Nat → Int32) :=
  if p1 = (v_w 11) then
    f_X4_follow_71 p1 v_w
  else
    if p1 ≤ (v_w 11) then
      f_X4_follow_35 p1 (15 : Int32) (v_w 15) (0 : Int32) v_w
    else
      f_X4_follow_35 p1 (15 : Int32) (v_w 15) (1 : Int32) v_w
def rm_X4_follow : Room := { frames := 1, cells := 0, slots := 0, locals := 22 }
set_option maxHeartbeats 4000000 in
set_option maxRecDepth 100000 in
theorem c_X4_follow (l : Launch) (dC : Nat → ClassId) (dI : Nat → Nat → Nat) (cI cZ cO : ClassId) (aM a_w a_past a_images a_text a_rowOf a_readLetter a_readCue a_readPassage a_held : Nat) (sz : Nat) (p1 : Int32) (v_w : (Nat → Int32)) (v_past : (Nat → Int32)) (v_pastMany : Int32) (v_images : (Nat → Int32)) (v_filled : Int32) (v_text : (Nat → Int32)) (v_length : Int32) (v_faultKind : Int32) (v_faultPlace : Int32) (v_rowOf : (Nat → Int32)) (v_rows : Int32) (v_wrongKind : Int32) (v_wrongPlace : Int32) (v_readWords : Int32) (v_readPassages : Int32) (v_readLetter : (Nat → Int32)) (v_readCue : (Nat → Int32)) (v_readPassage : (Nat → Int32)) (v_held : (Nat → Int32)) (o_w : (Nat → Int32)) (hF : f_X4_follow p1 v_w = some o_w) : Met l yX4_follow wsX4_follow rm_X4_follow (va_Pc [.ref aM, .int p1] (wrW dC dI cI cZ cO sz [(aM, .inr (4, [.ref a_w, .ref a_past, .int v_pastMany, .ref a_images, .int v_filled, .ref a_text, .int v_length, .int v_faultKind, .int v_faultPlace, .ref a_rowOf, .int v_rows, .int v_wrongKind, .int v_wrongPlace, .int v_readWords, .int v_readPassages, .ref a_readLetter, .ref a_readCue, .ref a_readPassage, .ref a_held])), (a_w, .inl (cI, 510, .inl v_w)), (a_past, .inl (cI, 4080, .inl v_past)), (a_images, .inl (cI, 1020, .inl v_images)), (a_text, .inl (cI, 140, .inl v_text)), (a_rowOf, .inl (cI, 120, .inl v_rowOf)), (a_readLetter, .inl (cI, 120, .inl v_readLetter)), (a_readCue, .inl (cI, 120, .inl v_readCue)), (a_readPassage, .inl (cI, 120, .inl v_readPassage)), (a_held, .inl (cI, 510, .inl v_held))])) (va_Qv (fun (_ : Unit) => True) (wrE dC dI [(aM, .inr (4, [.ref a_w, .ref a_past, .int v_pastMany, .ref a_images, .int v_filled, .ref a_text, .int v_length, .int v_faultKind, .int v_faultPlace, .ref a_rowOf, .int v_rows, .int v_wrongKind, .int v_wrongPlace, .int v_readWords, .int v_readPassages, .ref a_readLetter, .ref a_readCue, .ref a_readPassage, .ref a_held])), (a_w, .inl (cI, 510, .inl v_w)), (a_past, .inl (cI, 4080, .inl v_past)), (a_images, .inl (cI, 1020, .inl v_images)), (a_text, .inl (cI, 140, .inl v_text)), (a_rowOf, .inl (cI, 120, .inl v_rowOf)), (a_readLetter, .inl (cI, 120, .inl v_readLetter)), (a_readCue, .inl (cI, 120, .inl v_readCue)), (a_readPassage, .inl (cI, 120, .inl v_readPassage)), (a_held, .inl (cI, 510, .inl v_held))] sz [(aM, .inr (4, [.ref a_w, .ref a_past, .int v_pastMany, .ref a_images, .int v_filled, .ref a_text, .int v_length, .int v_faultKind, .int v_faultPlace, .ref a_rowOf, .int v_rows, .int v_wrongKind, .int v_wrongPlace, .int v_readWords, .int v_readPassages, .ref a_readLetter, .ref a_readCue, .ref a_readPassage, .ref a_held])), (a_w, .inl (cI, 510, .inl o_w)), (a_past, .inl (cI, 4080, .inl v_past)), (a_images, .inl (cI, 1020, .inl v_images)), (a_text, .inl (cI, 140, .inl v_text)), (a_rowOf, .inl (cI, 120, .inl v_rowOf)), (a_readLetter, .inl (cI, 120, .inl v_readLetter)), (a_readCue, .inl (cI, 120, .inl v_readCue)), (a_readPassage, .inl (cI, 120, .inl v_readPassage)), (a_held, .inl (cI, 510, .inl v_held))]) (va_A [(aM, .inr (4, [.ref a_w, .ref a_past, .int v_pastMany, .ref a_images, .int v_filled, .ref a_text, .int v_length, .int v_faultKind, .int v_faultPlace, .ref a_rowOf, .int v_rows, .int v_wrongKind, .int v_wrongPlace, .int v_readWords, .int v_readPassages, .ref a_readLetter, .ref a_readCue, .ref a_readPassage, .ref a_held])), (a_w, .inl (cI, 510, .inl v_w)), (a_past, .inl (cI, 4080, .inl v_past)), (a_images, .inl (cI, 1020, .inl v_images)), (a_text, .inl (cI, 140, .inl v_text)), (a_rowOf, .inl (cI, 120, .inl v_rowOf)), (a_readLetter, .inl (cI, 120, .inl v_readLetter)), (a_readCue, .inl (cI, 120, .inl v_readCue)), (a_readPassage, .inl (cI, 120, .inl v_readPassage)), (a_held, .inl (cI, 510, .inl v_held))] sz)) 0 0 (va_A [(aM, .inr (4, [.ref a_w, .ref a_past, .int v_pastMany, .ref a_images, .int v_filled, .ref a_text, .int v_length, .int v_faultKind, .int v_faultPlace, .ref a_rowOf, .int v_rows, .int v_wrongKind, .int v_wrongPlace, .int v_readWords, .int v_readPassages, .ref a_readLetter, .ref a_readCue, .ref a_readPassage, .ref a_held])), (a_w, .inl (cI, 510, .inl v_w)), (a_past, .inl (cI, 4080, .inl v_past)), (a_images, .inl (cI, 1020, .inl v_images)), (a_text, .inl (cI, 140, .inl v_text)), (a_rowOf, .inl (cI, 120, .inl v_rowOf)), (a_readLetter, .inl (cI, 120, .inl v_readLetter)), (a_readCue, .inl (cI, 120, .inl v_readCue)), (a_readPassage, .inl (cI, 120, .inl v_readPassage)), (a_held, .inl (cI, 510, .inl v_held))] sz) := by
  refine Met.ofW (cc := cX4_follow) (maxL := 3) (ret := none) (by decide) rfl ?_
  intro p e s m args below meth c s₁ B hml hv
  obtain ⟨rfl, hsz, hP, hK, hN, hD0⟩ := hv
  have hx := B.exec
  have hb := B.bytes
  have hr := B.returns
  have hts := atoms_spec (ws := wsX4_follow) B.pre
  have hown : s.vm.findClass RX4 = some m.cls := findClass_of_methodNamed B.named
  have hlocks := B.notSynchronized
  subst hsz
  have hD := hD0.self (sz := s.heap.size)
  obtain ⟨Q, hQ⟩ : ∃ Q, Q = MQ below (va_Qv (fun (_ : Unit) => True) (wrE dC dI [(aM, .inr (4, [.ref a_w, .ref a_past, .int v_pastMany, .ref a_images, .int v_filled, .ref a_text, .int v_length, .int v_faultKind, .int v_faultPlace, .ref a_rowOf, .int v_rows, .int v_wrongKind, .int v_wrongPlace, .int v_readWords, .int v_readPassages, .ref a_readLetter, .ref a_readCue, .ref a_readPassage, .ref a_held])), (a_w, .inl (cI, 510, .inl v_w)), (a_past, .inl (cI, 4080, .inl v_past)), (a_images, .inl (cI, 1020, .inl v_images)), (a_text, .inl (cI, 140, .inl v_text)), (a_rowOf, .inl (cI, 120, .inl v_rowOf)), (a_readLetter, .inl (cI, 120, .inl v_readLetter)), (a_readCue, .inl (cI, 120, .inl v_readCue)), (a_readPassage, .inl (cI, 120, .inl v_readPassage)), (a_held, .inl (cI, 510, .inl v_held))] s.heap.size [(aM, .inr (4, [.ref a_w, .ref a_past, .int v_pastMany, .ref a_images, .int v_filled, .ref a_text, .int v_length, .int v_faultKind, .int v_faultPlace, .ref a_rowOf, .int v_rows, .int v_wrongKind, .int v_wrongPlace, .int v_readWords, .int v_readPassages, .ref a_readLetter, .ref a_readCue, .ref a_readPassage, .ref a_held])), (a_w, .inl (cI, 510, .inl o_w)), (a_past, .inl (cI, 4080, .inl v_past)), (a_images, .inl (cI, 1020, .inl v_images)), (a_text, .inl (cI, 140, .inl v_text)), (a_rowOf, .inl (cI, 120, .inl v_rowOf)), (a_readLetter, .inl (cI, 120, .inl v_readLetter)), (a_readCue, .inl (cI, 120, .inl v_readCue)), (a_readPassage, .inl (cI, 120, .inl v_readPassage)), (a_held, .inl (cI, 510, .inl v_held))]) (va_A [(aM, .inr (4, [.ref a_w, .ref a_past, .int v_pastMany, .ref a_images, .int v_filled, .ref a_text, .int v_length, .int v_faultKind, .int v_faultPlace, .ref a_rowOf, .int v_rows, .int v_wrongKind, .int v_wrongPlace, .int v_readWords, .int v_readPassages, .ref a_readLetter, .ref a_readCue, .ref a_readPassage, .ref a_held])), (a_w, .inl (cI, 510, .inl v_w)), (a_past, .inl (cI, 4080, .inl v_past)), (a_images, .inl (cI, 1020, .inl v_images)), (a_text, .inl (cI, 140, .inl v_text)), (a_rowOf, .inl (cI, 120, .inl v_rowOf)), (a_readLetter, .inl (cI, 120, .inl v_readLetter)), (a_readCue, .inl (cI, 120, .inl v_readCue)), (a_readPassage, .inl (cI, 120, .inl v_readPassage)), (a_held, .inl (cI, 510, .inl v_held))] s.heap.size)) ([.ref aM, .int p1] : List Value).toArray s 0 0 (va_A [(aM, .inr (4, [.ref a_w, .ref a_past, .int v_pastMany, .ref a_images, .int v_filled, .ref a_text, .int v_length, .int v_faultKind, .int v_faultPlace, .ref a_rowOf, .int v_rows, .int v_wrongKind, .int v_wrongPlace, .int v_readWords, .int v_readPassages, .ref a_readLetter, .ref a_readCue, .ref a_readPassage, .ref a_held])), (a_w, .inl (cI, 510, .inl v_w)), (a_past, .inl (cI, 4080, .inl v_past)), (a_images, .inl (cI, 1020, .inl v_images)), (a_text, .inl (cI, 140, .inl v_text)), (a_rowOf, .inl (cI, 120, .inl v_rowOf)), (a_readLetter, .inl (cI, 120, .inl v_readLetter)), (a_readCue, .inl (cI, 120, .inl v_readCue)), (a_readPassage, .inl (cI, 120, .inl v_readPassage)), (a_held, .inl (cI, 510, .inl v_held))] s.heap.size) := ⟨_, rfl⟩
  rw [← hQ]
  obtain ⟨A, hAe⟩ : ∃ A, A = va_A [(aM, .inr (4, [.ref a_w, .ref a_past, .int v_pastMany, .ref a_images, .int v_filled, .ref a_text, .int v_length, .int v_faultKind, .int v_faultPlace, .ref a_rowOf, .int v_rows, .int v_wrongKind, .int v_wrongPlace, .int v_readWords, .int v_readPassages, .ref a_readLetter, .ref a_readCue, .ref a_readPassage, .ref a_held])), (a_w, .inl (cI, 510, .inl v_w)), (a_past, .inl (cI, 4080, .inl v_past)), (a_images, .inl (cI, 1020, .inl v_images)), (a_text, .inl (cI, 140, .inl v_text)), (a_rowOf, .inl (cI, 120, .inl v_rowOf)), (a_readLetter, .inl (cI, 120, .inl v_readLetter)), (a_readCue, .inl (cI, 120, .inl v_readCue)), (a_readPassage, .inl (cI, 120, .inl v_readPassage)), (a_held, .inl (cI, 510, .inl v_held))] s.heap.size := ⟨_, rfl⟩
  rw [← hAe] at hD
  have hA : ∀ q : Nat, s.heap.size ≤ q → A q := fun q h => by rw [hAe]; exact Or.inr h
  obtain ⟨H, hH⟩ : ∃ H, H = s.heap := ⟨_, rfl⟩
  have hS : va_S A s.heap H [] := by rw [hH]; exact va_S.rf
  rw [← hH] at hP
  rw [← hH]
  have fl7 := hts (.fieldLink RX4 7 "TeleprompterModel" "w" "[I") (by decide +kernel)
  have inX4 : ∀ w ∈ u_ws RX4 TX4 19, w ∈ wsX4_follow := by decide +kernel
  have hl := lv_entry ([.ref aM, .int p1]) (n := 3) (Nat.le_of_ble_eq_true rfl)
  rw [lg_entry_eq]
  generalize (lg_sl ([.ref aM, .int p1]) ++ List.replicate (3 - (lg_sl ([.ref aM, .int p1])).length) Slot.unset).toArray = ls at hl ⊢
  have hl : lv_has ls 3 [(0, .ref aM), (1, .int p1)] := hl
  have B97 : ∀ (n_97 : Nat) (x1_97 : Int32) (x2_97 : Int32) (v_w_97 : (Nat → Int32)), f_X4_follow_97 x1_97 n_97 x2_97 v_w_97 = some o_w → ∀ (H : Heap) (locs : List Loc), va_P (dC, dI) vwCl [(aM, .inr (4, [.ref a_w, .ref a_past, .int v_pastMany, .ref a_images, .int v_filled, .ref a_text, .int v_length, .int v_faultKind, .int v_faultPlace, .ref a_rowOf, .int v_rows, .int v_wrongKind, .int v_wrongPlace, .int v_readWords, .int v_readPassages, .ref a_readLetter, .ref a_readCue, .ref a_readPassage, .ref a_held])), (a_w, .inl (cI, 510, .inl v_w_97)), (a_past, .inl (cI, 4080, .inl v_past)), (a_images, .inl (cI, 1020, .inl v_images)), (a_text, .inl (cI, 140, .inl v_text)), (a_rowOf, .inl (cI, 120, .inl v_rowOf)), (a_readLetter, .inl (cI, 120, .inl v_readLetter)), (a_readCue, .inl (cI, 120, .inl v_readCue)), (a_readPassage, .inl (cI, 120, .inl v_readPassage)), (a_held, .inl (cI, 510, .inl v_held))] H → va_D A [(aM, .inr (4, [.ref a_w, .ref a_past, .int v_pastMany, .ref a_images, .int v_filled, .ref a_text, .int v_length, .int v_faultKind, .int v_faultPlace, .ref a_rowOf, .int v_rows, .int v_wrongKind, .int v_wrongPlace, .int v_readWords, .int v_readPassages, .ref a_readLetter, .ref a_readCue, .ref a_readPassage, .ref a_held])), (a_w, .inl (cI, 510, .inl v_w_97)), (a_past, .inl (cI, 4080, .inl v_past)), (a_images, .inl (cI, 1020, .inl v_images)), (a_text, .inl (cI, 140, .inl v_text)), (a_rowOf, .inl (cI, 120, .inl v_rowOf)), (a_readLetter, .inl (cI, 120, .inl v_readLetter)), (a_readCue, .inl (cI, 120, .inl v_readCue)), (a_readPassage, .inl (cI, 120, .inl v_readPassage)), (a_held, .inl (cI, 510, .inl v_held))] → va_S A s.heap H locs → ∀ ls : Array Slot, lv_has ls 3 [(0, .ref aM), (1, .int x1_97), (2, .int x2_97)] → W p l e (headSpec wsX4_follow rm_X4_follow).room s m ([.ref aM, .int p1] : List Value).toArray below meth c H locs 0 0 Q (F0 m 97 ls []) := by
    intro n_97
    induction n_97 with
    | zero => intro x1_97 x2_97 v_w_97 hF; exact noneE hF
    | succ n_97 ih97 =>
      intro x1_97 x2_97 v_w_97 hF H locs hP hD hS ls hl
      rw [f_X4_follow_97] at hF
      refine lv_iload_n hx hb dX4_follow_97 rfl (lv_at hl 2 rfl) ?_
      refine lv_iload_n hx hb dX4_follow_98 rfl (lv_at hl 1 rfl) ?_
      refine lv_icmp_ge (tgt := 144) hx hb dX4_follow_99 (by decide) (fun c_99 => ?_) (fun c_99 => ?_)
      · have hF := (if_pos c_99).symm.trans hF
        refine lv_aload_n hx hb dX4_follow_144 rfl (lv_at hl 0 rfl) ?_
        obtain ⟨q_145, hq_145, hF⟩ := bindE hF
        have hPc := hP
        have hDc := hD
        have hFc := va_free (wc := [(aM, .inr (4, [.ref a_w, .ref a_past, .int v_pastMany, .ref a_images, .int v_filled, .ref a_text, .int v_length, .int v_faultKind, .int v_faultPlace, .ref a_rowOf, .int v_rows, .int v_wrongKind, .int v_wrongPlace, .int v_readWords, .int v_readPassages, .ref a_readLetter, .ref a_readCue, .ref a_readPassage, .ref a_held])), (a_w, .inl (cI, 510, .inl v_w_97)), (a_past, .inl (cI, 4080, .inl v_past)), (a_images, .inl (cI, 1020, .inl v_images)), (a_text, .inl (cI, 140, .inl v_text)), (a_rowOf, .inl (cI, 120, .inl v_rowOf)), (a_readLetter, .inl (cI, 120, .inl v_readLetter)), (a_readCue, .inl (cI, 120, .inl v_readCue)), (a_readPassage, .inl (cI, 120, .inl v_readPassage)), (a_held, .inl (cI, 510, .inl v_held))]) hD hS hA [0, 1, 2, 3, 4, 5, 6, 7, 8, 9] rfl
        refine va_callv (va_runV (As := []) (rest := []) ⟨hx, hb, hml, hown, hts⟩ (c_X4_leaveTrail l dC dI cI cZ cO aM a_w a_past a_images a_text a_rowOf a_readLetter a_readCue a_readPassage a_held H.size v_w_97 v_past v_pastMany v_images v_filled v_text v_length v_faultKind v_faultPlace v_rowOf v_rows v_wrongKind v_wrongPlace v_readWords v_readPassages v_readLetter v_readCue v_readPassage v_held q_145 hq_145) (cwV 0 hts gX4_follow_X4_leaveTrail rfl rfl rfl (by decide +kernel) ⟨Nat.le_of_ble_eq_true rfl, Nat.le_of_ble_eq_true rfl⟩) ⟨fb_wr, va_recv hK hPc (ci := 4) (q0 := 0) rfl rfl, pre_wr hPc hK hN hDc⟩ rfl rfl hl.1 rfl (lv_room (Nat.le_of_ble_eq_true rfl)) dX4_follow_145 ⟨Nat.zero_le _, Nat.zero_le _⟩) hS (fun q _ h => hFc q h) hFc (fun _ t H1 locs ht hvm hw hB hz1 hk1 hS => ?_)
        obtain ⟨hP1, hD1⟩ := hB
        rw [ht] at hP1
        obtain ⟨hP, hD⟩ := va_join (wr := []) (w1 := [(aM, .inr (4, [.ref a_w, .ref a_past, .int v_pastMany, .ref a_images, .int v_filled, .ref a_text, .int v_length, .int v_faultKind, .int v_faultPlace, .ref a_rowOf, .int v_rows, .int v_wrongKind, .int v_wrongPlace, .int v_readWords, .int v_readPassages, .ref a_readLetter, .ref a_readCue, .ref a_readPassage, .ref a_held])), (a_w, .inl (cI, 510, .inl q_145)), (a_past, .inl (cI, 4080, .inl v_past)), (a_images, .inl (cI, 1020, .inl v_images)), (a_text, .inl (cI, 140, .inl v_text)), (a_rowOf, .inl (cI, 120, .inl v_rowOf)), (a_readLetter, .inl (cI, 120, .inl v_readLetter)), (a_readCue, .inl (cI, 120, .inl v_readCue)), (a_readPassage, .inl (cI, 120, .inl v_readPassage)), (a_held, .inl (cI, 510, .inl v_held))]) hP hD [0, 1, 2, 3, 4, 5, 6, 7, 8, 9] [] rfl rfl (by decide) (by decide) hk1 hFc hP1 hD1
        generalize H1 = H at hP hS ⊢
        have hP : va_P (dC, dI) vwCl [(aM, .inr (4, [.ref a_w, .ref a_past, .int v_pastMany, .ref a_images, .int v_filled, .ref a_text, .int v_length, .int v_faultKind, .int v_faultPlace, .ref a_rowOf, .int v_rows, .int v_wrongKind, .int v_wrongPlace, .int v_readWords, .int v_readPassages, .ref a_readLetter, .ref a_readCue, .ref a_readPassage, .ref a_held])), (a_w, .inl (cI, 510, .inl q_145)), (a_past, .inl (cI, 4080, .inl v_past)), (a_images, .inl (cI, 1020, .inl v_images)), (a_text, .inl (cI, 140, .inl v_text)), (a_rowOf, .inl (cI, 120, .inl v_rowOf)), (a_readLetter, .inl (cI, 120, .inl v_readLetter)), (a_readCue, .inl (cI, 120, .inl v_readCue)), (a_readPassage, .inl (cI, 120, .inl v_readPassage)), (a_held, .inl (cI, 510, .inl v_held))] H := hP
        have hD : va_D A [(aM, .inr (4, [.ref a_w, .ref a_past, .int v_pastMany, .ref a_images, .int v_filled, .ref a_text, .int v_length, .int v_faultKind, .int v_faultPlace, .ref a_rowOf, .int v_rows, .int v_wrongKind, .int v_wrongPlace, .int v_readWords, .int v_readPassages, .ref a_readLetter, .ref a_readCue, .ref a_readPassage, .ref a_held])), (a_w, .inl (cI, 510, .inl q_145)), (a_past, .inl (cI, 4080, .inl v_past)), (a_images, .inl (cI, 1020, .inl v_images)), (a_text, .inl (cI, 140, .inl v_text)), (a_rowOf, .inl (cI, 120, .inl v_rowOf)), (a_readLetter, .inl (cI, 120, .inl v_readLetter)), (a_readCue, .inl (cI, 120, .inl v_readCue)), (a_readPassage, .inl (cI, 120, .inl v_readPassage)), (a_held, .inl (cI, 510, .inl v_held))] := hD
        have hF : some q_145 = some o_w := hF
        have hP9 := hP
        have hD9 := hD
        cases hF
        subst hQ
        subst hAe
        exact W.vret hx hb hr (fun t ht hW => ⟨⟨(), rfl, trivial, ⟨by rw [ht]; exact hP9, hD9⟩⟩, hS.F ht⟩) hS.2.2 dX4_follow_148
      · have hF := (if_neg c_99).symm.trans hF
        refine lv_aload_n hx hb dX4_follow_102 rfl (lv_at hl 0 rfl) ?_
        refine va_get (D := (dC, dI)) (ci := 4) (v := .ref a_w) (C := RX4) (T := TX4) (N := 19) hx hb hts inX4 hown hK hP 0 rfl rfl 0 (by decide) fl7 (fun _ h9 => h9) rfl dX4_follow_103 ?_
        refine lv_sipush (v := (270 : Int32)) hx hb dX4_follow_106 (by decide) ?_
        refine lv_iload_n hx hb dX4_follow_109 rfl (lv_at hl 2 rfl) ?_
        refine lv_iadd hx hb dX4_follow_110 ?_
        by_cases b_111 : (((270 : Int32) + x2_97) < 0 ∨ 510 ≤ (((270 : Int32) + x2_97)).toNatClampNeg)
        · exact noneE ((if_pos b_111).symm.trans hF)
        have hF := (if_neg b_111).symm.trans hF
        refine va_iald hx hb hK hP 1 0 rfl rfl b_111 dX4_follow_111 ?_
        refine lv_iconst (v := (1 : Int32)) hx hb dX4_follow_112 (by decide) ?_
        refine lv_icmp_ne (tgt := 138) hx hb dX4_follow_113 (by decide) (fun c_113 => ?_) (fun c_113 => ?_)
        · have hF := (if_neg c_113).symm.trans hF
          refine lv_iinc (v := (x2_97 + 1)) (lv' := [(2, .int (x2_97 + 1)), (0, .ref aM), (1, .int x1_97)]) hx hb dX4_follow_138 hl (k := 2) rfl rfl (by decide) rfl (fun ls hl => ?_)
          refine lv_goto (tgt := 97) hx hb dX4_follow_141 (by decide) ?_
          exact ih97 x1_97 (x2_97 + 1) v_w_97 hF _ _ hP hD hS _ (lv_sub hl [1, 2, 0] rfl)
        · have hF := (if_pos c_113).symm.trans hF
          refine lv_aload_n hx hb dX4_follow_116 rfl (lv_at hl 0 rfl) ?_
          refine va_get (D := (dC, dI)) (ci := 4) (v := .ref a_w) (C := RX4) (T := TX4) (N := 19) hx hb hts inX4 hown hK hP 0 rfl rfl 0 (by decide) fl7 (fun _ h9 => h9) rfl dX4_follow_117 ?_
          refine lv_sipush (v := (270 : Int32)) hx hb dX4_follow_120 (by decide) ?_
          refine lv_iload_n hx hb dX4_follow_123 rfl (lv_at hl 2 rfl) ?_
          refine lv_iadd hx hb dX4_follow_124 ?_
          refine lv_iconst (v := (3 : Int32)) hx hb dX4_follow_125 (by decide) ?_
          by_cases b_126 : (((270 : Int32) + x2_97) < 0 ∨ 510 ≤ (((270 : Int32) + x2_97)).toNatClampNeg)
          · exact noneE ((if_pos b_126).symm.trans hF)
          have hF := (if_neg b_126).symm.trans hF
          refine va_iast hx hb hK hP hD hS 1 0 rfl rfl b_126 dX4_follow_126 (fun H locs hP hD hS => ?_)
          have hP : va_P (dC, dI) vwCl [(aM, .inr (4, [.ref a_w, .ref a_past, .int v_pastMany, .ref a_images, .int v_filled, .ref a_text, .int v_length, .int v_faultKind, .int v_faultPlace, .ref a_rowOf, .int v_rows, .int v_wrongKind, .int v_wrongPlace, .int v_readWords, .int v_readPassages, .ref a_readLetter, .ref a_readCue, .ref a_readPassage, .ref a_held])), (a_w, .inl (cI, 510, .inl (upd v_w_97 ((((270 : Int32) + x2_97)).toNatClampNeg) (3 : Int32)))), (a_past, .inl (cI, 4080, .inl v_past)), (a_images, .inl (cI, 1020, .inl v_images)), (a_text, .inl (cI, 140, .inl v_text)), (a_rowOf, .inl (cI, 120, .inl v_rowOf)), (a_readLetter, .inl (cI, 120, .inl v_readLetter)), (a_readCue, .inl (cI, 120, .inl v_readCue)), (a_readPassage, .inl (cI, 120, .inl v_readPassage)), (a_held, .inl (cI, 510, .inl v_held))] H := hP
          have hD : va_D A [(aM, .inr (4, [.ref a_w, .ref a_past, .int v_pastMany, .ref a_images, .int v_filled, .ref a_text, .int v_length, .int v_faultKind, .int v_faultPlace, .ref a_rowOf, .int v_rows, .int v_wrongKind, .int v_wrongPlace, .int v_readWords, .int v_readPassages, .ref a_readLetter, .ref a_readCue, .ref a_readPassage, .ref a_held])), (a_w, .inl (cI, 510, .inl (upd v_w_97 ((((270 : Int32) + x2_97)).toNatClampNeg) (3 : Int32)))), (a_past, .inl (cI, 4080, .inl v_past)), (a_images, .inl (cI, 1020, .inl v_images)), (a_text, .inl (cI, 140, .inl v_text)), (a_rowOf, .inl (cI, 120, .inl v_rowOf)), (a_readLetter, .inl (cI, 120, .inl v_readLetter)), (a_readCue, .inl (cI, 120, .inl v_readCue)), (a_readPassage, .inl (cI, 120, .inl v_readPassage)), (a_held, .inl (cI, 510, .inl v_held))] := hD
          obtain ⟨a_126, ha_126, hF⟩ := bindE hF
          have ha_126 := Option.some.inj ha_126
          rw [ha_126] at hP hD
          refine lv_aload_n hx hb dX4_follow_127 rfl (lv_at hl 0 rfl) ?_
          refine va_get (D := (dC, dI)) (ci := 4) (v := .ref a_w) (C := RX4) (T := TX4) (N := 19) hx hb hts inX4 hown hK hP 0 rfl rfl 0 (by decide) fl7 (fun _ h9 => h9) rfl dX4_follow_128 ?_
          refine lv_bipush (v := (19 : Int32)) hx hb dX4_follow_131 (by decide) ?_
          refine lv_dup2_11 hx hb dX4_follow_133 rfl rfl ?_
          refine va_ialdK hx hb hK hP 1 0 rfl rfl (inK (by decide)) (j := 19) (by decide) dX4_follow_134 ?_
          refine lv_iconst (v := (1 : Int32)) hx hb dX4_follow_135 (by decide) ?_
          refine lv_iadd hx hb dX4_follow_136 ?_
          refine va_iastK hx hb hK hP hD hS 1 0 rfl rfl (inK (by decide)) (j := 19) (by decide) dX4_follow_137 (fun H locs hP hD hS => ?_)
          have hP : va_P (dC, dI) vwCl [(aM, .inr (4, [.ref a_w, .ref a_past, .int v_pastMany, .ref a_images, .int v_filled, .ref a_text, .int v_length, .int v_faultKind, .int v_faultPlace, .ref a_rowOf, .int v_rows, .int v_wrongKind, .int v_wrongPlace, .int v_readWords, .int v_readPassages, .ref a_readLetter, .ref a_readCue, .ref a_readPassage, .ref a_held])), (a_w, .inl (cI, 510, .inl (upd a_126 19 ((a_126 19) + (1 : Int32))))), (a_past, .inl (cI, 4080, .inl v_past)), (a_images, .inl (cI, 1020, .inl v_images)), (a_text, .inl (cI, 140, .inl v_text)), (a_rowOf, .inl (cI, 120, .inl v_rowOf)), (a_readLetter, .inl (cI, 120, .inl v_readLetter)), (a_readCue, .inl (cI, 120, .inl v_readCue)), (a_readPassage, .inl (cI, 120, .inl v_readPassage)), (a_held, .inl (cI, 510, .inl v_held))] H := hP
          have hD : va_D A [(aM, .inr (4, [.ref a_w, .ref a_past, .int v_pastMany, .ref a_images, .int v_filled, .ref a_text, .int v_length, .int v_faultKind, .int v_faultPlace, .ref a_rowOf, .int v_rows, .int v_wrongKind, .int v_wrongPlace, .int v_readWords, .int v_readPassages, .ref a_readLetter, .ref a_readCue, .ref a_readPassage, .ref a_held])), (a_w, .inl (cI, 510, .inl (upd a_126 19 ((a_126 19) + (1 : Int32))))), (a_past, .inl (cI, 4080, .inl v_past)), (a_images, .inl (cI, 1020, .inl v_images)), (a_text, .inl (cI, 140, .inl v_text)), (a_rowOf, .inl (cI, 120, .inl v_rowOf)), (a_readLetter, .inl (cI, 120, .inl v_readLetter)), (a_readCue, .inl (cI, 120, .inl v_readCue)), (a_readPassage, .inl (cI, 120, .inl v_readPassage)), (a_held, .inl (cI, 510, .inl v_held))] := hD
          obtain ⟨a_137, ha_137, hF⟩ := bindE hF
          have ha_137 := Option.some.inj ha_137
          rw [ha_137] at hP hD
          refine lv_iinc (v := (x2_97 + 1)) (lv' := [(2, .int (x2_97 + 1)), (0, .ref aM), (1, .int x1_97)]) hx hb dX4_follow_138 hl (k := 2) rfl rfl (by decide) rfl (fun ls hl => ?_)
          refine lv_goto (tgt := 97) hx hb dX4_follow_141 (by decide) ?_
          exact ih97 x1_97 (x2_97 + 1) a_137 hF _ _ hP hD hS _ (lv_sub hl [1, 2, 0] rfl)
  have B71 : ∀ (x1_71 : Int32) (v_w_71 : (Nat → Int32)), f_X4_follow_71 x1_71 v_w_71 = some o_w → ∀ (H : Heap) (locs : List Loc), va_P (dC, dI) vwCl [(aM, .inr (4, [.ref a_w, .ref a_past, .int v_pastMany, .ref a_images, .int v_filled, .ref a_text, .int v_length, .int v_faultKind, .int v_faultPlace, .ref a_rowOf, .int v_rows, .int v_wrongKind, .int v_wrongPlace, .int v_readWords, .int v_readPassages, .ref a_readLetter, .ref a_readCue, .ref a_readPassage, .ref a_held])), (a_w, .inl (cI, 510, .inl v_w_71)), (a_past, .inl (cI, 4080, .inl v_past)), (a_images, .inl (cI, 1020, .inl v_images)), (a_text, .inl (cI, 140, .inl v_text)), (a_rowOf, .inl (cI, 120, .inl v_rowOf)), (a_readLetter, .inl (cI, 120, .inl v_readLetter)), (a_readCue, .inl (cI, 120, .inl v_readCue)), (a_readPassage, .inl (cI, 120, .inl v_readPassage)), (a_held, .inl (cI, 510, .inl v_held))] H → va_D A [(aM, .inr (4, [.ref a_w, .ref a_past, .int v_pastMany, .ref a_images, .int v_filled, .ref a_text, .int v_length, .int v_faultKind, .int v_faultPlace, .ref a_rowOf, .int v_rows, .int v_wrongKind, .int v_wrongPlace, .int v_readWords, .int v_readPassages, .ref a_readLetter, .ref a_readCue, .ref a_readPassage, .ref a_held])), (a_w, .inl (cI, 510, .inl v_w_71)), (a_past, .inl (cI, 4080, .inl v_past)), (a_images, .inl (cI, 1020, .inl v_images)), (a_text, .inl (cI, 140, .inl v_text)), (a_rowOf, .inl (cI, 120, .inl v_rowOf)), (a_readLetter, .inl (cI, 120, .inl v_readLetter)), (a_readCue, .inl (cI, 120, .inl v_readCue)), (a_readPassage, .inl (cI, 120, .inl v_readPassage)), (a_held, .inl (cI, 510, .inl v_held))] → va_S A s.heap H locs → ∀ ls : Array Slot, lv_has ls 3 [(0, .ref aM), (1, .int x1_71)] → W p l e (headSpec wsX4_follow rm_X4_follow).room s m ([.ref aM, .int p1] : List Value).toArray below meth c H locs 0 0 Q (F0 m 71 ls []) := by
    intro x1_71 v_w_71 hF H locs hP hD hS ls hl
    unfold f_X4_follow_71 at hF
    refine lv_aload_n hx hb dX4_follow_71 rfl (lv_at hl 0 rfl) ?_
    refine va_get (D := (dC, dI)) (ci := 4) (v := .ref a_w) (C := RX4) (T := TX4) (N := 19) hx hb hts inX4 hown hK hP 0 rfl rfl 0 (by decide) fl7 (fun _ h9 => h9) rfl dX4_follow_72 ?_
    refine lv_bipush (v := (11 : Int32)) hx hb dX4_follow_75 (by decide) ?_
    refine lv_iload_n hx hb dX4_follow_77 rfl (lv_at hl 1 rfl) ?_
    refine lv_iconst (v := (1 : Int32)) hx hb dX4_follow_78 (by decide) ?_
    refine lv_iadd hx hb dX4_follow_79 ?_
    refine va_iastK hx hb hK hP hD hS 1 0 rfl rfl (inK (by decide)) (j := 11) (by decide) dX4_follow_80 (fun H locs hP hD hS => ?_)
    have hP : va_P (dC, dI) vwCl [(aM, .inr (4, [.ref a_w, .ref a_past, .int v_pastMany, .ref a_images, .int v_filled, .ref a_text, .int v_length, .int v_faultKind, .int v_faultPlace, .ref a_rowOf, .int v_rows, .int v_wrongKind, .int v_wrongPlace, .int v_readWords, .int v_readPassages, .ref a_readLetter, .ref a_readCue, .ref a_readPassage, .ref a_held])), (a_w, .inl (cI, 510, .inl (upd v_w_71 11 (x1_71 + (1 : Int32))))), (a_past, .inl (cI, 4080, .inl v_past)), (a_images, .inl (cI, 1020, .inl v_images)), (a_text, .inl (cI, 140, .inl v_text)), (a_rowOf, .inl (cI, 120, .inl v_rowOf)), (a_readLetter, .inl (cI, 120, .inl v_readLetter)), (a_readCue, .inl (cI, 120, .inl v_readCue)), (a_readPassage, .inl (cI, 120, .inl v_readPassage)), (a_held, .inl (cI, 510, .inl v_held))] H := hP
    have hD : va_D A [(aM, .inr (4, [.ref a_w, .ref a_past, .int v_pastMany, .ref a_images, .int v_filled, .ref a_text, .int v_length, .int v_faultKind, .int v_faultPlace, .ref a_rowOf, .int v_rows, .int v_wrongKind, .int v_wrongPlace, .int v_readWords, .int v_readPassages, .ref a_readLetter, .ref a_readCue, .ref a_readPassage, .ref a_held])), (a_w, .inl (cI, 510, .inl (upd v_w_71 11 (x1_71 + (1 : Int32))))), (a_past, .inl (cI, 4080, .inl v_past)), (a_images, .inl (cI, 1020, .inl v_images)), (a_text, .inl (cI, 140, .inl v_text)), (a_rowOf, .inl (cI, 120, .inl v_rowOf)), (a_readLetter, .inl (cI, 120, .inl v_readLetter)), (a_readCue, .inl (cI, 120, .inl v_readCue)), (a_readPassage, .inl (cI, 120, .inl v_readPassage)), (a_held, .inl (cI, 510, .inl v_held))] := hD
    obtain ⟨a_80, ha_80, hF⟩ := bindE hF
    have ha_80 := Option.some.inj ha_80
    rw [ha_80] at hP hD
    refine lv_aload_n hx hb dX4_follow_81 rfl (lv_at hl 0 rfl) ?_
    refine va_get (D := (dC, dI)) (ci := 4) (v := .ref a_w) (C := RX4) (T := TX4) (N := 19) hx hb hts inX4 hown hK hP 0 rfl rfl 0 (by decide) fl7 (fun _ h9 => h9) rfl dX4_follow_82 ?_
    refine lv_bipush (v := (13 : Int32)) hx hb dX4_follow_85 (by decide) ?_
    refine lv_aload_n hx hb dX4_follow_87 rfl (lv_at hl 0 rfl) ?_
    refine va_get (D := (dC, dI)) (ci := 4) (v := .ref a_w) (C := RX4) (T := TX4) (N := 19) hx hb hts inX4 hown hK hP 0 rfl rfl 0 (by decide) fl7 (fun _ h9 => h9) rfl dX4_follow_88 ?_
    refine lv_bipush (v := (10 : Int32)) hx hb dX4_follow_91 (by decide) ?_
    refine va_ialdK hx hb hK hP 1 0 rfl rfl (inK (by decide)) (j := 10) (by decide) dX4_follow_93 ?_
    refine va_iastK hx hb hK hP hD hS 1 0 rfl rfl (inK (by decide)) (j := 13) (by decide) dX4_follow_94 (fun H locs hP hD hS => ?_)
    have hP : va_P (dC, dI) vwCl [(aM, .inr (4, [.ref a_w, .ref a_past, .int v_pastMany, .ref a_images, .int v_filled, .ref a_text, .int v_length, .int v_faultKind, .int v_faultPlace, .ref a_rowOf, .int v_rows, .int v_wrongKind, .int v_wrongPlace, .int v_readWords, .int v_readPassages, .ref a_readLetter, .ref a_readCue, .ref a_readPassage, .ref a_held])), (a_w, .inl (cI, 510, .inl (upd a_80 13 (a_80 10)))), (a_past, .inl (cI, 4080, .inl v_past)), (a_images, .inl (cI, 1020, .inl v_images)), (a_text, .inl (cI, 140, .inl v_text)), (a_rowOf, .inl (cI, 120, .inl v_rowOf)), (a_readLetter, .inl (cI, 120, .inl v_readLetter)), (a_readCue, .inl (cI, 120, .inl v_readCue)), (a_readPassage, .inl (cI, 120, .inl v_readPassage)), (a_held, .inl (cI, 510, .inl v_held))] H := hP
    have hD : va_D A [(aM, .inr (4, [.ref a_w, .ref a_past, .int v_pastMany, .ref a_images, .int v_filled, .ref a_text, .int v_length, .int v_faultKind, .int v_faultPlace, .ref a_rowOf, .int v_rows, .int v_wrongKind, .int v_wrongPlace, .int v_readWords, .int v_readPassages, .ref a_readLetter, .ref a_readCue, .ref a_readPassage, .ref a_held])), (a_w, .inl (cI, 510, .inl (upd a_80 13 (a_80 10)))), (a_past, .inl (cI, 4080, .inl v_past)), (a_images, .inl (cI, 1020, .inl v_images)), (a_text, .inl (cI, 140, .inl v_text)), (a_rowOf, .inl (cI, 120, .inl v_rowOf)), (a_readLetter, .inl (cI, 120, .inl v_readLetter)), (a_readCue, .inl (cI, 120, .inl v_readCue)), (a_readPassage, .inl (cI, 120, .inl v_readPassage)), (a_held, .inl (cI, 510, .inl v_held))] := hD
    obtain ⟨a_94, ha_94, hF⟩ := bindE hF
    have ha_94 := Option.some.inj ha_94
    rw [ha_94] at hP hD
    refine lv_iconst (v := (0 : Int32)) hx hb dX4_follow_95 (by decide) ?_
    refine lv_istore_n (lv' := [(2, .int (0 : Int32)), (0, .ref aM), (1, .int x1_71)]) hx hb dX4_follow_96 rfl hl (by decide) rfl (fun ls hl => ?_)
    exact B97 gas x1_71 (0 : Int32) a_94 hF _ _ hP hD hS _ (lv_sub hl [1, 2, 0] rfl)
  have B61 : ∀ (x1_61 : Int32) (s1_61 : Int32) (s2_61 : Int32) (s3_61 : Int32) (v_w_61 : (Nat → Int32)), f_X4_follow_61 x1_61 s1_61 s2_61 s3_61 v_w_61 = some o_w → ∀ (H : Heap) (locs : List Loc), va_P (dC, dI) vwCl [(aM, .inr (4, [.ref a_w, .ref a_past, .int v_pastMany, .ref a_images, .int v_filled, .ref a_text, .int v_length, .int v_faultKind, .int v_faultPlace, .ref a_rowOf, .int v_rows, .int v_wrongKind, .int v_wrongPlace, .int v_readWords, .int v_readPassages, .ref a_readLetter, .ref a_readCue, .ref a_readPassage, .ref a_held])), (a_w, .inl (cI, 510, .inl v_w_61)), (a_past, .inl (cI, 4080, .inl v_past)), (a_images, .inl (cI, 1020, .inl v_images)), (a_text, .inl (cI, 140, .inl v_text)), (a_rowOf, .inl (cI, 120, .inl v_rowOf)), (a_readLetter, .inl (cI, 120, .inl v_readLetter)), (a_readCue, .inl (cI, 120, .inl v_readCue)), (a_readPassage, .inl (cI, 120, .inl v_readPassage)), (a_held, .inl (cI, 510, .inl v_held))] H → va_D A [(aM, .inr (4, [.ref a_w, .ref a_past, .int v_pastMany, .ref a_images, .int v_filled, .ref a_text, .int v_length, .int v_faultKind, .int v_faultPlace, .ref a_rowOf, .int v_rows, .int v_wrongKind, .int v_wrongPlace, .int v_readWords, .int v_readPassages, .ref a_readLetter, .ref a_readCue, .ref a_readPassage, .ref a_held])), (a_w, .inl (cI, 510, .inl v_w_61)), (a_past, .inl (cI, 4080, .inl v_past)), (a_images, .inl (cI, 1020, .inl v_images)), (a_text, .inl (cI, 140, .inl v_text)), (a_rowOf, .inl (cI, 120, .inl v_rowOf)), (a_readLetter, .inl (cI, 120, .inl v_readLetter)), (a_readCue, .inl (cI, 120, .inl v_readCue)), (a_readPassage, .inl (cI, 120, .inl v_readPassage)), (a_held, .inl (cI, 510, .inl v_held))] → va_S A s.heap H locs → ∀ ls : Array Slot, lv_has ls 3 [(0, .ref aM), (1, .int x1_61)] → W p l e (headSpec wsX4_follow rm_X4_follow).room s m ([.ref aM, .int p1] : List Value).toArray below meth c H locs 0 0 Q (F0 m 61 ls [.int s3_61, .int s2_61, .int s1_61, .ref a_w]) := by
    intro x1_61 s1_61 s2_61 s3_61 v_w_61 hF H locs hP hD hS ls hl
    unfold f_X4_follow_61 at hF
    refine lv_iadd hx hb dX4_follow_61 ?_
    by_cases b_62 : (s1_61 < 0 ∨ 510 ≤ s1_61.toNatClampNeg)
    · exact noneE ((if_pos b_62).symm.trans hF)
    have hF := (if_neg b_62).symm.trans hF
    refine va_iast hx hb hK hP hD hS 1 0 rfl rfl b_62 dX4_follow_62 (fun H locs hP hD hS => ?_)
    have hP : va_P (dC, dI) vwCl [(aM, .inr (4, [.ref a_w, .ref a_past, .int v_pastMany, .ref a_images, .int v_filled, .ref a_text, .int v_length, .int v_faultKind, .int v_faultPlace, .ref a_rowOf, .int v_rows, .int v_wrongKind, .int v_wrongPlace, .int v_readWords, .int v_readPassages, .ref a_readLetter, .ref a_readCue, .ref a_readPassage, .ref a_held])), (a_w, .inl (cI, 510, .inl (upd v_w_61 s1_61.toNatClampNeg (s2_61 + s3_61)))), (a_past, .inl (cI, 4080, .inl v_past)), (a_images, .inl (cI, 1020, .inl v_images)), (a_text, .inl (cI, 140, .inl v_text)), (a_rowOf, .inl (cI, 120, .inl v_rowOf)), (a_readLetter, .inl (cI, 120, .inl v_readLetter)), (a_readCue, .inl (cI, 120, .inl v_readCue)), (a_readPassage, .inl (cI, 120, .inl v_readPassage)), (a_held, .inl (cI, 510, .inl v_held))] H := hP
    have hD : va_D A [(aM, .inr (4, [.ref a_w, .ref a_past, .int v_pastMany, .ref a_images, .int v_filled, .ref a_text, .int v_length, .int v_faultKind, .int v_faultPlace, .ref a_rowOf, .int v_rows, .int v_wrongKind, .int v_wrongPlace, .int v_readWords, .int v_readPassages, .ref a_readLetter, .ref a_readCue, .ref a_readPassage, .ref a_held])), (a_w, .inl (cI, 510, .inl (upd v_w_61 s1_61.toNatClampNeg (s2_61 + s3_61)))), (a_past, .inl (cI, 4080, .inl v_past)), (a_images, .inl (cI, 1020, .inl v_images)), (a_text, .inl (cI, 140, .inl v_text)), (a_rowOf, .inl (cI, 120, .inl v_rowOf)), (a_readLetter, .inl (cI, 120, .inl v_readLetter)), (a_readCue, .inl (cI, 120, .inl v_readCue)), (a_readPassage, .inl (cI, 120, .inl v_readPassage)), (a_held, .inl (cI, 510, .inl v_held))] := hD
    obtain ⟨a_62, ha_62, hF⟩ := bindE hF
    have ha_62 := Option.some.inj ha_62
    rw [ha_62] at hP hD
    refine lv_aload_n hx hb dX4_follow_63 rfl (lv_at hl 0 rfl) ?_
    refine va_get (D := (dC, dI)) (ci := 4) (v := .ref a_w) (C := RX4) (T := TX4) (N := 19) hx hb hts inX4 hown hK hP 0 rfl rfl 0 (by decide) fl7 (fun _ h9 => h9) rfl dX4_follow_64 ?_
    refine lv_bipush (v := (25 : Int32)) hx hb dX4_follow_67 (by decide) ?_
    refine lv_iconst (v := (0 : Int32)) hx hb dX4_follow_69 (by decide) ?_
    refine va_iastK hx hb hK hP hD hS 1 0 rfl rfl (inK (by decide)) (j := 25) (by decide) dX4_follow_70 (fun H locs hP hD hS => ?_)
    have hP : va_P (dC, dI) vwCl [(aM, .inr (4, [.ref a_w, .ref a_past, .int v_pastMany, .ref a_images, .int v_filled, .ref a_text, .int v_length, .int v_faultKind, .int v_faultPlace, .ref a_rowOf, .int v_rows, .int v_wrongKind, .int v_wrongPlace, .int v_readWords, .int v_readPassages, .ref a_readLetter, .ref a_readCue, .ref a_readPassage, .ref a_held])), (a_w, .inl (cI, 510, .inl (upd a_62 25 (0 : Int32)))), (a_past, .inl (cI, 4080, .inl v_past)), (a_images, .inl (cI, 1020, .inl v_images)), (a_text, .inl (cI, 140, .inl v_text)), (a_rowOf, .inl (cI, 120, .inl v_rowOf)), (a_readLetter, .inl (cI, 120, .inl v_readLetter)), (a_readCue, .inl (cI, 120, .inl v_readCue)), (a_readPassage, .inl (cI, 120, .inl v_readPassage)), (a_held, .inl (cI, 510, .inl v_held))] H := hP
    have hD : va_D A [(aM, .inr (4, [.ref a_w, .ref a_past, .int v_pastMany, .ref a_images, .int v_filled, .ref a_text, .int v_length, .int v_faultKind, .int v_faultPlace, .ref a_rowOf, .int v_rows, .int v_wrongKind, .int v_wrongPlace, .int v_readWords, .int v_readPassages, .ref a_readLetter, .ref a_readCue, .ref a_readPassage, .ref a_held])), (a_w, .inl (cI, 510, .inl (upd a_62 25 (0 : Int32)))), (a_past, .inl (cI, 4080, .inl v_past)), (a_images, .inl (cI, 1020, .inl v_images)), (a_text, .inl (cI, 140, .inl v_text)), (a_rowOf, .inl (cI, 120, .inl v_rowOf)), (a_readLetter, .inl (cI, 120, .inl v_readLetter)), (a_readCue, .inl (cI, 120, .inl v_readCue)), (a_readPassage, .inl (cI, 120, .inl v_readPassage)), (a_held, .inl (cI, 510, .inl v_held))] := hD
    obtain ⟨a_70, ha_70, hF⟩ := bindE hF
    have ha_70 := Option.some.inj ha_70
    rw [ha_70] at hP hD
    exact B71 x1_61 a_70 hF _ _ hP hD hS _ (lv_sub hl [0, 1] rfl)
  have B35 : ∀ (x1_35 : Int32) (s1_35 : Int32) (s2_35 : Int32) (s3_35 : Int32) (v_w_35 : (Nat → Int32)), f_X4_follow_35 x1_35 s1_35 s2_35 s3_35 v_w_35 = some o_w → ∀ (H : Heap) (locs : List Loc), va_P (dC, dI) vwCl [(aM, .inr (4, [.ref a_w, .ref a_past, .int v_pastMany, .ref a_images, .int v_filled, .ref a_text, .int v_length, .int v_faultKind, .int v_faultPlace, .ref a_rowOf, .int v_rows, .int v_wrongKind, .int v_wrongPlace, .int v_readWords, .int v_readPassages, .ref a_readLetter, .ref a_readCue, .ref a_readPassage, .ref a_held])), (a_w, .inl (cI, 510, .inl v_w_35)), (a_past, .inl (cI, 4080, .inl v_past)), (a_images, .inl (cI, 1020, .inl v_images)), (a_text, .inl (cI, 140, .inl v_text)), (a_rowOf, .inl (cI, 120, .inl v_rowOf)), (a_readLetter, .inl (cI, 120, .inl v_readLetter)), (a_readCue, .inl (cI, 120, .inl v_readCue)), (a_readPassage, .inl (cI, 120, .inl v_readPassage)), (a_held, .inl (cI, 510, .inl v_held))] H → va_D A [(aM, .inr (4, [.ref a_w, .ref a_past, .int v_pastMany, .ref a_images, .int v_filled, .ref a_text, .int v_length, .int v_faultKind, .int v_faultPlace, .ref a_rowOf, .int v_rows, .int v_wrongKind, .int v_wrongPlace, .int v_readWords, .int v_readPassages, .ref a_readLetter, .ref a_readCue, .ref a_readPassage, .ref a_held])), (a_w, .inl (cI, 510, .inl v_w_35)), (a_past, .inl (cI, 4080, .inl v_past)), (a_images, .inl (cI, 1020, .inl v_images)), (a_text, .inl (cI, 140, .inl v_text)), (a_rowOf, .inl (cI, 120, .inl v_rowOf)), (a_readLetter, .inl (cI, 120, .inl v_readLetter)), (a_readCue, .inl (cI, 120, .inl v_readCue)), (a_readPassage, .inl (cI, 120, .inl v_readPassage)), (a_held, .inl (cI, 510, .inl v_held))] → va_S A s.heap H locs → ∀ ls : Array Slot, lv_has ls 3 [(0, .ref aM), (1, .int x1_35)] → W p l e (headSpec wsX4_follow rm_X4_follow).room s m ([.ref aM, .int p1] : List Value).toArray below meth c H locs 0 0 Q (F0 m 35 ls [.int s3_35, .int s2_35, .int s1_35, .ref a_w]) := by
    intro x1_35 s1_35 s2_35 s3_35 v_w_35 hF H locs hP hD hS ls hl
    unfold f_X4_follow_35 at hF
    refine lv_iadd hx hb dX4_follow_35 ?_
    by_cases b_36 : (s1_35 < 0 ∨ 510 ≤ s1_35.toNatClampNeg)
    · exact noneE ((if_pos b_36).symm.trans hF)
    have hF := (if_neg b_36).symm.trans hF
    refine va_iast hx hb hK hP hD hS 1 0 rfl rfl b_36 dX4_follow_36 (fun H locs hP hD hS => ?_)
    have hP : va_P (dC, dI) vwCl [(aM, .inr (4, [.ref a_w, .ref a_past, .int v_pastMany, .ref a_images, .int v_filled, .ref a_text, .int v_length, .int v_faultKind, .int v_faultPlace, .ref a_rowOf, .int v_rows, .int v_wrongKind, .int v_wrongPlace, .int v_readWords, .int v_readPassages, .ref a_readLetter, .ref a_readCue, .ref a_readPassage, .ref a_held])), (a_w, .inl (cI, 510, .inl (upd v_w_35 s1_35.toNatClampNeg (s2_35 + s3_35)))), (a_past, .inl (cI, 4080, .inl v_past)), (a_images, .inl (cI, 1020, .inl v_images)), (a_text, .inl (cI, 140, .inl v_text)), (a_rowOf, .inl (cI, 120, .inl v_rowOf)), (a_readLetter, .inl (cI, 120, .inl v_readLetter)), (a_readCue, .inl (cI, 120, .inl v_readCue)), (a_readPassage, .inl (cI, 120, .inl v_readPassage)), (a_held, .inl (cI, 510, .inl v_held))] H := hP
    have hD : va_D A [(aM, .inr (4, [.ref a_w, .ref a_past, .int v_pastMany, .ref a_images, .int v_filled, .ref a_text, .int v_length, .int v_faultKind, .int v_faultPlace, .ref a_rowOf, .int v_rows, .int v_wrongKind, .int v_wrongPlace, .int v_readWords, .int v_readPassages, .ref a_readLetter, .ref a_readCue, .ref a_readPassage, .ref a_held])), (a_w, .inl (cI, 510, .inl (upd v_w_35 s1_35.toNatClampNeg (s2_35 + s3_35)))), (a_past, .inl (cI, 4080, .inl v_past)), (a_images, .inl (cI, 1020, .inl v_images)), (a_text, .inl (cI, 140, .inl v_text)), (a_rowOf, .inl (cI, 120, .inl v_rowOf)), (a_readLetter, .inl (cI, 120, .inl v_readLetter)), (a_readCue, .inl (cI, 120, .inl v_readCue)), (a_readPassage, .inl (cI, 120, .inl v_readPassage)), (a_held, .inl (cI, 510, .inl v_held))] := hD
    obtain ⟨a_36, ha_36, hF⟩ := bindE hF
    have ha_36 := Option.some.inj ha_36
    rw [ha_36] at hP hD
    refine lv_aload_n hx hb dX4_follow_37 rfl (lv_at hl 0 rfl) ?_
    refine va_get (D := (dC, dI)) (ci := 4) (v := .ref a_w) (C := RX4) (T := TX4) (N := 19) hx hb hts inX4 hown hK hP 0 rfl rfl 0 (by decide) fl7 (fun _ h9 => h9) rfl dX4_follow_38 ?_
    refine lv_bipush (v := (16 : Int32)) hx hb dX4_follow_41 (by decide) ?_
    refine lv_dup2_11 hx hb dX4_follow_43 rfl rfl ?_
    refine va_ialdK hx hb hK hP 1 0 rfl rfl (inK (by decide)) (j := 16) (by decide) dX4_follow_44 ?_
    refine lv_iload_n hx hb dX4_follow_45 rfl (lv_at hl 1 rfl) ?_
    refine lv_aload_n hx hb dX4_follow_46 rfl (lv_at hl 0 rfl) ?_
    refine va_get (D := (dC, dI)) (ci := 4) (v := .ref a_w) (C := RX4) (T := TX4) (N := 19) hx hb hts inX4 hown hK hP 0 rfl rfl 0 (by decide) fl7 (fun _ h9 => h9) rfl dX4_follow_47 ?_
    refine lv_bipush (v := (11 : Int32)) hx hb dX4_follow_50 (by decide) ?_
    refine va_ialdK hx hb hK hP 1 0 rfl rfl (inK (by decide)) (j := 11) (by decide) dX4_follow_52 ?_
    refine lv_icmp_ge (tgt := 60) hx hb dX4_follow_53 (by decide) (fun c_53 => ?_) (fun c_53 => ?_)
    · have hF := (if_pos c_53).symm.trans hF
      refine lv_iconst (v := (0 : Int32)) hx hb dX4_follow_60 (by decide) ?_
      exact B61 x1_35 (16 : Int32) (a_36 16) (0 : Int32) a_36 hF _ _ hP hD hS _ (lv_sub hl [0, 1] rfl)
    · have hF := (if_neg c_53).symm.trans hF
      refine lv_iconst (v := (1 : Int32)) hx hb dX4_follow_56 (by decide) ?_
      refine lv_goto (tgt := 61) hx hb dX4_follow_57 (by decide) ?_
      exact B61 x1_35 (16 : Int32) (a_36 16) (1 : Int32) a_36 hF _ _ hP hD hS _ (lv_sub hl [0, 1] rfl)
  unfold f_X4_follow at hF
  refine lv_iload_n hx hb dX4_follow_0 rfl (lv_at hl 1 rfl) ?_
  refine lv_aload_n hx hb dX4_follow_1 rfl (lv_at hl 0 rfl) ?_
  refine va_get (D := (dC, dI)) (ci := 4) (v := .ref a_w) (C := RX4) (T := TX4) (N := 19) hx hb hts inX4 hown hK hP 0 rfl rfl 0 (by decide) fl7 (fun _ h9 => h9) rfl dX4_follow_2 ?_
  refine lv_bipush (v := (11 : Int32)) hx hb dX4_follow_5 (by decide) ?_
  refine va_ialdK hx hb hK hP 1 0 rfl rfl (inK (by decide)) (j := 11) (by decide) dX4_follow_7 ?_
  refine lv_icmp_eq (tgt := 71) hx hb dX4_follow_8 (by decide) (fun c_8 => ?_) (fun c_8 => ?_)
  · have hF := (if_pos c_8).symm.trans hF
    exact B71 p1 v_w hF _ _ hP hD hS _ (lv_sub hl [0, 1] rfl)
  · have hF := (if_neg c_8).symm.trans hF
    refine lv_aload_n hx hb dX4_follow_11 rfl (lv_at hl 0 rfl) ?_
    refine va_get (D := (dC, dI)) (ci := 4) (v := .ref a_w) (C := RX4) (T := TX4) (N := 19) hx hb hts inX4 hown hK hP 0 rfl rfl 0 (by decide) fl7 (fun _ h9 => h9) rfl dX4_follow_12 ?_
    refine lv_bipush (v := (15 : Int32)) hx hb dX4_follow_15 (by decide) ?_
    refine lv_dup2_11 hx hb dX4_follow_17 rfl rfl ?_
    refine va_ialdK hx hb hK hP 1 0 rfl rfl (inK (by decide)) (j := 15) (by decide) dX4_follow_18 ?_
    refine lv_iload_n hx hb dX4_follow_19 rfl (lv_at hl 1 rfl) ?_
    refine lv_aload_n hx hb dX4_follow_20 rfl (lv_at hl 0 rfl) ?_
    refine va_get (D := (dC, dI)) (ci := 4) (v := .ref a_w) (C := RX4) (T := TX4) (N := 19) hx hb hts inX4 hown hK hP 0 rfl rfl 0 (by decide) fl7 (fun _ h9 => h9) rfl dX4_follow_21 ?_
    refine lv_bipush (v := (11 : Int32)) hx hb dX4_follow_24 (by decide) ?_
    refine va_ialdK hx hb hK hP 1 0 rfl rfl (inK (by decide)) (j := 11) (by decide) dX4_follow_26 ?_
    refine lv_icmp_le (tgt := 34) hx hb dX4_follow_27 (by decide) (fun c_27 => ?_) (fun c_27 => ?_)
    · have hF := (if_pos c_27).symm.trans hF
      refine lv_iconst (v := (0 : Int32)) hx hb dX4_follow_34 (by decide) ?_
      exact B35 p1 (15 : Int32) (v_w 15) (0 : Int32) v_w hF _ _ hP hD hS _ (lv_sub hl [0, 1] rfl)
    · have hF := (if_neg c_27).symm.trans hF
      refine lv_iconst (v := (1 : Int32)) hx hb dX4_follow_30 (by decide) ?_
      refine lv_goto (tgt := 35) hx hb dX4_follow_31 (by decide) ?_
      exact B35 p1 (15 : Int32) (v_w 15) (1 : Int32) v_w hF _ _ hP hD hS _ (lv_sub hl [0, 1] rfl)
def f_X4_hearNow_49 (x1 : Int32) (x3 : Int32) (v_w : (Nat → Int32)) : Option (Int32 × (Nat → Int32)) :=
  (f_X4_keepWord x1 v_w).bind fun q51 =>
    if x3 = (0 : Int32) then
      some ((-9 : Int32), q51)
    else
      some ((q51 11), q51)
def f_X4_hearNow_25 (x1 : Int32) (x2 : Int32) (s0 : Int32) (v_w : (Nat → Int32)) : Option (Int32 × (Nat → Int32)) :=
  if s0 = (0 : Int32) then
      f_X4_hearNow_49 x1 s0 (upd v_w 17 ((v_w 17) + (1 : Int32)))
    else
      (f_X4_follow x2 v_w).bind fun q32 =>
      f_X4_hearNow_49 x1 s0 q32
def f_X4_hearNow_24 (x1 : Int32) (x2 : Int32) (v_w : (Nat → Int32)) : Option (Int32 × (Nat → Int32)) :=
  f_X4_hearNow_25 x1 x2 (0 : Int32) v_w
def f_X4_hearNow (p1 : Int32) (v_w : (Nat → Int32)) : Option (Int32 × (Nat → Int32)) :=
  (f_X4_bestOf p1 v_w).bind fun q2 =>
  if q2 = (-9 : Int32) then
    f_X4_hearNow_24 p1 q2 v_w
  else
    (f_X4_isAccepted q2 v_w).bind fun q14 =>
    if q14 = (0 : Int32) then
      f_X4_hearNow_24 p1 q2 v_w
    else
      f_X4_hearNow_25 p1 q2 (1 : Int32) v_w
def rm_X4_hearNow : Room := { frames := 2, cells := 0, slots := 0, locals := 46 }
set_option maxHeartbeats 4000000 in
set_option maxRecDepth 100000 in
theorem c_X4_hearNow (l : Launch) (dC : Nat → ClassId) (dI : Nat → Nat → Nat) (cI cZ cO : ClassId) (aM a_w a_past a_images a_text a_rowOf a_readLetter a_readCue a_readPassage a_held : Nat) (sz : Nat) (p1 : Int32) (v_w : (Nat → Int32)) (v_past : (Nat → Int32)) (v_pastMany : Int32) (v_images : (Nat → Int32)) (v_filled : Int32) (v_text : (Nat → Int32)) (v_length : Int32) (v_faultKind : Int32) (v_faultPlace : Int32) (v_rowOf : (Nat → Int32)) (v_rows : Int32) (v_wrongKind : Int32) (v_wrongPlace : Int32) (v_readWords : Int32) (v_readPassages : Int32) (v_readLetter : (Nat → Int32)) (v_readCue : (Nat → Int32)) (v_readPassage : (Nat → Int32)) (v_held : (Nat → Int32)) (r : Int32) (o_w : (Nat → Int32)) (hF : f_X4_hearNow p1 v_w = some (r, o_w)) : Met l yX4_hearNow wsX4_hearNow rm_X4_hearNow (va_Pc [.ref aM, .int p1] (wrW dC dI cI cZ cO sz [(aM, .inr (4, [.ref a_w, .ref a_past, .int v_pastMany, .ref a_images, .int v_filled, .ref a_text, .int v_length, .int v_faultKind, .int v_faultPlace, .ref a_rowOf, .int v_rows, .int v_wrongKind, .int v_wrongPlace, .int v_readWords, .int v_readPassages, .ref a_readLetter, .ref a_readCue, .ref a_readPassage, .ref a_held])), (a_w, .inl (cI, 510, .inl v_w)), (a_past, .inl (cI, 4080, .inl v_past)), (a_images, .inl (cI, 1020, .inl v_images)), (a_text, .inl (cI, 140, .inl v_text)), (a_rowOf, .inl (cI, 120, .inl v_rowOf)), (a_readLetter, .inl (cI, 120, .inl v_readLetter)), (a_readCue, .inl (cI, 120, .inl v_readCue)), (a_readPassage, .inl (cI, 120, .inl v_readPassage)), (a_held, .inl (cI, 510, .inl v_held))])) (va_Qi (fun (q : Int32) (_ : Unit) => r = q) (wrE dC dI [(aM, .inr (4, [.ref a_w, .ref a_past, .int v_pastMany, .ref a_images, .int v_filled, .ref a_text, .int v_length, .int v_faultKind, .int v_faultPlace, .ref a_rowOf, .int v_rows, .int v_wrongKind, .int v_wrongPlace, .int v_readWords, .int v_readPassages, .ref a_readLetter, .ref a_readCue, .ref a_readPassage, .ref a_held])), (a_w, .inl (cI, 510, .inl v_w)), (a_past, .inl (cI, 4080, .inl v_past)), (a_images, .inl (cI, 1020, .inl v_images)), (a_text, .inl (cI, 140, .inl v_text)), (a_rowOf, .inl (cI, 120, .inl v_rowOf)), (a_readLetter, .inl (cI, 120, .inl v_readLetter)), (a_readCue, .inl (cI, 120, .inl v_readCue)), (a_readPassage, .inl (cI, 120, .inl v_readPassage)), (a_held, .inl (cI, 510, .inl v_held))] sz [(aM, .inr (4, [.ref a_w, .ref a_past, .int v_pastMany, .ref a_images, .int v_filled, .ref a_text, .int v_length, .int v_faultKind, .int v_faultPlace, .ref a_rowOf, .int v_rows, .int v_wrongKind, .int v_wrongPlace, .int v_readWords, .int v_readPassages, .ref a_readLetter, .ref a_readCue, .ref a_readPassage, .ref a_held])), (a_w, .inl (cI, 510, .inl o_w)), (a_past, .inl (cI, 4080, .inl v_past)), (a_images, .inl (cI, 1020, .inl v_images)), (a_text, .inl (cI, 140, .inl v_text)), (a_rowOf, .inl (cI, 120, .inl v_rowOf)), (a_readLetter, .inl (cI, 120, .inl v_readLetter)), (a_readCue, .inl (cI, 120, .inl v_readCue)), (a_readPassage, .inl (cI, 120, .inl v_readPassage)), (a_held, .inl (cI, 510, .inl v_held))]) (va_A [(aM, .inr (4, [.ref a_w, .ref a_past, .int v_pastMany, .ref a_images, .int v_filled, .ref a_text, .int v_length, .int v_faultKind, .int v_faultPlace, .ref a_rowOf, .int v_rows, .int v_wrongKind, .int v_wrongPlace, .int v_readWords, .int v_readPassages, .ref a_readLetter, .ref a_readCue, .ref a_readPassage, .ref a_held])), (a_w, .inl (cI, 510, .inl v_w)), (a_past, .inl (cI, 4080, .inl v_past)), (a_images, .inl (cI, 1020, .inl v_images)), (a_text, .inl (cI, 140, .inl v_text)), (a_rowOf, .inl (cI, 120, .inl v_rowOf)), (a_readLetter, .inl (cI, 120, .inl v_readLetter)), (a_readCue, .inl (cI, 120, .inl v_readCue)), (a_readPassage, .inl (cI, 120, .inl v_readPassage)), (a_held, .inl (cI, 510, .inl v_held))] sz)) 0 0 (va_A [(aM, .inr (4, [.ref a_w, .ref a_past, .int v_pastMany, .ref a_images, .int v_filled, .ref a_text, .int v_length, .int v_faultKind, .int v_faultPlace, .ref a_rowOf, .int v_rows, .int v_wrongKind, .int v_wrongPlace, .int v_readWords, .int v_readPassages, .ref a_readLetter, .ref a_readCue, .ref a_readPassage, .ref a_held])), (a_w, .inl (cI, 510, .inl v_w)), (a_past, .inl (cI, 4080, .inl v_past)), (a_images, .inl (cI, 1020, .inl v_images)), (a_text, .inl (cI, 140, .inl v_text)), (a_rowOf, .inl (cI, 120, .inl v_rowOf)), (a_readLetter, .inl (cI, 120, .inl v_readLetter)), (a_readCue, .inl (cI, 120, .inl v_readCue)), (a_readPassage, .inl (cI, 120, .inl v_readPassage)), (a_held, .inl (cI, 510, .inl v_held))] sz) := by
  refine Met.ofW (cc := cX4_hearNow) (maxL := 4) (ret := (some .int)) (by decide) rfl ?_
  intro p e s m args below meth c s₁ B hml hv
  obtain ⟨rfl, hsz, hP, hK, hN, hD0⟩ := hv
  have hx := B.exec
  have hb := B.bytes
  have hr := B.returns
  have hts := atoms_spec (ws := wsX4_hearNow) B.pre
  have hown : s.vm.findClass RX4 = some m.cls := findClass_of_methodNamed B.named
  have hlocks := B.notSynchronized
  subst hsz
  have hD := hD0.self (sz := s.heap.size)
  obtain ⟨Q, hQ⟩ : ∃ Q, Q = MQ below (va_Qi (fun (q : Int32) (_ : Unit) => r = q) (wrE dC dI [(aM, .inr (4, [.ref a_w, .ref a_past, .int v_pastMany, .ref a_images, .int v_filled, .ref a_text, .int v_length, .int v_faultKind, .int v_faultPlace, .ref a_rowOf, .int v_rows, .int v_wrongKind, .int v_wrongPlace, .int v_readWords, .int v_readPassages, .ref a_readLetter, .ref a_readCue, .ref a_readPassage, .ref a_held])), (a_w, .inl (cI, 510, .inl v_w)), (a_past, .inl (cI, 4080, .inl v_past)), (a_images, .inl (cI, 1020, .inl v_images)), (a_text, .inl (cI, 140, .inl v_text)), (a_rowOf, .inl (cI, 120, .inl v_rowOf)), (a_readLetter, .inl (cI, 120, .inl v_readLetter)), (a_readCue, .inl (cI, 120, .inl v_readCue)), (a_readPassage, .inl (cI, 120, .inl v_readPassage)), (a_held, .inl (cI, 510, .inl v_held))] s.heap.size [(aM, .inr (4, [.ref a_w, .ref a_past, .int v_pastMany, .ref a_images, .int v_filled, .ref a_text, .int v_length, .int v_faultKind, .int v_faultPlace, .ref a_rowOf, .int v_rows, .int v_wrongKind, .int v_wrongPlace, .int v_readWords, .int v_readPassages, .ref a_readLetter, .ref a_readCue, .ref a_readPassage, .ref a_held])), (a_w, .inl (cI, 510, .inl o_w)), (a_past, .inl (cI, 4080, .inl v_past)), (a_images, .inl (cI, 1020, .inl v_images)), (a_text, .inl (cI, 140, .inl v_text)), (a_rowOf, .inl (cI, 120, .inl v_rowOf)), (a_readLetter, .inl (cI, 120, .inl v_readLetter)), (a_readCue, .inl (cI, 120, .inl v_readCue)), (a_readPassage, .inl (cI, 120, .inl v_readPassage)), (a_held, .inl (cI, 510, .inl v_held))]) (va_A [(aM, .inr (4, [.ref a_w, .ref a_past, .int v_pastMany, .ref a_images, .int v_filled, .ref a_text, .int v_length, .int v_faultKind, .int v_faultPlace, .ref a_rowOf, .int v_rows, .int v_wrongKind, .int v_wrongPlace, .int v_readWords, .int v_readPassages, .ref a_readLetter, .ref a_readCue, .ref a_readPassage, .ref a_held])), (a_w, .inl (cI, 510, .inl v_w)), (a_past, .inl (cI, 4080, .inl v_past)), (a_images, .inl (cI, 1020, .inl v_images)), (a_text, .inl (cI, 140, .inl v_text)), (a_rowOf, .inl (cI, 120, .inl v_rowOf)), (a_readLetter, .inl (cI, 120, .inl v_readLetter)), (a_readCue, .inl (cI, 120, .inl v_readCue)), (a_readPassage, .inl (cI, 120, .inl v_readPassage)), (a_held, .inl (cI, 510, .inl v_held))] s.heap.size)) ([.ref aM, .int p1] : List Value).toArray s 0 0 (va_A [(aM, .inr (4, [.ref a_w, .ref a_past, .int v_pastMany, .ref a_images, .int v_filled, .ref a_text, .int v_length, .int v_faultKind, .int v_faultPlace, .ref a_rowOf, .int v_rows, .int v_wrongKind, .int v_wrongPlace, .int v_readWords, .int v_readPassages, .ref a_readLetter, .ref a_readCue, .ref a_readPassage, .ref a_held])), (a_w, .inl (cI, 510, .inl v_w)), (a_past, .inl (cI, 4080, .inl v_past)), (a_images, .inl (cI, 1020, .inl v_images)), (a_text, .inl (cI, 140, .inl v_text)), (a_rowOf, .inl (cI, 120, .inl v_rowOf)), (a_readLetter, .inl (cI, 120, .inl v_readLetter)), (a_readCue, .inl (cI, 120, .inl v_readCue)), (a_readPassage, .inl (cI, 120, .inl v_readPassage)), (a_held, .inl (cI, 510, .inl v_held))] s.heap.size) := ⟨_, rfl⟩
  rw [← hQ]
  obtain ⟨A, hAe⟩ : ∃ A, A = va_A [(aM, .inr (4, [.ref a_w, .ref a_past, .int v_pastMany, .ref a_images, .int v_filled, .ref a_text, .int v_length, .int v_faultKind, .int v_faultPlace, .ref a_rowOf, .int v_rows, .int v_wrongKind, .int v_wrongPlace, .int v_readWords, .int v_readPassages, .ref a_readLetter, .ref a_readCue, .ref a_readPassage, .ref a_held])), (a_w, .inl (cI, 510, .inl v_w)), (a_past, .inl (cI, 4080, .inl v_past)), (a_images, .inl (cI, 1020, .inl v_images)), (a_text, .inl (cI, 140, .inl v_text)), (a_rowOf, .inl (cI, 120, .inl v_rowOf)), (a_readLetter, .inl (cI, 120, .inl v_readLetter)), (a_readCue, .inl (cI, 120, .inl v_readCue)), (a_readPassage, .inl (cI, 120, .inl v_readPassage)), (a_held, .inl (cI, 510, .inl v_held))] s.heap.size := ⟨_, rfl⟩
  rw [← hAe] at hD
  have hA : ∀ q : Nat, s.heap.size ≤ q → A q := fun q h => by rw [hAe]; exact Or.inr h
  obtain ⟨H, hH⟩ : ∃ H, H = s.heap := ⟨_, rfl⟩
  have hS : va_S A s.heap H [] := by rw [hH]; exact va_S.rf
  rw [← hH] at hP
  rw [← hH]
  have fl7 := hts (.fieldLink RX4 7 "TeleprompterModel" "w" "[I") (by decide +kernel)
  have inX4 : ∀ w ∈ u_ws RX4 TX4 19, w ∈ wsX4_hearNow := by decide +kernel
  have hl := lv_entry ([.ref aM, .int p1]) (n := 4) (Nat.le_of_ble_eq_true rfl)
  rw [lg_entry_eq]
  generalize (lg_sl ([.ref aM, .int p1]) ++ List.replicate (4 - (lg_sl ([.ref aM, .int p1])).length) Slot.unset).toArray = ls at hl ⊢
  have hl : lv_has ls 4 [(0, .ref aM), (1, .int p1)] := hl
  have B49 : ∀ (x1_49 : Int32) (x3_49 : Int32) (v_w_49 : (Nat → Int32)), f_X4_hearNow_49 x1_49 x3_49 v_w_49 = some (r, o_w) → ∀ (H : Heap) (locs : List Loc), va_P (dC, dI) vwCl [(aM, .inr (4, [.ref a_w, .ref a_past, .int v_pastMany, .ref a_images, .int v_filled, .ref a_text, .int v_length, .int v_faultKind, .int v_faultPlace, .ref a_rowOf, .int v_rows, .int v_wrongKind, .int v_wrongPlace, .int v_readWords, .int v_readPassages, .ref a_readLetter, .ref a_readCue, .ref a_readPassage, .ref a_held])), (a_w, .inl (cI, 510, .inl v_w_49)), (a_past, .inl (cI, 4080, .inl v_past)), (a_images, .inl (cI, 1020, .inl v_images)), (a_text, .inl (cI, 140, .inl v_text)), (a_rowOf, .inl (cI, 120, .inl v_rowOf)), (a_readLetter, .inl (cI, 120, .inl v_readLetter)), (a_readCue, .inl (cI, 120, .inl v_readCue)), (a_readPassage, .inl (cI, 120, .inl v_readPassage)), (a_held, .inl (cI, 510, .inl v_held))] H → va_D A [(aM, .inr (4, [.ref a_w, .ref a_past, .int v_pastMany, .ref a_images, .int v_filled, .ref a_text, .int v_length, .int v_faultKind, .int v_faultPlace, .ref a_rowOf, .int v_rows, .int v_wrongKind, .int v_wrongPlace, .int v_readWords, .int v_readPassages, .ref a_readLetter, .ref a_readCue, .ref a_readPassage, .ref a_held])), (a_w, .inl (cI, 510, .inl v_w_49)), (a_past, .inl (cI, 4080, .inl v_past)), (a_images, .inl (cI, 1020, .inl v_images)), (a_text, .inl (cI, 140, .inl v_text)), (a_rowOf, .inl (cI, 120, .inl v_rowOf)), (a_readLetter, .inl (cI, 120, .inl v_readLetter)), (a_readCue, .inl (cI, 120, .inl v_readCue)), (a_readPassage, .inl (cI, 120, .inl v_readPassage)), (a_held, .inl (cI, 510, .inl v_held))] → va_S A s.heap H locs → ∀ ls : Array Slot, lv_has ls 4 [(0, .ref aM), (1, .int x1_49), (3, .int x3_49)] → W p l e (headSpec wsX4_hearNow rm_X4_hearNow).room s m ([.ref aM, .int p1] : List Value).toArray below meth c H locs 0 0 Q (F0 m 49 ls []) := by
    intro x1_49 x3_49 v_w_49 hF H locs hP hD hS ls hl
    unfold f_X4_hearNow_49 at hF
    refine lv_aload_n hx hb dX4_hearNow_49 rfl (lv_at hl 0 rfl) ?_
    refine lv_iload_n hx hb dX4_hearNow_50 rfl (lv_at hl 1 rfl) ?_
    obtain ⟨q_51, hq_51, hF⟩ := bindE hF
    have hPc := hP
    have hDc := hD
    have hFc := va_free (wc := [(aM, .inr (4, [.ref a_w, .ref a_past, .int v_pastMany, .ref a_images, .int v_filled, .ref a_text, .int v_length, .int v_faultKind, .int v_faultPlace, .ref a_rowOf, .int v_rows, .int v_wrongKind, .int v_wrongPlace, .int v_readWords, .int v_readPassages, .ref a_readLetter, .ref a_readCue, .ref a_readPassage, .ref a_held])), (a_w, .inl (cI, 510, .inl v_w_49)), (a_past, .inl (cI, 4080, .inl v_past)), (a_images, .inl (cI, 1020, .inl v_images)), (a_text, .inl (cI, 140, .inl v_text)), (a_rowOf, .inl (cI, 120, .inl v_rowOf)), (a_readLetter, .inl (cI, 120, .inl v_readLetter)), (a_readCue, .inl (cI, 120, .inl v_readCue)), (a_readPassage, .inl (cI, 120, .inl v_readPassage)), (a_held, .inl (cI, 510, .inl v_held))]) hD hS hA [0, 1, 2, 3, 4, 5, 6, 7, 8, 9] rfl
    refine va_callv (va_runV (As := [.int x1_49]) (rest := []) ⟨hx, hb, hml, hown, hts⟩ (c_X4_keepWord l dC dI cI cZ cO aM a_w a_past a_images a_text a_rowOf a_readLetter a_readCue a_readPassage a_held H.size x1_49 v_w_49 v_past v_pastMany v_images v_filled v_text v_length v_faultKind v_faultPlace v_rowOf v_rows v_wrongKind v_wrongPlace v_readWords v_readPassages v_readLetter v_readCue v_readPassage v_held q_51 hq_51) (cwV 1 hts gX4_hearNow_X4_keepWord rfl rfl rfl (by decide +kernel) ⟨Nat.le_of_ble_eq_true rfl, Nat.le_of_ble_eq_true rfl⟩) ⟨fb_wr, va_recv hK hPc (ci := 4) (q0 := 0) rfl rfl, pre_wr hPc hK hN hDc⟩ rfl rfl hl.1 rfl (lv_room (Nat.le_of_ble_eq_true rfl)) dX4_hearNow_51 ⟨Nat.zero_le _, Nat.zero_le _⟩) hS (fun q _ h => hFc q h) hFc (fun _ t H1 locs ht hvm hw hB hz1 hk1 hS => ?_)
    obtain ⟨hP1, hD1⟩ := hB
    rw [ht] at hP1
    obtain ⟨hP, hD⟩ := va_join (wr := []) (w1 := [(aM, .inr (4, [.ref a_w, .ref a_past, .int v_pastMany, .ref a_images, .int v_filled, .ref a_text, .int v_length, .int v_faultKind, .int v_faultPlace, .ref a_rowOf, .int v_rows, .int v_wrongKind, .int v_wrongPlace, .int v_readWords, .int v_readPassages, .ref a_readLetter, .ref a_readCue, .ref a_readPassage, .ref a_held])), (a_w, .inl (cI, 510, .inl q_51)), (a_past, .inl (cI, 4080, .inl v_past)), (a_images, .inl (cI, 1020, .inl v_images)), (a_text, .inl (cI, 140, .inl v_text)), (a_rowOf, .inl (cI, 120, .inl v_rowOf)), (a_readLetter, .inl (cI, 120, .inl v_readLetter)), (a_readCue, .inl (cI, 120, .inl v_readCue)), (a_readPassage, .inl (cI, 120, .inl v_readPassage)), (a_held, .inl (cI, 510, .inl v_held))]) hP hD [0, 1, 2, 3, 4, 5, 6, 7, 8, 9] [] rfl rfl (by decide) (by decide) hk1 hFc hP1 hD1
    generalize H1 = H at hP hS ⊢
    have hP : va_P (dC, dI) vwCl [(aM, .inr (4, [.ref a_w, .ref a_past, .int v_pastMany, .ref a_images, .int v_filled, .ref a_text, .int v_length, .int v_faultKind, .int v_faultPlace, .ref a_rowOf, .int v_rows, .int v_wrongKind, .int v_wrongPlace, .int v_readWords, .int v_readPassages, .ref a_readLetter, .ref a_readCue, .ref a_readPassage, .ref a_held])), (a_w, .inl (cI, 510, .inl q_51)), (a_past, .inl (cI, 4080, .inl v_past)), (a_images, .inl (cI, 1020, .inl v_images)), (a_text, .inl (cI, 140, .inl v_text)), (a_rowOf, .inl (cI, 120, .inl v_rowOf)), (a_readLetter, .inl (cI, 120, .inl v_readLetter)), (a_readCue, .inl (cI, 120, .inl v_readCue)), (a_readPassage, .inl (cI, 120, .inl v_readPassage)), (a_held, .inl (cI, 510, .inl v_held))] H := hP
    have hD : va_D A [(aM, .inr (4, [.ref a_w, .ref a_past, .int v_pastMany, .ref a_images, .int v_filled, .ref a_text, .int v_length, .int v_faultKind, .int v_faultPlace, .ref a_rowOf, .int v_rows, .int v_wrongKind, .int v_wrongPlace, .int v_readWords, .int v_readPassages, .ref a_readLetter, .ref a_readCue, .ref a_readPassage, .ref a_held])), (a_w, .inl (cI, 510, .inl q_51)), (a_past, .inl (cI, 4080, .inl v_past)), (a_images, .inl (cI, 1020, .inl v_images)), (a_text, .inl (cI, 140, .inl v_text)), (a_rowOf, .inl (cI, 120, .inl v_rowOf)), (a_readLetter, .inl (cI, 120, .inl v_readLetter)), (a_readCue, .inl (cI, 120, .inl v_readCue)), (a_readPassage, .inl (cI, 120, .inl v_readPassage)), (a_held, .inl (cI, 510, .inl v_held))] := hD
    refine lv_iload_n hx hb dX4_hearNow_54 rfl (lv_at hl 2 rfl) ?_
    refine lv_if_eq (tgt := 68) hx hb dX4_hearNow_55 (by decide) (fun c_55 => ?_) (fun c_55 => ?_)
    · have hF := (if_pos c_55).symm.trans hF
      refine lv_bipush (v := (-9 : Int32)) hx hb dX4_hearNow_68 (by decide) ?_
      have hF : some ((-9 : Int32), q_51) = some (r, o_w) := hF
      have hP9 := hP
      have hD9 := hD
      cases hF
      subst hQ
      subst hAe
      exact W.iret hx hb hr (fun t ht hW => ⟨⟨_, (), rfl, rfl, ⟨by rw [ht]; exact hP9, hD9⟩⟩, hS.F ht⟩) hS.2.2 dX4_hearNow_70
    · have hF := (if_neg c_55).symm.trans hF
      refine lv_aload_n hx hb dX4_hearNow_58 rfl (lv_at hl 0 rfl) ?_
      refine va_get (D := (dC, dI)) (ci := 4) (v := .ref a_w) (C := RX4) (T := TX4) (N := 19) hx hb hts inX4 hown hK hP 0 rfl rfl 0 (by decide) fl7 (fun _ h9 => h9) rfl dX4_hearNow_59 ?_
      refine lv_bipush (v := (11 : Int32)) hx hb dX4_hearNow_62 (by decide) ?_
      refine va_ialdK hx hb hK hP 1 0 rfl rfl (inK (by decide)) (j := 11) (by decide) dX4_hearNow_64 ?_
      refine lv_goto (tgt := 70) hx hb dX4_hearNow_65 (by decide) ?_
      have hF : some ((q_51 11), q_51) = some (r, o_w) := hF
      have hP9 := hP
      have hD9 := hD
      cases hF
      subst hQ
      subst hAe
      exact W.iret hx hb hr (fun t ht hW => ⟨⟨_, (), rfl, rfl, ⟨by rw [ht]; exact hP9, hD9⟩⟩, hS.F ht⟩) hS.2.2 dX4_hearNow_70
  have B25 : ∀ (x1_25 : Int32) (x2_25 : Int32) (s0_25 : Int32) (v_w_25 : (Nat → Int32)), f_X4_hearNow_25 x1_25 x2_25 s0_25 v_w_25 = some (r, o_w) → ∀ (H : Heap) (locs : List Loc), va_P (dC, dI) vwCl [(aM, .inr (4, [.ref a_w, .ref a_past, .int v_pastMany, .ref a_images, .int v_filled, .ref a_text, .int v_length, .int v_faultKind, .int v_faultPlace, .ref a_rowOf, .int v_rows, .int v_wrongKind, .int v_wrongPlace, .int v_readWords, .int v_readPassages, .ref a_readLetter, .ref a_readCue, .ref a_readPassage, .ref a_held])), (a_w, .inl (cI, 510, .inl v_w_25)), (a_past, .inl (cI, 4080, .inl v_past)), (a_images, .inl (cI, 1020, .inl v_images)), (a_text, .inl (cI, 140, .inl v_text)), (a_rowOf, .inl (cI, 120, .inl v_rowOf)), (a_readLetter, .inl (cI, 120, .inl v_readLetter)), (a_readCue, .inl (cI, 120, .inl v_readCue)), (a_readPassage, .inl (cI, 120, .inl v_readPassage)), (a_held, .inl (cI, 510, .inl v_held))] H → va_D A [(aM, .inr (4, [.ref a_w, .ref a_past, .int v_pastMany, .ref a_images, .int v_filled, .ref a_text, .int v_length, .int v_faultKind, .int v_faultPlace, .ref a_rowOf, .int v_rows, .int v_wrongKind, .int v_wrongPlace, .int v_readWords, .int v_readPassages, .ref a_readLetter, .ref a_readCue, .ref a_readPassage, .ref a_held])), (a_w, .inl (cI, 510, .inl v_w_25)), (a_past, .inl (cI, 4080, .inl v_past)), (a_images, .inl (cI, 1020, .inl v_images)), (a_text, .inl (cI, 140, .inl v_text)), (a_rowOf, .inl (cI, 120, .inl v_rowOf)), (a_readLetter, .inl (cI, 120, .inl v_readLetter)), (a_readCue, .inl (cI, 120, .inl v_readCue)), (a_readPassage, .inl (cI, 120, .inl v_readPassage)), (a_held, .inl (cI, 510, .inl v_held))] → va_S A s.heap H locs → ∀ ls : Array Slot, lv_has ls 4 [(0, .ref aM), (1, .int x1_25), (2, .int x2_25)] → W p l e (headSpec wsX4_hearNow rm_X4_hearNow).room s m ([.ref aM, .int p1] : List Value).toArray below meth c H locs 0 0 Q (F0 m 25 ls [.int s0_25]) := by
    intro x1_25 x2_25 s0_25 v_w_25 hF H locs hP hD hS ls hl
    unfold f_X4_hearNow_25 at hF
    refine lv_istore_n (lv' := [(3, .int s0_25), (0, .ref aM), (1, .int x1_25), (2, .int x2_25)]) hx hb dX4_hearNow_25 rfl hl (by decide) rfl (fun ls hl => ?_)
    refine lv_iload_n hx hb dX4_hearNow_26 rfl (lv_at hl 0 rfl) ?_
    refine lv_if_eq (tgt := 38) hx hb dX4_hearNow_27 (by decide) (fun c_27 => ?_) (fun c_27 => ?_)
    · have hF := (if_pos c_27).symm.trans hF
      refine lv_aload_n hx hb dX4_hearNow_38 rfl (lv_at hl 1 rfl) ?_
      refine va_get (D := (dC, dI)) (ci := 4) (v := .ref a_w) (C := RX4) (T := TX4) (N := 19) hx hb hts inX4 hown hK hP 0 rfl rfl 0 (by decide) fl7 (fun _ h9 => h9) rfl dX4_hearNow_39 ?_
      refine lv_bipush (v := (17 : Int32)) hx hb dX4_hearNow_42 (by decide) ?_
      refine lv_dup2_11 hx hb dX4_hearNow_44 rfl rfl ?_
      refine va_ialdK hx hb hK hP 1 0 rfl rfl (inK (by decide)) (j := 17) (by decide) dX4_hearNow_45 ?_
      refine lv_iconst (v := (1 : Int32)) hx hb dX4_hearNow_46 (by decide) ?_
      refine lv_iadd hx hb dX4_hearNow_47 ?_
      refine va_iastK hx hb hK hP hD hS 1 0 rfl rfl (inK (by decide)) (j := 17) (by decide) dX4_hearNow_48 (fun H locs hP hD hS => ?_)
      have hP : va_P (dC, dI) vwCl [(aM, .inr (4, [.ref a_w, .ref a_past, .int v_pastMany, .ref a_images, .int v_filled, .ref a_text, .int v_length, .int v_faultKind, .int v_faultPlace, .ref a_rowOf, .int v_rows, .int v_wrongKind, .int v_wrongPlace, .int v_readWords, .int v_readPassages, .ref a_readLetter, .ref a_readCue, .ref a_readPassage, .ref a_held])), (a_w, .inl (cI, 510, .inl (upd v_w_25 17 ((v_w_25 17) + (1 : Int32))))), (a_past, .inl (cI, 4080, .inl v_past)), (a_images, .inl (cI, 1020, .inl v_images)), (a_text, .inl (cI, 140, .inl v_text)), (a_rowOf, .inl (cI, 120, .inl v_rowOf)), (a_readLetter, .inl (cI, 120, .inl v_readLetter)), (a_readCue, .inl (cI, 120, .inl v_readCue)), (a_readPassage, .inl (cI, 120, .inl v_readPassage)), (a_held, .inl (cI, 510, .inl v_held))] H := hP
      have hD : va_D A [(aM, .inr (4, [.ref a_w, .ref a_past, .int v_pastMany, .ref a_images, .int v_filled, .ref a_text, .int v_length, .int v_faultKind, .int v_faultPlace, .ref a_rowOf, .int v_rows, .int v_wrongKind, .int v_wrongPlace, .int v_readWords, .int v_readPassages, .ref a_readLetter, .ref a_readCue, .ref a_readPassage, .ref a_held])), (a_w, .inl (cI, 510, .inl (upd v_w_25 17 ((v_w_25 17) + (1 : Int32))))), (a_past, .inl (cI, 4080, .inl v_past)), (a_images, .inl (cI, 1020, .inl v_images)), (a_text, .inl (cI, 140, .inl v_text)), (a_rowOf, .inl (cI, 120, .inl v_rowOf)), (a_readLetter, .inl (cI, 120, .inl v_readLetter)), (a_readCue, .inl (cI, 120, .inl v_readCue)), (a_readPassage, .inl (cI, 120, .inl v_readPassage)), (a_held, .inl (cI, 510, .inl v_held))] := hD
      exact B49 x1_25 s0_25 (upd v_w_25 17 ((v_w_25 17) + (1 : Int32))) hF _ _ hP hD hS _ (lv_sub hl [1, 2, 0] rfl)
    · have hF := (if_neg c_27).symm.trans hF
      refine lv_aload_n hx hb dX4_hearNow_30 rfl (lv_at hl 1 rfl) ?_
      refine lv_iload_n hx hb dX4_hearNow_31 rfl (lv_at hl 3 rfl) ?_
      obtain ⟨q_32, hq_32, hF⟩ := bindE hF
      have hPc := hP
      have hDc := hD
      have hFc := va_free (wc := [(aM, .inr (4, [.ref a_w, .ref a_past, .int v_pastMany, .ref a_images, .int v_filled, .ref a_text, .int v_length, .int v_faultKind, .int v_faultPlace, .ref a_rowOf, .int v_rows, .int v_wrongKind, .int v_wrongPlace, .int v_readWords, .int v_readPassages, .ref a_readLetter, .ref a_readCue, .ref a_readPassage, .ref a_held])), (a_w, .inl (cI, 510, .inl v_w_25)), (a_past, .inl (cI, 4080, .inl v_past)), (a_images, .inl (cI, 1020, .inl v_images)), (a_text, .inl (cI, 140, .inl v_text)), (a_rowOf, .inl (cI, 120, .inl v_rowOf)), (a_readLetter, .inl (cI, 120, .inl v_readLetter)), (a_readCue, .inl (cI, 120, .inl v_readCue)), (a_readPassage, .inl (cI, 120, .inl v_readPassage)), (a_held, .inl (cI, 510, .inl v_held))]) hD hS hA [0, 1, 2, 3, 4, 5, 6, 7, 8, 9] rfl
      refine va_callv (va_runV (As := [.int x2_25]) (rest := []) ⟨hx, hb, hml, hown, hts⟩ (c_X4_follow l dC dI cI cZ cO aM a_w a_past a_images a_text a_rowOf a_readLetter a_readCue a_readPassage a_held H.size x2_25 v_w_25 v_past v_pastMany v_images v_filled v_text v_length v_faultKind v_faultPlace v_rowOf v_rows v_wrongKind v_wrongPlace v_readWords v_readPassages v_readLetter v_readCue v_readPassage v_held q_32 hq_32) (cwV 1 hts gX4_hearNow_X4_follow rfl rfl rfl (by decide +kernel) ⟨Nat.le_of_ble_eq_true rfl, Nat.le_of_ble_eq_true rfl⟩) ⟨fb_wr, va_recv hK hPc (ci := 4) (q0 := 0) rfl rfl, pre_wr hPc hK hN hDc⟩ rfl rfl hl.1 rfl (lv_room (Nat.le_of_ble_eq_true rfl)) dX4_hearNow_32 ⟨Nat.zero_le _, Nat.zero_le _⟩) hS (fun q _ h => hFc q h) hFc (fun _ t H1 locs ht hvm hw hB hz1 hk1 hS => ?_)
      obtain ⟨hP1, hD1⟩ := hB
      rw [ht] at hP1
      obtain ⟨hP, hD⟩ := va_join (wr := []) (w1 := [(aM, .inr (4, [.ref a_w, .ref a_past, .int v_pastMany, .ref a_images, .int v_filled, .ref a_text, .int v_length, .int v_faultKind, .int v_faultPlace, .ref a_rowOf, .int v_rows, .int v_wrongKind, .int v_wrongPlace, .int v_readWords, .int v_readPassages, .ref a_readLetter, .ref a_readCue, .ref a_readPassage, .ref a_held])), (a_w, .inl (cI, 510, .inl q_32)), (a_past, .inl (cI, 4080, .inl v_past)), (a_images, .inl (cI, 1020, .inl v_images)), (a_text, .inl (cI, 140, .inl v_text)), (a_rowOf, .inl (cI, 120, .inl v_rowOf)), (a_readLetter, .inl (cI, 120, .inl v_readLetter)), (a_readCue, .inl (cI, 120, .inl v_readCue)), (a_readPassage, .inl (cI, 120, .inl v_readPassage)), (a_held, .inl (cI, 510, .inl v_held))]) hP hD [0, 1, 2, 3, 4, 5, 6, 7, 8, 9] [] rfl rfl (by decide) (by decide) hk1 hFc hP1 hD1
      generalize H1 = H at hP hS ⊢
      have hP : va_P (dC, dI) vwCl [(aM, .inr (4, [.ref a_w, .ref a_past, .int v_pastMany, .ref a_images, .int v_filled, .ref a_text, .int v_length, .int v_faultKind, .int v_faultPlace, .ref a_rowOf, .int v_rows, .int v_wrongKind, .int v_wrongPlace, .int v_readWords, .int v_readPassages, .ref a_readLetter, .ref a_readCue, .ref a_readPassage, .ref a_held])), (a_w, .inl (cI, 510, .inl q_32)), (a_past, .inl (cI, 4080, .inl v_past)), (a_images, .inl (cI, 1020, .inl v_images)), (a_text, .inl (cI, 140, .inl v_text)), (a_rowOf, .inl (cI, 120, .inl v_rowOf)), (a_readLetter, .inl (cI, 120, .inl v_readLetter)), (a_readCue, .inl (cI, 120, .inl v_readCue)), (a_readPassage, .inl (cI, 120, .inl v_readPassage)), (a_held, .inl (cI, 510, .inl v_held))] H := hP
      have hD : va_D A [(aM, .inr (4, [.ref a_w, .ref a_past, .int v_pastMany, .ref a_images, .int v_filled, .ref a_text, .int v_length, .int v_faultKind, .int v_faultPlace, .ref a_rowOf, .int v_rows, .int v_wrongKind, .int v_wrongPlace, .int v_readWords, .int v_readPassages, .ref a_readLetter, .ref a_readCue, .ref a_readPassage, .ref a_held])), (a_w, .inl (cI, 510, .inl q_32)), (a_past, .inl (cI, 4080, .inl v_past)), (a_images, .inl (cI, 1020, .inl v_images)), (a_text, .inl (cI, 140, .inl v_text)), (a_rowOf, .inl (cI, 120, .inl v_rowOf)), (a_readLetter, .inl (cI, 120, .inl v_readLetter)), (a_readCue, .inl (cI, 120, .inl v_readCue)), (a_readPassage, .inl (cI, 120, .inl v_readPassage)), (a_held, .inl (cI, 510, .inl v_held))] := hD
      refine lv_goto (tgt := 49) hx hb dX4_hearNow_35 (by decide) ?_
      exact B49 x1_25 s0_25 q_32 hF _ _ hP hD hS _ (lv_sub hl [1, 2, 0] rfl)
  have B24 : ∀ (x1_24 : Int32) (x2_24 : Int32) (v_w_24 : (Nat → Int32)), f_X4_hearNow_24 x1_24 x2_24 v_w_24 = some (r, o_w) → ∀ (H : Heap) (locs : List Loc), va_P (dC, dI) vwCl [(aM, .inr (4, [.ref a_w, .ref a_past, .int v_pastMany, .ref a_images, .int v_filled, .ref a_text, .int v_length, .int v_faultKind, .int v_faultPlace, .ref a_rowOf, .int v_rows, .int v_wrongKind, .int v_wrongPlace, .int v_readWords, .int v_readPassages, .ref a_readLetter, .ref a_readCue, .ref a_readPassage, .ref a_held])), (a_w, .inl (cI, 510, .inl v_w_24)), (a_past, .inl (cI, 4080, .inl v_past)), (a_images, .inl (cI, 1020, .inl v_images)), (a_text, .inl (cI, 140, .inl v_text)), (a_rowOf, .inl (cI, 120, .inl v_rowOf)), (a_readLetter, .inl (cI, 120, .inl v_readLetter)), (a_readCue, .inl (cI, 120, .inl v_readCue)), (a_readPassage, .inl (cI, 120, .inl v_readPassage)), (a_held, .inl (cI, 510, .inl v_held))] H → va_D A [(aM, .inr (4, [.ref a_w, .ref a_past, .int v_pastMany, .ref a_images, .int v_filled, .ref a_text, .int v_length, .int v_faultKind, .int v_faultPlace, .ref a_rowOf, .int v_rows, .int v_wrongKind, .int v_wrongPlace, .int v_readWords, .int v_readPassages, .ref a_readLetter, .ref a_readCue, .ref a_readPassage, .ref a_held])), (a_w, .inl (cI, 510, .inl v_w_24)), (a_past, .inl (cI, 4080, .inl v_past)), (a_images, .inl (cI, 1020, .inl v_images)), (a_text, .inl (cI, 140, .inl v_text)), (a_rowOf, .inl (cI, 120, .inl v_rowOf)), (a_readLetter, .inl (cI, 120, .inl v_readLetter)), (a_readCue, .inl (cI, 120, .inl v_readCue)), (a_readPassage, .inl (cI, 120, .inl v_readPassage)), (a_held, .inl (cI, 510, .inl v_held))] → va_S A s.heap H locs → ∀ ls : Array Slot, lv_has ls 4 [(0, .ref aM), (1, .int x1_24), (2, .int x2_24)] → W p l e (headSpec wsX4_hearNow rm_X4_hearNow).room s m ([.ref aM, .int p1] : List Value).toArray below meth c H locs 0 0 Q (F0 m 24 ls []) := by
    intro x1_24 x2_24 v_w_24 hF H locs hP hD hS ls hl
    unfold f_X4_hearNow_24 at hF
    refine lv_iconst (v := (0 : Int32)) hx hb dX4_hearNow_24 (by decide) ?_
    exact B25 x1_24 x2_24 (0 : Int32) v_w_24 hF _ _ hP hD hS _ (lv_sub hl [0, 1, 2] rfl)
  unfold f_X4_hearNow at hF
  refine lv_aload_n hx hb dX4_hearNow_0 rfl (lv_at hl 0 rfl) ?_
  refine lv_iload_n hx hb dX4_hearNow_1 rfl (lv_at hl 1 rfl) ?_
  obtain ⟨q_2, hq_2, hF⟩ := bindE hF
  have hPc := hP
  refine vp_callSi (va_Run.run (va_runV (As := [.int p1]) (rest := []) ⟨hx, hb, hml, hown, hts⟩ (c_X4_bestOf l dC dI cI cZ cO aM a_w a_past a_images a_text a_rowOf a_readLetter a_readCue a_readPassage a_held p1 v_w v_past v_pastMany v_images v_filled v_text v_length v_faultKind v_faultPlace v_rowOf v_rows v_wrongKind v_wrongPlace v_readWords v_readPassages v_readLetter v_readCue v_readPassage v_held q_2 hq_2) (cwV 1 hts gX4_hearNow_X4_bestOf rfl rfl rfl (by decide +kernel) ⟨Nat.le_of_ble_eq_true rfl, Nat.le_of_ble_eq_true rfl⟩) ⟨fb_rd, va_recv hK hPc (ci := 4) (q0 := 0) rfl rfl, pre_rd hPc hK hN⟩ rfl rfl hl.1 rfl (lv_room (Nat.le_of_ble_eq_true rfl)) dX4_hearNow_2 ⟨Nat.zero_le _, Nat.zero_le _⟩)) (fun z_2 hz_2 => ?_)
  subst hz_2
  refine lv_istore_n (lv' := [(2, .int q_2), (0, .ref aM), (1, .int p1)]) hx hb dX4_hearNow_5 rfl hl (by decide) rfl (fun ls hl => ?_)
  refine lv_iload_n hx hb dX4_hearNow_6 rfl (lv_at hl 0 rfl) ?_
  refine lv_bipush (v := (-9 : Int32)) hx hb dX4_hearNow_7 (by decide) ?_
  refine lv_icmp_eq (tgt := 24) hx hb dX4_hearNow_9 (by decide) (fun c_9 => ?_) (fun c_9 => ?_)
  · have hF := (if_pos c_9).symm.trans hF
    exact B24 p1 q_2 v_w hF _ _ hP hD hS _ (lv_sub hl [1, 2, 0] rfl)
  · have hF := (if_neg c_9).symm.trans hF
    refine lv_aload_n hx hb dX4_hearNow_12 rfl (lv_at hl 1 rfl) ?_
    refine lv_iload_n hx hb dX4_hearNow_13 rfl (lv_at hl 0 rfl) ?_
    obtain ⟨q_14, hq_14, hF⟩ := bindE hF
    have hPc := hP
    refine vp_callSi (va_Run.run (va_runV (As := [.int q_2]) (rest := []) ⟨hx, hb, hml, hown, hts⟩ (c_X4_isAccepted l dC dI cI cZ cO aM a_w a_past a_images a_text a_rowOf a_readLetter a_readCue a_readPassage a_held q_2 v_w v_past v_pastMany v_images v_filled v_text v_length v_faultKind v_faultPlace v_rowOf v_rows v_wrongKind v_wrongPlace v_readWords v_readPassages v_readLetter v_readCue v_readPassage v_held q_14 hq_14) (cwV 1 hts gX4_hearNow_X4_isAccepted rfl rfl rfl (by decide +kernel) ⟨Nat.le_of_ble_eq_true rfl, Nat.le_of_ble_eq_true rfl⟩) ⟨fb_rd, va_recv hK hPc (ci := 4) (q0 := 0) rfl rfl, pre_rd hPc hK hN⟩ rfl rfl hl.1 rfl (lv_room (Nat.le_of_ble_eq_true rfl)) dX4_hearNow_14 ⟨Nat.zero_le _, Nat.zero_le _⟩)) (fun z_14 hz_14 => ?_)
    subst hz_14
    refine lv_if_eq (tgt := 24) hx hb dX4_hearNow_17 (by decide) (fun c_17 => ?_) (fun c_17 => ?_)
    · have hF := (if_pos c_17).symm.trans hF
      exact B24 p1 q_2 v_w hF _ _ hP hD hS _ (lv_sub hl [1, 2, 0] rfl)
    · have hF := (if_neg c_17).symm.trans hF
      refine lv_iconst (v := (1 : Int32)) hx hb dX4_hearNow_20 (by decide) ?_
      refine lv_goto (tgt := 25) hx hb dX4_hearNow_21 (by decide) ?_
      exact B25 p1 q_2 (1 : Int32) v_w hF _ _ hP hD hS _ (lv_sub hl [1, 2, 0] rfl)
def f_X4_tickOnce_77 (v_rowOf : (Nat → Int32)) (s1 : Int32) (s2 : Int32) (s3 : Int32) (v_w : (Nat → Int32)) : Option (Nat → Int32) :=
  if s1 < 0 ∨ 510 ≤ s1.toNatClampNeg then none else
    (some (upd v_w s1.toNatClampNeg (s2 + s3))).bind fun a78 =>
    (f_X4_estimated a78).bind fun q84 =>
    if q84 < 0 ∨ 120 ≤ q84.toNatClampNeg then none else
    (f_X4_isShown (v_rowOf q84.toNatClampNeg) a78).bind fun q91 =>
    if q91 = (0 : Int32) then
      if (a78 14) ≤ ((100 : Int32) * (v_rowOf q84.toNatClampNeg)) then
        (some (upd a78 14 (((100 : Int32) * (v_rowOf q84.toNatClampNeg)) - ((100 : Int32) * ((a78 1) - (1 : Int32)))))).bind fun a140 =>
        (some (upd a140 18 ((a140 18) + (1 : Int32)))).bind fun a151 =>
        some a151
      else
        (some (upd a78 14 ((100 : Int32) * (v_rowOf q84.toNatClampNeg)))).bind fun a140 =>
        (some (upd a140 18 ((a140 18) + (1 : Int32)))).bind fun a151 =>
        some a151
    else
      some a78
def f_X4_tickOnce (v_w : (Nat → Int32)) (v_rowOf : (Nat → Int32)) (v_rows : Int32) : Option (Nat → Int32) :=
  (some (upd v_w 10 ((v_w 10) + (1 : Int32)))).bind fun a10 =>
  (f_X4_desired a10 v_rowOf v_rows).bind fun q12 =>
  if (q12 - (a10 14)) ≤ (a10 7) then
    if (-(a10 7)) ≤ (q12 - (a10 14)) then
      f_X4_tickOnce_77 v_rowOf (14 : Int32) (a10 14) (q12 - (a10 14)) a10
    else
      f_X4_tickOnce_77 v_rowOf (14 : Int32) (a10 14) (-(a10 7)) a10
  else
    f_X4_tickOnce_77 v_rowOf (14 : Int32) (a10 14) (a10 7) a10
def rm_X4_tickOnce : Room := { frames := 3, cells := 0, slots := 0, locals := 64 }
set_option maxHeartbeats 4000000 in
set_option maxRecDepth 100000 in
theorem c_X4_tickOnce (l : Launch) (dC : Nat → ClassId) (dI : Nat → Nat → Nat) (cI cZ cO : ClassId) (aM a_w a_past a_images a_text a_rowOf a_readLetter a_readCue a_readPassage a_held : Nat) (sz : Nat) (v_w : (Nat → Int32)) (v_past : (Nat → Int32)) (v_pastMany : Int32) (v_images : (Nat → Int32)) (v_filled : Int32) (v_text : (Nat → Int32)) (v_length : Int32) (v_faultKind : Int32) (v_faultPlace : Int32) (v_rowOf : (Nat → Int32)) (v_rows : Int32) (v_wrongKind : Int32) (v_wrongPlace : Int32) (v_readWords : Int32) (v_readPassages : Int32) (v_readLetter : (Nat → Int32)) (v_readCue : (Nat → Int32)) (v_readPassage : (Nat → Int32)) (v_held : (Nat → Int32)) (o_w : (Nat → Int32)) (hF : f_X4_tickOnce v_w v_rowOf v_rows = some o_w) : Met l yX4_tickOnce wsX4_tickOnce rm_X4_tickOnce (va_Pc [.ref aM] (wrW dC dI cI cZ cO sz [(aM, .inr (4, [.ref a_w, .ref a_past, .int v_pastMany, .ref a_images, .int v_filled, .ref a_text, .int v_length, .int v_faultKind, .int v_faultPlace, .ref a_rowOf, .int v_rows, .int v_wrongKind, .int v_wrongPlace, .int v_readWords, .int v_readPassages, .ref a_readLetter, .ref a_readCue, .ref a_readPassage, .ref a_held])), (a_w, .inl (cI, 510, .inl v_w)), (a_past, .inl (cI, 4080, .inl v_past)), (a_images, .inl (cI, 1020, .inl v_images)), (a_text, .inl (cI, 140, .inl v_text)), (a_rowOf, .inl (cI, 120, .inl v_rowOf)), (a_readLetter, .inl (cI, 120, .inl v_readLetter)), (a_readCue, .inl (cI, 120, .inl v_readCue)), (a_readPassage, .inl (cI, 120, .inl v_readPassage)), (a_held, .inl (cI, 510, .inl v_held))])) (va_Qv (fun (_ : Unit) => True) (wrE dC dI [(aM, .inr (4, [.ref a_w, .ref a_past, .int v_pastMany, .ref a_images, .int v_filled, .ref a_text, .int v_length, .int v_faultKind, .int v_faultPlace, .ref a_rowOf, .int v_rows, .int v_wrongKind, .int v_wrongPlace, .int v_readWords, .int v_readPassages, .ref a_readLetter, .ref a_readCue, .ref a_readPassage, .ref a_held])), (a_w, .inl (cI, 510, .inl v_w)), (a_past, .inl (cI, 4080, .inl v_past)), (a_images, .inl (cI, 1020, .inl v_images)), (a_text, .inl (cI, 140, .inl v_text)), (a_rowOf, .inl (cI, 120, .inl v_rowOf)), (a_readLetter, .inl (cI, 120, .inl v_readLetter)), (a_readCue, .inl (cI, 120, .inl v_readCue)), (a_readPassage, .inl (cI, 120, .inl v_readPassage)), (a_held, .inl (cI, 510, .inl v_held))] sz [(aM, .inr (4, [.ref a_w, .ref a_past, .int v_pastMany, .ref a_images, .int v_filled, .ref a_text, .int v_length, .int v_faultKind, .int v_faultPlace, .ref a_rowOf, .int v_rows, .int v_wrongKind, .int v_wrongPlace, .int v_readWords, .int v_readPassages, .ref a_readLetter, .ref a_readCue, .ref a_readPassage, .ref a_held])), (a_w, .inl (cI, 510, .inl o_w)), (a_past, .inl (cI, 4080, .inl v_past)), (a_images, .inl (cI, 1020, .inl v_images)), (a_text, .inl (cI, 140, .inl v_text)), (a_rowOf, .inl (cI, 120, .inl v_rowOf)), (a_readLetter, .inl (cI, 120, .inl v_readLetter)), (a_readCue, .inl (cI, 120, .inl v_readCue)), (a_readPassage, .inl (cI, 120, .inl v_readPassage)), (a_held, .inl (cI, 510, .inl v_held))]) (va_A [(aM, .inr (4, [.ref a_w, .ref a_past, .int v_pastMany, .ref a_images, .int v_filled, .ref a_text, .int v_length, .int v_faultKind, .int v_faultPlace, .ref a_rowOf, .int v_rows, .int v_wrongKind, .int v_wrongPlace, .int v_readWords, .int v_readPassages, .ref a_readLetter, .ref a_readCue, .ref a_readPassage, .ref a_held])), (a_w, .inl (cI, 510, .inl v_w)), (a_past, .inl (cI, 4080, .inl v_past)), (a_images, .inl (cI, 1020, .inl v_images)), (a_text, .inl (cI, 140, .inl v_text)), (a_rowOf, .inl (cI, 120, .inl v_rowOf)), (a_readLetter, .inl (cI, 120, .inl v_readLetter)), (a_readCue, .inl (cI, 120, .inl v_readCue)), (a_readPassage, .inl (cI, 120, .inl v_readPassage)), (a_held, .inl (cI, 510, .inl v_held))] sz)) 0 0 (va_A [(aM, .inr (4, [.ref a_w, .ref a_past, .int v_pastMany, .ref a_images, .int v_filled, .ref a_text, .int v_length, .int v_faultKind, .int v_faultPlace, .ref a_rowOf, .int v_rows, .int v_wrongKind, .int v_wrongPlace, .int v_readWords, .int v_readPassages, .ref a_readLetter, .ref a_readCue, .ref a_readPassage, .ref a_held])), (a_w, .inl (cI, 510, .inl v_w)), (a_past, .inl (cI, 4080, .inl v_past)), (a_images, .inl (cI, 1020, .inl v_images)), (a_text, .inl (cI, 140, .inl v_text)), (a_rowOf, .inl (cI, 120, .inl v_rowOf)), (a_readLetter, .inl (cI, 120, .inl v_readLetter)), (a_readCue, .inl (cI, 120, .inl v_readCue)), (a_readPassage, .inl (cI, 120, .inl v_readPassage)), (a_held, .inl (cI, 510, .inl v_held))] sz) := by
  refine Met.ofW (cc := cX4_tickOnce) (maxL := 3) (ret := none) (by decide) rfl ?_
  intro p e s m args below meth c s₁ B hml hv
  obtain ⟨rfl, hsz, hP, hK, hN, hD0⟩ := hv
  have hx := B.exec
  have hb := B.bytes
  have hr := B.returns
  have hts := atoms_spec (ws := wsX4_tickOnce) B.pre
  have hown : s.vm.findClass RX4 = some m.cls := findClass_of_methodNamed B.named
  have hlocks := B.notSynchronized
  subst hsz
  have hD := hD0.self (sz := s.heap.size)
  obtain ⟨Q, hQ⟩ : ∃ Q, Q = MQ below (va_Qv (fun (_ : Unit) => True) (wrE dC dI [(aM, .inr (4, [.ref a_w, .ref a_past, .int v_pastMany, .ref a_images, .int v_filled, .ref a_text, .int v_length, .int v_faultKind, .int v_faultPlace, .ref a_rowOf, .int v_rows, .int v_wrongKind, .int v_wrongPlace, .int v_readWords, .int v_readPassages, .ref a_readLetter, .ref a_readCue, .ref a_readPassage, .ref a_held])), (a_w, .inl (cI, 510, .inl v_w)), (a_past, .inl (cI, 4080, .inl v_past)), (a_images, .inl (cI, 1020, .inl v_images)), (a_text, .inl (cI, 140, .inl v_text)), (a_rowOf, .inl (cI, 120, .inl v_rowOf)), (a_readLetter, .inl (cI, 120, .inl v_readLetter)), (a_readCue, .inl (cI, 120, .inl v_readCue)), (a_readPassage, .inl (cI, 120, .inl v_readPassage)), (a_held, .inl (cI, 510, .inl v_held))] s.heap.size [(aM, .inr (4, [.ref a_w, .ref a_past, .int v_pastMany, .ref a_images, .int v_filled, .ref a_text, .int v_length, .int v_faultKind, .int v_faultPlace, .ref a_rowOf, .int v_rows, .int v_wrongKind, .int v_wrongPlace, .int v_readWords, .int v_readPassages, .ref a_readLetter, .ref a_readCue, .ref a_readPassage, .ref a_held])), (a_w, .inl (cI, 510, .inl o_w)), (a_past, .inl (cI, 4080, .inl v_past)), (a_images, .inl (cI, 1020, .inl v_images)), (a_text, .inl (cI, 140, .inl v_text)), (a_rowOf, .inl (cI, 120, .inl v_rowOf)), (a_readLetter, .inl (cI, 120, .inl v_readLetter)), (a_readCue, .inl (cI, 120, .inl v_readCue)), (a_readPassage, .inl (cI, 120, .inl v_readPassage)), (a_held, .inl (cI, 510, .inl v_held))]) (va_A [(aM, .inr (4, [.ref a_w, .ref a_past, .int v_pastMany, .ref a_images, .int v_filled, .ref a_text, .int v_length, .int v_faultKind, .int v_faultPlace, .ref a_rowOf, .int v_rows, .int v_wrongKind, .int v_wrongPlace, .int v_readWords, .int v_readPassages, .ref a_readLetter, .ref a_readCue, .ref a_readPassage, .ref a_held])), (a_w, .inl (cI, 510, .inl v_w)), (a_past, .inl (cI, 4080, .inl v_past)), (a_images, .inl (cI, 1020, .inl v_images)), (a_text, .inl (cI, 140, .inl v_text)), (a_rowOf, .inl (cI, 120, .inl v_rowOf)), (a_readLetter, .inl (cI, 120, .inl v_readLetter)), (a_readCue, .inl (cI, 120, .inl v_readCue)), (a_readPassage, .inl (cI, 120, .inl v_readPassage)), (a_held, .inl (cI, 510, .inl v_held))] s.heap.size)) ([.ref aM] : List Value).toArray s 0 0 (va_A [(aM, .inr (4, [.ref a_w, .ref a_past, .int v_pastMany, .ref a_images, .int v_filled, .ref a_text, .int v_length, .int v_faultKind, .int v_faultPlace, .ref a_rowOf, .int v_rows, .int v_wrongKind, .int v_wrongPlace, .int v_readWords, .int v_readPassages, .ref a_readLetter, .ref a_readCue, .ref a_readPassage, .ref a_held])), (a_w, .inl (cI, 510, .inl v_w)), (a_past, .inl (cI, 4080, .inl v_past)), (a_images, .inl (cI, 1020, .inl v_images)), (a_text, .inl (cI, 140, .inl v_text)), (a_rowOf, .inl (cI, 120, .inl v_rowOf)), (a_readLetter, .inl (cI, 120, .inl v_readLetter)), (a_readCue, .inl (cI, 120, .inl v_readCue)), (a_readPassage, .inl (cI, 120, .inl v_readPassage)), (a_held, .inl (cI, 510, .inl v_held))] s.heap.size) := ⟨_, rfl⟩
  rw [← hQ]
  obtain ⟨A, hAe⟩ : ∃ A, A = va_A [(aM, .inr (4, [.ref a_w, .ref a_past, .int v_pastMany, .ref a_images, .int v_filled, .ref a_text, .int v_length, .int v_faultKind, .int v_faultPlace, .ref a_rowOf, .int v_rows, .int v_wrongKind, .int v_wrongPlace, .int v_readWords, .int v_readPassages, .ref a_readLetter, .ref a_readCue, .ref a_readPassage, .ref a_held])), (a_w, .inl (cI, 510, .inl v_w)), (a_past, .inl (cI, 4080, .inl v_past)), (a_images, .inl (cI, 1020, .inl v_images)), (a_text, .inl (cI, 140, .inl v_text)), (a_rowOf, .inl (cI, 120, .inl v_rowOf)), (a_readLetter, .inl (cI, 120, .inl v_readLetter)), (a_readCue, .inl (cI, 120, .inl v_readCue)), (a_readPassage, .inl (cI, 120, .inl v_readPassage)), (a_held, .inl (cI, 510, .inl v_held))] s.heap.size := ⟨_, rfl⟩
  rw [← hAe] at hD
  have hA : ∀ q : Nat, s.heap.size ≤ q → A q := fun q h => by rw [hAe]; exact Or.inr h
  obtain ⟨H, hH⟩ : ∃ H, H = s.heap := ⟨_, rfl⟩
  have hS : va_S A s.heap H [] := by rw [hH]; exact va_S.rf
  rw [← hH] at hP
  rw [← hH]
  have fl29 := hts (.fieldLink RX4 29 "TeleprompterModel" "rowOf" "[I") (by decide +kernel)
  have fl7 := hts (.fieldLink RX4 7 "TeleprompterModel" "w" "[I") (by decide +kernel)
  have inX4 : ∀ w ∈ u_ws RX4 TX4 19, w ∈ wsX4_tickOnce := by decide +kernel
  have hl := lv_entry ([.ref aM]) (n := 3) (Nat.le_of_ble_eq_true rfl)
  rw [lg_entry_eq]
  generalize (lg_sl ([.ref aM]) ++ List.replicate (3 - (lg_sl ([.ref aM])).length) Slot.unset).toArray = ls at hl ⊢
  have hl : lv_has ls 3 [(0, .ref aM)] := hl
  have B77 : ∀ (s1_77 : Int32) (s2_77 : Int32) (s3_77 : Int32) (v_w_77 : (Nat → Int32)), f_X4_tickOnce_77 v_rowOf s1_77 s2_77 s3_77 v_w_77 = some o_w → ∀ (H : Heap) (locs : List Loc), va_P (dC, dI) vwCl [(aM, .inr (4, [.ref a_w, .ref a_past, .int v_pastMany, .ref a_images, .int v_filled, .ref a_text, .int v_length, .int v_faultKind, .int v_faultPlace, .ref a_rowOf, .int v_rows, .int v_wrongKind, .int v_wrongPlace, .int v_readWords, .int v_readPassages, .ref a_readLetter, .ref a_readCue, .ref a_readPassage, .ref a_held])), (a_w, .inl (cI, 510, .inl v_w_77)), (a_past, .inl (cI, 4080, .inl v_past)), (a_images, .inl (cI, 1020, .inl v_images)), (a_text, .inl (cI, 140, .inl v_text)), (a_rowOf, .inl (cI, 120, .inl v_rowOf)), (a_readLetter, .inl (cI, 120, .inl v_readLetter)), (a_readCue, .inl (cI, 120, .inl v_readCue)), (a_readPassage, .inl (cI, 120, .inl v_readPassage)), (a_held, .inl (cI, 510, .inl v_held))] H → va_D A [(aM, .inr (4, [.ref a_w, .ref a_past, .int v_pastMany, .ref a_images, .int v_filled, .ref a_text, .int v_length, .int v_faultKind, .int v_faultPlace, .ref a_rowOf, .int v_rows, .int v_wrongKind, .int v_wrongPlace, .int v_readWords, .int v_readPassages, .ref a_readLetter, .ref a_readCue, .ref a_readPassage, .ref a_held])), (a_w, .inl (cI, 510, .inl v_w_77)), (a_past, .inl (cI, 4080, .inl v_past)), (a_images, .inl (cI, 1020, .inl v_images)), (a_text, .inl (cI, 140, .inl v_text)), (a_rowOf, .inl (cI, 120, .inl v_rowOf)), (a_readLetter, .inl (cI, 120, .inl v_readLetter)), (a_readCue, .inl (cI, 120, .inl v_readCue)), (a_readPassage, .inl (cI, 120, .inl v_readPassage)), (a_held, .inl (cI, 510, .inl v_held))] → va_S A s.heap H locs → ∀ ls : Array Slot, lv_has ls 3 [(0, .ref aM)] → W p l e (headSpec wsX4_tickOnce rm_X4_tickOnce).room s m ([.ref aM] : List Value).toArray below meth c H locs 0 0 Q (F0 m 77 ls [.int s3_77, .int s2_77, .int s1_77, .ref a_w]) := by
    intro s1_77 s2_77 s3_77 v_w_77 hF H locs hP hD hS ls hl
    unfold f_X4_tickOnce_77 at hF
    refine lv_iadd hx hb dX4_tickOnce_77 ?_
    by_cases b_78 : (s1_77 < 0 ∨ 510 ≤ s1_77.toNatClampNeg)
    · exact noneE ((if_pos b_78).symm.trans hF)
    have hF := (if_neg b_78).symm.trans hF
    refine va_iast hx hb hK hP hD hS 1 0 rfl rfl b_78 dX4_tickOnce_78 (fun H locs hP hD hS => ?_)
    have hP : va_P (dC, dI) vwCl [(aM, .inr (4, [.ref a_w, .ref a_past, .int v_pastMany, .ref a_images, .int v_filled, .ref a_text, .int v_length, .int v_faultKind, .int v_faultPlace, .ref a_rowOf, .int v_rows, .int v_wrongKind, .int v_wrongPlace, .int v_readWords, .int v_readPassages, .ref a_readLetter, .ref a_readCue, .ref a_readPassage, .ref a_held])), (a_w, .inl (cI, 510, .inl (upd v_w_77 s1_77.toNatClampNeg (s2_77 + s3_77)))), (a_past, .inl (cI, 4080, .inl v_past)), (a_images, .inl (cI, 1020, .inl v_images)), (a_text, .inl (cI, 140, .inl v_text)), (a_rowOf, .inl (cI, 120, .inl v_rowOf)), (a_readLetter, .inl (cI, 120, .inl v_readLetter)), (a_readCue, .inl (cI, 120, .inl v_readCue)), (a_readPassage, .inl (cI, 120, .inl v_readPassage)), (a_held, .inl (cI, 510, .inl v_held))] H := hP
    have hD : va_D A [(aM, .inr (4, [.ref a_w, .ref a_past, .int v_pastMany, .ref a_images, .int v_filled, .ref a_text, .int v_length, .int v_faultKind, .int v_faultPlace, .ref a_rowOf, .int v_rows, .int v_wrongKind, .int v_wrongPlace, .int v_readWords, .int v_readPassages, .ref a_readLetter, .ref a_readCue, .ref a_readPassage, .ref a_held])), (a_w, .inl (cI, 510, .inl (upd v_w_77 s1_77.toNatClampNeg (s2_77 + s3_77)))), (a_past, .inl (cI, 4080, .inl v_past)), (a_images, .inl (cI, 1020, .inl v_images)), (a_text, .inl (cI, 140, .inl v_text)), (a_rowOf, .inl (cI, 120, .inl v_rowOf)), (a_readLetter, .inl (cI, 120, .inl v_readLetter)), (a_readCue, .inl (cI, 120, .inl v_readCue)), (a_readPassage, .inl (cI, 120, .inl v_readPassage)), (a_held, .inl (cI, 510, .inl v_held))] := hD
    obtain ⟨a_78, ha_78, hF⟩ := bindE hF
    have ha_78 := Option.some.inj ha_78
    rw [ha_78] at hP hD
    refine lv_aload_n hx hb dX4_tickOnce_79 rfl (lv_at hl 0 rfl) ?_
    refine va_get (D := (dC, dI)) (ci := 4) (v := .ref a_rowOf) (C := RX4) (T := TX4) (N := 19) hx hb hts inX4 hown hK hP 0 rfl rfl 9 (by decide) fl29 (fun _ h9 => h9) rfl dX4_tickOnce_80 ?_
    refine lv_aload_n hx hb dX4_tickOnce_83 rfl (lv_at hl 0 rfl) ?_
    obtain ⟨q_84, hq_84, hF⟩ := bindE hF
    have hPc := hP
    refine vp_callSi (va_Run.run (va_runV (As := []) (rest := [.ref a_rowOf]) ⟨hx, hb, hml, hown, hts⟩ (c_X4_estimated l dC dI cI cZ cO aM a_w a_past a_images a_text a_rowOf a_readLetter a_readCue a_readPassage a_held a_78 v_past v_pastMany v_images v_filled v_text v_length v_faultKind v_faultPlace v_rowOf v_rows v_wrongKind v_wrongPlace v_readWords v_readPassages v_readLetter v_readCue v_readPassage v_held q_84 hq_84) (cwV 0 hts gX4_tickOnce_X4_estimated rfl rfl rfl (by decide +kernel) ⟨Nat.le_of_ble_eq_true rfl, Nat.le_of_ble_eq_true rfl⟩) ⟨fb_rd, va_recv hK hPc (ci := 4) (q0 := 0) rfl rfl, pre_rd hPc hK hN⟩ rfl rfl hl.1 rfl (lv_room (Nat.le_of_ble_eq_true rfl)) dX4_tickOnce_84 ⟨Nat.zero_le _, Nat.zero_le _⟩)) (fun z_84 hz_84 => ?_)
    subst hz_84
    by_cases b_87 : (q_84 < 0 ∨ 120 ≤ q_84.toNatClampNeg)
    · exact noneE ((if_pos b_87).symm.trans hF)
    have hF := (if_neg b_87).symm.trans hF
    refine va_iald hx hb hK hP 5 0 rfl rfl b_87 dX4_tickOnce_87 ?_
    refine lv_istore_n (lv' := [(2, .int (v_rowOf q_84.toNatClampNeg)), (0, .ref aM)]) hx hb dX4_tickOnce_88 rfl hl (by decide) rfl (fun ls hl => ?_)
    refine lv_aload_n hx hb dX4_tickOnce_89 rfl (lv_at hl 1 rfl) ?_
    refine lv_iload_n hx hb dX4_tickOnce_90 rfl (lv_at hl 0 rfl) ?_
    obtain ⟨q_91, hq_91, hF⟩ := bindE hF
    have hPc := hP
    refine vp_callSi (va_Run.run (va_runV (As := [.int (v_rowOf q_84.toNatClampNeg)]) (rest := []) ⟨hx, hb, hml, hown, hts⟩ (c_X4_isShown l dC dI cI cZ cO aM a_w a_past a_images a_text a_rowOf a_readLetter a_readCue a_readPassage a_held (v_rowOf q_84.toNatClampNeg) a_78 v_past v_pastMany v_images v_filled v_text v_length v_faultKind v_faultPlace v_rowOf v_rows v_wrongKind v_wrongPlace v_readWords v_readPassages v_readLetter v_readCue v_readPassage v_held q_91 hq_91) (cwV 1 hts gX4_tickOnce_X4_isShown rfl rfl rfl (by decide +kernel) ⟨Nat.le_of_ble_eq_true rfl, Nat.le_of_ble_eq_true rfl⟩) ⟨fb_rd, va_recv hK hPc (ci := 4) (q0 := 0) rfl rfl, pre_rd hPc hK hN⟩ rfl rfl hl.1 rfl (lv_room (Nat.le_of_ble_eq_true rfl)) dX4_tickOnce_91 ⟨Nat.zero_le _, Nat.zero_le _⟩)) (fun z_91 hz_91 => ?_)
    subst hz_91
    refine lv_if_ne (tgt := 152) hx hb dX4_tickOnce_94 (by decide) (fun c_94 => ?_) (fun c_94 => ?_)
    · have hF := (if_neg c_94).symm.trans hF
      have hF : some a_78 = some o_w := hF
      have hP9 := hP
      have hD9 := hD
      cases hF
      subst hQ
      subst hAe
      exact W.vret hx hb hr (fun t ht hW => ⟨⟨(), rfl, trivial, ⟨by rw [ht]; exact hP9, hD9⟩⟩, hS.F ht⟩) hS.2.2 dX4_tickOnce_152
    · have hF := (if_pos c_94).symm.trans hF
      refine lv_aload_n hx hb dX4_tickOnce_97 rfl (lv_at hl 1 rfl) ?_
      refine va_get (D := (dC, dI)) (ci := 4) (v := .ref a_w) (C := RX4) (T := TX4) (N := 19) hx hb hts inX4 hown hK hP 0 rfl rfl 0 (by decide) fl7 (fun _ h9 => h9) rfl dX4_tickOnce_98 ?_
      refine lv_bipush (v := (14 : Int32)) hx hb dX4_tickOnce_101 (by decide) ?_
      refine lv_bipush (v := (100 : Int32)) hx hb dX4_tickOnce_103 (by decide) ?_
      refine lv_iload_n hx hb dX4_tickOnce_105 rfl (lv_at hl 0 rfl) ?_
      refine lv_imul hx hb dX4_tickOnce_106 ?_
      refine lv_aload_n hx hb dX4_tickOnce_107 rfl (lv_at hl 1 rfl) ?_
      refine va_get (D := (dC, dI)) (ci := 4) (v := .ref a_w) (C := RX4) (T := TX4) (N := 19) hx hb hts inX4 hown hK hP 0 rfl rfl 0 (by decide) fl7 (fun _ h9 => h9) rfl dX4_tickOnce_108 ?_
      refine lv_bipush (v := (14 : Int32)) hx hb dX4_tickOnce_111 (by decide) ?_
      refine va_ialdK hx hb hK hP 1 0 rfl rfl (inK (by decide)) (j := 14) (by decide) dX4_tickOnce_113 ?_
      refine lv_icmp_ge (tgt := 124) hx hb dX4_tickOnce_114 (by decide) (fun c_114 => ?_) (fun c_114 => ?_)
      · have hF := (if_pos c_114).symm.trans hF
        refine lv_bipush (v := (100 : Int32)) hx hb dX4_tickOnce_124 (by decide) ?_
        refine lv_iload_n hx hb dX4_tickOnce_126 rfl (lv_at hl 0 rfl) ?_
        refine lv_imul hx hb dX4_tickOnce_127 ?_
        refine lv_bipush (v := (100 : Int32)) hx hb dX4_tickOnce_128 (by decide) ?_
        refine lv_aload_n hx hb dX4_tickOnce_130 rfl (lv_at hl 1 rfl) ?_
        refine va_get (D := (dC, dI)) (ci := 4) (v := .ref a_w) (C := RX4) (T := TX4) (N := 19) hx hb hts inX4 hown hK hP 0 rfl rfl 0 (by decide) fl7 (fun _ h9 => h9) rfl dX4_tickOnce_131 ?_
        refine lv_iconst (v := (1 : Int32)) hx hb dX4_tickOnce_134 (by decide) ?_
        refine va_ialdK hx hb hK hP 1 0 rfl rfl (inK (by decide)) (j := 1) (by decide) dX4_tickOnce_135 ?_
        refine lv_iconst (v := (1 : Int32)) hx hb dX4_tickOnce_136 (by decide) ?_
        refine lv_isub hx hb dX4_tickOnce_137 ?_
        refine lv_imul hx hb dX4_tickOnce_138 ?_
        refine lv_isub hx hb dX4_tickOnce_139 ?_
        refine va_iastK hx hb hK hP hD hS 1 0 rfl rfl (inK (by decide)) (j := 14) (by decide) dX4_tickOnce_140 (fun H locs hP hD hS => ?_)
        have hP : va_P (dC, dI) vwCl [(aM, .inr (4, [.ref a_w, .ref a_past, .int v_pastMany, .ref a_images, .int v_filled, .ref a_text, .int v_length, .int v_faultKind, .int v_faultPlace, .ref a_rowOf, .int v_rows, .int v_wrongKind, .int v_wrongPlace, .int v_readWords, .int v_readPassages, .ref a_readLetter, .ref a_readCue, .ref a_readPassage, .ref a_held])), (a_w, .inl (cI, 510, .inl (upd a_78 14 (((100 : Int32) * (v_rowOf q_84.toNatClampNeg)) - ((100 : Int32) * ((a_78 1) - (1 : Int32))))))), (a_past, .inl (cI, 4080, .inl v_past)), (a_images, .inl (cI, 1020, .inl v_images)), (a_text, .inl (cI, 140, .inl v_text)), (a_rowOf, .inl (cI, 120, .inl v_rowOf)), (a_readLetter, .inl (cI, 120, .inl v_readLetter)), (a_readCue, .inl (cI, 120, .inl v_readCue)), (a_readPassage, .inl (cI, 120, .inl v_readPassage)), (a_held, .inl (cI, 510, .inl v_held))] H := hP
        have hD : va_D A [(aM, .inr (4, [.ref a_w, .ref a_past, .int v_pastMany, .ref a_images, .int v_filled, .ref a_text, .int v_length, .int v_faultKind, .int v_faultPlace, .ref a_rowOf, .int v_rows, .int v_wrongKind, .int v_wrongPlace, .int v_readWords, .int v_readPassages, .ref a_readLetter, .ref a_readCue, .ref a_readPassage, .ref a_held])), (a_w, .inl (cI, 510, .inl (upd a_78 14 (((100 : Int32) * (v_rowOf q_84.toNatClampNeg)) - ((100 : Int32) * ((a_78 1) - (1 : Int32))))))), (a_past, .inl (cI, 4080, .inl v_past)), (a_images, .inl (cI, 1020, .inl v_images)), (a_text, .inl (cI, 140, .inl v_text)), (a_rowOf, .inl (cI, 120, .inl v_rowOf)), (a_readLetter, .inl (cI, 120, .inl v_readLetter)), (a_readCue, .inl (cI, 120, .inl v_readCue)), (a_readPassage, .inl (cI, 120, .inl v_readPassage)), (a_held, .inl (cI, 510, .inl v_held))] := hD
        obtain ⟨a_140, ha_140, hF⟩ := bindE hF
        have ha_140 := Option.some.inj ha_140
        rw [ha_140] at hP hD
        refine lv_aload_n hx hb dX4_tickOnce_141 rfl (lv_at hl 1 rfl) ?_
        refine va_get (D := (dC, dI)) (ci := 4) (v := .ref a_w) (C := RX4) (T := TX4) (N := 19) hx hb hts inX4 hown hK hP 0 rfl rfl 0 (by decide) fl7 (fun _ h9 => h9) rfl dX4_tickOnce_142 ?_
        refine lv_bipush (v := (18 : Int32)) hx hb dX4_tickOnce_145 (by decide) ?_
        refine lv_dup2_11 hx hb dX4_tickOnce_147 rfl rfl ?_
        refine va_ialdK hx hb hK hP 1 0 rfl rfl (inK (by decide)) (j := 18) (by decide) dX4_tickOnce_148 ?_
        refine lv_iconst (v := (1 : Int32)) hx hb dX4_tickOnce_149 (by decide) ?_
        refine lv_iadd hx hb dX4_tickOnce_150 ?_
        refine va_iastK hx hb hK hP hD hS 1 0 rfl rfl (inK (by decide)) (j := 18) (by decide) dX4_tickOnce_151 (fun H locs hP hD hS => ?_)
        have hP : va_P (dC, dI) vwCl [(aM, .inr (4, [.ref a_w, .ref a_past, .int v_pastMany, .ref a_images, .int v_filled, .ref a_text, .int v_length, .int v_faultKind, .int v_faultPlace, .ref a_rowOf, .int v_rows, .int v_wrongKind, .int v_wrongPlace, .int v_readWords, .int v_readPassages, .ref a_readLetter, .ref a_readCue, .ref a_readPassage, .ref a_held])), (a_w, .inl (cI, 510, .inl (upd a_140 18 ((a_140 18) + (1 : Int32))))), (a_past, .inl (cI, 4080, .inl v_past)), (a_images, .inl (cI, 1020, .inl v_images)), (a_text, .inl (cI, 140, .inl v_text)), (a_rowOf, .inl (cI, 120, .inl v_rowOf)), (a_readLetter, .inl (cI, 120, .inl v_readLetter)), (a_readCue, .inl (cI, 120, .inl v_readCue)), (a_readPassage, .inl (cI, 120, .inl v_readPassage)), (a_held, .inl (cI, 510, .inl v_held))] H := hP
        have hD : va_D A [(aM, .inr (4, [.ref a_w, .ref a_past, .int v_pastMany, .ref a_images, .int v_filled, .ref a_text, .int v_length, .int v_faultKind, .int v_faultPlace, .ref a_rowOf, .int v_rows, .int v_wrongKind, .int v_wrongPlace, .int v_readWords, .int v_readPassages, .ref a_readLetter, .ref a_readCue, .ref a_readPassage, .ref a_held])), (a_w, .inl (cI, 510, .inl (upd a_140 18 ((a_140 18) + (1 : Int32))))), (a_past, .inl (cI, 4080, .inl v_past)), (a_images, .inl (cI, 1020, .inl v_images)), (a_text, .inl (cI, 140, .inl v_text)), (a_rowOf, .inl (cI, 120, .inl v_rowOf)), (a_readLetter, .inl (cI, 120, .inl v_readLetter)), (a_readCue, .inl (cI, 120, .inl v_readCue)), (a_readPassage, .inl (cI, 120, .inl v_readPassage)), (a_held, .inl (cI, 510, .inl v_held))] := hD
        obtain ⟨a_151, ha_151, hF⟩ := bindE hF
        have ha_151 := Option.some.inj ha_151
        rw [ha_151] at hP hD
        have hF : some a_151 = some o_w := hF
        have hP9 := hP
        have hD9 := hD
        cases hF
        subst hQ
        subst hAe
        exact W.vret hx hb hr (fun t ht hW => ⟨⟨(), rfl, trivial, ⟨by rw [ht]; exact hP9, hD9⟩⟩, hS.F ht⟩) hS.2.2 dX4_tickOnce_152
      · have hF := (if_neg c_114).symm.trans hF
        refine lv_bipush (v := (100 : Int32)) hx hb dX4_tickOnce_117 (by decide) ?_
        refine lv_iload_n hx hb dX4_tickOnce_119 rfl (lv_at hl 0 rfl) ?_
        refine lv_imul hx hb dX4_tickOnce_120 ?_
        refine lv_goto (tgt := 140) hx hb dX4_tickOnce_121 (by decide) ?_
        refine va_iastK hx hb hK hP hD hS 1 0 rfl rfl (inK (by decide)) (j := 14) (by decide) dX4_tickOnce_140 (fun H locs hP hD hS => ?_)
        have hP : va_P (dC, dI) vwCl [(aM, .inr (4, [.ref a_w, .ref a_past, .int v_pastMany, .ref a_images, .int v_filled, .ref a_text, .int v_length, .int v_faultKind, .int v_faultPlace, .ref a_rowOf, .int v_rows, .int v_wrongKind, .int v_wrongPlace, .int v_readWords, .int v_readPassages, .ref a_readLetter, .ref a_readCue, .ref a_readPassage, .ref a_held])), (a_w, .inl (cI, 510, .inl (upd a_78 14 ((100 : Int32) * (v_rowOf q_84.toNatClampNeg))))), (a_past, .inl (cI, 4080, .inl v_past)), (a_images, .inl (cI, 1020, .inl v_images)), (a_text, .inl (cI, 140, .inl v_text)), (a_rowOf, .inl (cI, 120, .inl v_rowOf)), (a_readLetter, .inl (cI, 120, .inl v_readLetter)), (a_readCue, .inl (cI, 120, .inl v_readCue)), (a_readPassage, .inl (cI, 120, .inl v_readPassage)), (a_held, .inl (cI, 510, .inl v_held))] H := hP
        have hD : va_D A [(aM, .inr (4, [.ref a_w, .ref a_past, .int v_pastMany, .ref a_images, .int v_filled, .ref a_text, .int v_length, .int v_faultKind, .int v_faultPlace, .ref a_rowOf, .int v_rows, .int v_wrongKind, .int v_wrongPlace, .int v_readWords, .int v_readPassages, .ref a_readLetter, .ref a_readCue, .ref a_readPassage, .ref a_held])), (a_w, .inl (cI, 510, .inl (upd a_78 14 ((100 : Int32) * (v_rowOf q_84.toNatClampNeg))))), (a_past, .inl (cI, 4080, .inl v_past)), (a_images, .inl (cI, 1020, .inl v_images)), (a_text, .inl (cI, 140, .inl v_text)), (a_rowOf, .inl (cI, 120, .inl v_rowOf)), (a_readLetter, .inl (cI, 120, .inl v_readLetter)), (a_readCue, .inl (cI, 120, .inl v_readCue)), (a_readPassage, .inl (cI, 120, .inl v_readPassage)), (a_held, .inl (cI, 510, .inl v_held))] := hD
        obtain ⟨a_140, ha_140, hF⟩ := bindE hF
        have ha_140 := Option.some.inj ha_140
        rw [ha_140] at hP hD
        refine lv_aload_n hx hb dX4_tickOnce_141 rfl (lv_at hl 1 rfl) ?_
        refine va_get (D := (dC, dI)) (ci := 4) (v := .ref a_w) (C := RX4) (T := TX4) (N := 19) hx hb hts inX4 hown hK hP 0 rfl rfl 0 (by decide) fl7 (fun _ h9 => h9) rfl dX4_tickOnce_142 ?_
        refine lv_bipush (v := (18 : Int32)) hx hb dX4_tickOnce_145 (by decide) ?_
        refine lv_dup2_11 hx hb dX4_tickOnce_147 rfl rfl ?_
        refine va_ialdK hx hb hK hP 1 0 rfl rfl (inK (by decide)) (j := 18) (by decide) dX4_tickOnce_148 ?_
        refine lv_iconst (v := (1 : Int32)) hx hb dX4_tickOnce_149 (by decide) ?_
        refine lv_iadd hx hb dX4_tickOnce_150 ?_
        refine va_iastK hx hb hK hP hD hS 1 0 rfl rfl (inK (by decide)) (j := 18) (by decide) dX4_tickOnce_151 (fun H locs hP hD hS => ?_)
        have hP : va_P (dC, dI) vwCl [(aM, .inr (4, [.ref a_w, .ref a_past, .int v_pastMany, .ref a_images, .int v_filled, .ref a_text, .int v_length, .int v_faultKind, .int v_faultPlace, .ref a_rowOf, .int v_rows, .int v_wrongKind, .int v_wrongPlace, .int v_readWords, .int v_readPassages, .ref a_readLetter, .ref a_readCue, .ref a_readPassage, .ref a_held])), (a_w, .inl (cI, 510, .inl (upd a_140 18 ((a_140 18) + (1 : Int32))))), (a_past, .inl (cI, 4080, .inl v_past)), (a_images, .inl (cI, 1020, .inl v_images)), (a_text, .inl (cI, 140, .inl v_text)), (a_rowOf, .inl (cI, 120, .inl v_rowOf)), (a_readLetter, .inl (cI, 120, .inl v_readLetter)), (a_readCue, .inl (cI, 120, .inl v_readCue)), (a_readPassage, .inl (cI, 120, .inl v_readPassage)), (a_held, .inl (cI, 510, .inl v_held))] H := hP
        have hD : va_D A [(aM, .inr (4, [.ref a_w, .ref a_past, .int v_pastMany, .ref a_images, .int v_filled, .ref a_text, .int v_length, .int v_faultKind, .int v_faultPlace, .ref a_rowOf, .int v_rows, .int v_wrongKind, .int v_wrongPlace, .int v_readWords, .int v_readPassages, .ref a_readLetter, .ref a_readCue, .ref a_readPassage, .ref a_held])), (a_w, .inl (cI, 510, .inl (upd a_140 18 ((a_140 18) + (1 : Int32))))), (a_past, .inl (cI, 4080, .inl v_past)), (a_images, .inl (cI, 1020, .inl v_images)), (a_text, .inl (cI, 140, .inl v_text)), (a_rowOf, .inl (cI, 120, .inl v_rowOf)), (a_readLetter, .inl (cI, 120, .inl v_readLetter)), (a_readCue, .inl (cI, 120, .inl v_readCue)), (a_readPassage, .inl (cI, 120, .inl v_readPassage)), (a_held, .inl (cI, 510, .inl v_held))] := hD
        obtain ⟨a_151, ha_151, hF⟩ := bindE hF
        have ha_151 := Option.some.inj ha_151
        rw [ha_151] at hP hD
        have hF : some a_151 = some o_w := hF
        have hP9 := hP
        have hD9 := hD
        cases hF
        subst hQ
        subst hAe
        exact W.vret hx hb hr (fun t ht hW => ⟨⟨(), rfl, trivial, ⟨by rw [ht]; exact hP9, hD9⟩⟩, hS.F ht⟩) hS.2.2 dX4_tickOnce_152
  unfold f_X4_tickOnce at hF
  refine lv_aload_n hx hb dX4_tickOnce_0 rfl (lv_at hl 0 rfl) ?_
  refine va_get (D := (dC, dI)) (ci := 4) (v := .ref a_w) (C := RX4) (T := TX4) (N := 19) hx hb hts inX4 hown hK hP 0 rfl rfl 0 (by decide) fl7 (fun _ h9 => h9) rfl dX4_tickOnce_1 ?_
  refine lv_bipush (v := (10 : Int32)) hx hb dX4_tickOnce_4 (by decide) ?_
  refine lv_dup2_11 hx hb dX4_tickOnce_6 rfl rfl ?_
  refine va_ialdK hx hb hK hP 1 0 rfl rfl (inK (by decide)) (j := 10) (by decide) dX4_tickOnce_7 ?_
  refine lv_iconst (v := (1 : Int32)) hx hb dX4_tickOnce_8 (by decide) ?_
  refine lv_iadd hx hb dX4_tickOnce_9 ?_
  refine va_iastK hx hb hK hP hD hS 1 0 rfl rfl (inK (by decide)) (j := 10) (by decide) dX4_tickOnce_10 (fun H locs hP hD hS => ?_)
  have hP : va_P (dC, dI) vwCl [(aM, .inr (4, [.ref a_w, .ref a_past, .int v_pastMany, .ref a_images, .int v_filled, .ref a_text, .int v_length, .int v_faultKind, .int v_faultPlace, .ref a_rowOf, .int v_rows, .int v_wrongKind, .int v_wrongPlace, .int v_readWords, .int v_readPassages, .ref a_readLetter, .ref a_readCue, .ref a_readPassage, .ref a_held])), (a_w, .inl (cI, 510, .inl (upd v_w 10 ((v_w 10) + (1 : Int32))))), (a_past, .inl (cI, 4080, .inl v_past)), (a_images, .inl (cI, 1020, .inl v_images)), (a_text, .inl (cI, 140, .inl v_text)), (a_rowOf, .inl (cI, 120, .inl v_rowOf)), (a_readLetter, .inl (cI, 120, .inl v_readLetter)), (a_readCue, .inl (cI, 120, .inl v_readCue)), (a_readPassage, .inl (cI, 120, .inl v_readPassage)), (a_held, .inl (cI, 510, .inl v_held))] H := hP
  have hD : va_D A [(aM, .inr (4, [.ref a_w, .ref a_past, .int v_pastMany, .ref a_images, .int v_filled, .ref a_text, .int v_length, .int v_faultKind, .int v_faultPlace, .ref a_rowOf, .int v_rows, .int v_wrongKind, .int v_wrongPlace, .int v_readWords, .int v_readPassages, .ref a_readLetter, .ref a_readCue, .ref a_readPassage, .ref a_held])), (a_w, .inl (cI, 510, .inl (upd v_w 10 ((v_w 10) + (1 : Int32))))), (a_past, .inl (cI, 4080, .inl v_past)), (a_images, .inl (cI, 1020, .inl v_images)), (a_text, .inl (cI, 140, .inl v_text)), (a_rowOf, .inl (cI, 120, .inl v_rowOf)), (a_readLetter, .inl (cI, 120, .inl v_readLetter)), (a_readCue, .inl (cI, 120, .inl v_readCue)), (a_readPassage, .inl (cI, 120, .inl v_readPassage)), (a_held, .inl (cI, 510, .inl v_held))] := hD
  obtain ⟨a_10, ha_10, hF⟩ := bindE hF
  have ha_10 := Option.some.inj ha_10
  rw [ha_10] at hP hD
  refine lv_aload_n hx hb dX4_tickOnce_11 rfl (lv_at hl 0 rfl) ?_
  obtain ⟨q_12, hq_12, hF⟩ := bindE hF
  have hPc := hP
  refine vp_callSi (va_Run.run (va_runV (As := []) (rest := []) ⟨hx, hb, hml, hown, hts⟩ (c_X4_desired l dC dI cI cZ cO aM a_w a_past a_images a_text a_rowOf a_readLetter a_readCue a_readPassage a_held a_10 v_past v_pastMany v_images v_filled v_text v_length v_faultKind v_faultPlace v_rowOf v_rows v_wrongKind v_wrongPlace v_readWords v_readPassages v_readLetter v_readCue v_readPassage v_held q_12 hq_12) (cwV 0 hts gX4_tickOnce_X4_desired rfl rfl rfl (by decide +kernel) ⟨Nat.le_of_ble_eq_true rfl, Nat.le_of_ble_eq_true rfl⟩) ⟨fb_rd, va_recv hK hPc (ci := 4) (q0 := 0) rfl rfl, pre_rd hPc hK hN⟩ rfl rfl hl.1 rfl (lv_room (Nat.le_of_ble_eq_true rfl)) dX4_tickOnce_12 ⟨Nat.zero_le _, Nat.zero_le _⟩)) (fun z_12 hz_12 => ?_)
  subst hz_12
  refine lv_aload_n hx hb dX4_tickOnce_15 rfl (lv_at hl 0 rfl) ?_
  refine va_get (D := (dC, dI)) (ci := 4) (v := .ref a_w) (C := RX4) (T := TX4) (N := 19) hx hb hts inX4 hown hK hP 0 rfl rfl 0 (by decide) fl7 (fun _ h9 => h9) rfl dX4_tickOnce_16 ?_
  refine lv_bipush (v := (14 : Int32)) hx hb dX4_tickOnce_19 (by decide) ?_
  refine va_ialdK hx hb hK hP 1 0 rfl rfl (inK (by decide)) (j := 14) (by decide) dX4_tickOnce_21 ?_
  refine lv_isub hx hb dX4_tickOnce_22 ?_
  refine lv_istore_n (lv' := [(1, .int (q_12 - (a_10 14))), (0, .ref aM)]) hx hb dX4_tickOnce_23 rfl hl (by decide) rfl (fun ls hl => ?_)
  refine lv_aload_n hx hb dX4_tickOnce_24 rfl (lv_at hl 1 rfl) ?_
  refine va_get (D := (dC, dI)) (ci := 4) (v := .ref a_w) (C := RX4) (T := TX4) (N := 19) hx hb hts inX4 hown hK hP 0 rfl rfl 0 (by decide) fl7 (fun _ h9 => h9) rfl dX4_tickOnce_25 ?_
  refine lv_bipush (v := (14 : Int32)) hx hb dX4_tickOnce_28 (by decide) ?_
  refine lv_dup2_11 hx hb dX4_tickOnce_30 rfl rfl ?_
  refine va_ialdK hx hb hK hP 1 0 rfl rfl (inK (by decide)) (j := 14) (by decide) dX4_tickOnce_31 ?_
  refine lv_iload_n hx hb dX4_tickOnce_32 rfl (lv_at hl 0 rfl) ?_
  refine lv_aload_n hx hb dX4_tickOnce_33 rfl (lv_at hl 1 rfl) ?_
  refine va_get (D := (dC, dI)) (ci := 4) (v := .ref a_w) (C := RX4) (T := TX4) (N := 19) hx hb hts inX4 hown hK hP 0 rfl rfl 0 (by decide) fl7 (fun _ h9 => h9) rfl dX4_tickOnce_34 ?_
  refine lv_bipush (v := (7 : Int32)) hx hb dX4_tickOnce_37 (by decide) ?_
  refine va_ialdK hx hb hK hP 1 0 rfl rfl (inK (by decide)) (j := 7) (by decide) dX4_tickOnce_39 ?_
  refine lv_icmp_le (tgt := 53) hx hb dX4_tickOnce_40 (by decide) (fun c_40 => ?_) (fun c_40 => ?_)
  · have hF := (if_pos c_40).symm.trans hF
    refine lv_iload_n hx hb dX4_tickOnce_53 rfl (lv_at hl 0 rfl) ?_
    refine lv_aload_n hx hb dX4_tickOnce_54 rfl (lv_at hl 1 rfl) ?_
    refine va_get (D := (dC, dI)) (ci := 4) (v := .ref a_w) (C := RX4) (T := TX4) (N := 19) hx hb hts inX4 hown hK hP 0 rfl rfl 0 (by decide) fl7 (fun _ h9 => h9) rfl dX4_tickOnce_55 ?_
    refine lv_bipush (v := (7 : Int32)) hx hb dX4_tickOnce_58 (by decide) ?_
    refine va_ialdK hx hb hK hP 1 0 rfl rfl (inK (by decide)) (j := 7) (by decide) dX4_tickOnce_60 ?_
    refine lv_ineg hx hb dX4_tickOnce_61 ?_
    refine lv_icmp_ge (tgt := 76) hx hb dX4_tickOnce_62 (by decide) (fun c_62 => ?_) (fun c_62 => ?_)
    · have hF := (if_pos c_62).symm.trans hF
      refine lv_iload_n hx hb dX4_tickOnce_76 rfl (lv_at hl 0 rfl) ?_
      exact B77 (14 : Int32) (a_10 14) (q_12 - (a_10 14)) a_10 hF _ _ hP hD hS _ (lv_sub hl [1] rfl)
    · have hF := (if_neg c_62).symm.trans hF
      refine lv_aload_n hx hb dX4_tickOnce_65 rfl (lv_at hl 1 rfl) ?_
      refine va_get (D := (dC, dI)) (ci := 4) (v := .ref a_w) (C := RX4) (T := TX4) (N := 19) hx hb hts inX4 hown hK hP 0 rfl rfl 0 (by decide) fl7 (fun _ h9 => h9) rfl dX4_tickOnce_66 ?_
      refine lv_bipush (v := (7 : Int32)) hx hb dX4_tickOnce_69 (by decide) ?_
      refine va_ialdK hx hb hK hP 1 0 rfl rfl (inK (by decide)) (j := 7) (by decide) dX4_tickOnce_71 ?_
      refine lv_ineg hx hb dX4_tickOnce_72 ?_
      refine lv_goto (tgt := 77) hx hb dX4_tickOnce_73 (by decide) ?_
      exact B77 (14 : Int32) (a_10 14) (-(a_10 7)) a_10 hF _ _ hP hD hS _ (lv_sub hl [1] rfl)
  · have hF := (if_neg c_40).symm.trans hF
    refine lv_aload_n hx hb dX4_tickOnce_43 rfl (lv_at hl 1 rfl) ?_
    refine va_get (D := (dC, dI)) (ci := 4) (v := .ref a_w) (C := RX4) (T := TX4) (N := 19) hx hb hts inX4 hown hK hP 0 rfl rfl 0 (by decide) fl7 (fun _ h9 => h9) rfl dX4_tickOnce_44 ?_
    refine lv_bipush (v := (7 : Int32)) hx hb dX4_tickOnce_47 (by decide) ?_
    refine va_ialdK hx hb hK hP 1 0 rfl rfl (inK (by decide)) (j := 7) (by decide) dX4_tickOnce_49 ?_
    refine lv_goto (tgt := 77) hx hb dX4_tickOnce_50 (by decide) ?_
    exact B77 (14 : Int32) (a_10 14) (a_10 7) a_10 hF _ _ hP hD hS _ (lv_sub hl [1] rfl)
def f_X4_releaseNext (v_w : (Nat → Int32)) : Option (Int32 × (Nat → Int32)) :=
  (f_X4_nextCue v_w).bind fun q1 =>
  if ((270 : Int32) + q1) < 0 ∨ 510 ≤ (((270 : Int32) + q1)).toNatClampNeg then none else
  some (q1, (upd v_w ((((270 : Int32) + q1)).toNatClampNeg) (2 : Int32)))
def rm_X4_releaseNext : Room := { frames := 1, cells := 0, slots := 0, locals := 21 }
set_option maxHeartbeats 4000000 in
set_option maxRecDepth 100000 in
theorem c_X4_releaseNext (l : Launch) (dC : Nat → ClassId) (dI : Nat → Nat → Nat) (cI cZ cO : ClassId) (aM a_w a_past a_images a_text a_rowOf a_readLetter a_readCue a_readPassage a_held : Nat) (sz : Nat) (v_w : (Nat → Int32)) (v_past : (Nat → Int32)) (v_pastMany : Int32) (v_images : (Nat → Int32)) (v_filled : Int32) (v_text : (Nat → Int32)) (v_length : Int32) (v_faultKind : Int32) (v_faultPlace : Int32) (v_rowOf : (Nat → Int32)) (v_rows : Int32) (v_wrongKind : Int32) (v_wrongPlace : Int32) (v_readWords : Int32) (v_readPassages : Int32) (v_readLetter : (Nat → Int32)) (v_readCue : (Nat → Int32)) (v_readPassage : (Nat → Int32)) (v_held : (Nat → Int32)) (r : Int32) (o_w : (Nat → Int32)) (hF : f_X4_releaseNext v_w = some (r, o_w)) : Met l yX4_releaseNext wsX4_releaseNext rm_X4_releaseNext (va_Pc [.ref aM] (wrW dC dI cI cZ cO sz [(aM, .inr (4, [.ref a_w, .ref a_past, .int v_pastMany, .ref a_images, .int v_filled, .ref a_text, .int v_length, .int v_faultKind, .int v_faultPlace, .ref a_rowOf, .int v_rows, .int v_wrongKind, .int v_wrongPlace, .int v_readWords, .int v_readPassages, .ref a_readLetter, .ref a_readCue, .ref a_readPassage, .ref a_held])), (a_w, .inl (cI, 510, .inl v_w)), (a_past, .inl (cI, 4080, .inl v_past)), (a_images, .inl (cI, 1020, .inl v_images)), (a_text, .inl (cI, 140, .inl v_text)), (a_rowOf, .inl (cI, 120, .inl v_rowOf)), (a_readLetter, .inl (cI, 120, .inl v_readLetter)), (a_readCue, .inl (cI, 120, .inl v_readCue)), (a_readPassage, .inl (cI, 120, .inl v_readPassage)), (a_held, .inl (cI, 510, .inl v_held))])) (va_Qi (fun (q : Int32) (_ : Unit) => r = q) (wrE dC dI [(aM, .inr (4, [.ref a_w, .ref a_past, .int v_pastMany, .ref a_images, .int v_filled, .ref a_text, .int v_length, .int v_faultKind, .int v_faultPlace, .ref a_rowOf, .int v_rows, .int v_wrongKind, .int v_wrongPlace, .int v_readWords, .int v_readPassages, .ref a_readLetter, .ref a_readCue, .ref a_readPassage, .ref a_held])), (a_w, .inl (cI, 510, .inl v_w)), (a_past, .inl (cI, 4080, .inl v_past)), (a_images, .inl (cI, 1020, .inl v_images)), (a_text, .inl (cI, 140, .inl v_text)), (a_rowOf, .inl (cI, 120, .inl v_rowOf)), (a_readLetter, .inl (cI, 120, .inl v_readLetter)), (a_readCue, .inl (cI, 120, .inl v_readCue)), (a_readPassage, .inl (cI, 120, .inl v_readPassage)), (a_held, .inl (cI, 510, .inl v_held))] sz [(aM, .inr (4, [.ref a_w, .ref a_past, .int v_pastMany, .ref a_images, .int v_filled, .ref a_text, .int v_length, .int v_faultKind, .int v_faultPlace, .ref a_rowOf, .int v_rows, .int v_wrongKind, .int v_wrongPlace, .int v_readWords, .int v_readPassages, .ref a_readLetter, .ref a_readCue, .ref a_readPassage, .ref a_held])), (a_w, .inl (cI, 510, .inl o_w)), (a_past, .inl (cI, 4080, .inl v_past)), (a_images, .inl (cI, 1020, .inl v_images)), (a_text, .inl (cI, 140, .inl v_text)), (a_rowOf, .inl (cI, 120, .inl v_rowOf)), (a_readLetter, .inl (cI, 120, .inl v_readLetter)), (a_readCue, .inl (cI, 120, .inl v_readCue)), (a_readPassage, .inl (cI, 120, .inl v_readPassage)), (a_held, .inl (cI, 510, .inl v_held))]) (va_A [(aM, .inr (4, [.ref a_w, .ref a_past, .int v_pastMany, .ref a_images, .int v_filled, .ref a_text, .int v_length, .int v_faultKind, .int v_faultPlace, .ref a_rowOf, .int v_rows, .int v_wrongKind, .int v_wrongPlace, .int v_readWords, .int v_readPassages, .ref a_readLetter, .ref a_readCue, .ref a_readPassage, .ref a_held])), (a_w, .inl (cI, 510, .inl v_w)), (a_past, .inl (cI, 4080, .inl v_past)), (a_images, .inl (cI, 1020, .inl v_images)), (a_text, .inl (cI, 140, .inl v_text)), (a_rowOf, .inl (cI, 120, .inl v_rowOf)), (a_readLetter, .inl (cI, 120, .inl v_readLetter)), (a_readCue, .inl (cI, 120, .inl v_readCue)), (a_readPassage, .inl (cI, 120, .inl v_readPassage)), (a_held, .inl (cI, 510, .inl v_held))] sz)) 0 0 (va_A [(aM, .inr (4, [.ref a_w, .ref a_past, .int v_pastMany, .ref a_images, .int v_filled, .ref a_text, .int v_length, .int v_faultKind, .int v_faultPlace, .ref a_rowOf, .int v_rows, .int v_wrongKind, .int v_wrongPlace, .int v_readWords, .int v_readPassages, .ref a_readLetter, .ref a_readCue, .ref a_readPassage, .ref a_held])), (a_w, .inl (cI, 510, .inl v_w)), (a_past, .inl (cI, 4080, .inl v_past)), (a_images, .inl (cI, 1020, .inl v_images)), (a_text, .inl (cI, 140, .inl v_text)), (a_rowOf, .inl (cI, 120, .inl v_rowOf)), (a_readLetter, .inl (cI, 120, .inl v_readLetter)), (a_readCue, .inl (cI, 120, .inl v_readCue)), (a_readPassage, .inl (cI, 120, .inl v_readPassage)), (a_held, .inl (cI, 510, .inl v_held))] sz) := by
  refine Met.ofW (cc := cX4_releaseNext) (maxL := 2) (ret := (some .int)) (by decide) rfl ?_
  intro p e s m args below meth c s₁ B hml hv
  obtain ⟨rfl, hsz, hP, hK, hN, hD0⟩ := hv
  have hx := B.exec
  have hb := B.bytes
  have hr := B.returns
  have hts := atoms_spec (ws := wsX4_releaseNext) B.pre
  have hown : s.vm.findClass RX4 = some m.cls := findClass_of_methodNamed B.named
  have hlocks := B.notSynchronized
  subst hsz
  have hD := hD0.self (sz := s.heap.size)
  obtain ⟨Q, hQ⟩ : ∃ Q, Q = MQ below (va_Qi (fun (q : Int32) (_ : Unit) => r = q) (wrE dC dI [(aM, .inr (4, [.ref a_w, .ref a_past, .int v_pastMany, .ref a_images, .int v_filled, .ref a_text, .int v_length, .int v_faultKind, .int v_faultPlace, .ref a_rowOf, .int v_rows, .int v_wrongKind, .int v_wrongPlace, .int v_readWords, .int v_readPassages, .ref a_readLetter, .ref a_readCue, .ref a_readPassage, .ref a_held])), (a_w, .inl (cI, 510, .inl v_w)), (a_past, .inl (cI, 4080, .inl v_past)), (a_images, .inl (cI, 1020, .inl v_images)), (a_text, .inl (cI, 140, .inl v_text)), (a_rowOf, .inl (cI, 120, .inl v_rowOf)), (a_readLetter, .inl (cI, 120, .inl v_readLetter)), (a_readCue, .inl (cI, 120, .inl v_readCue)), (a_readPassage, .inl (cI, 120, .inl v_readPassage)), (a_held, .inl (cI, 510, .inl v_held))] s.heap.size [(aM, .inr (4, [.ref a_w, .ref a_past, .int v_pastMany, .ref a_images, .int v_filled, .ref a_text, .int v_length, .int v_faultKind, .int v_faultPlace, .ref a_rowOf, .int v_rows, .int v_wrongKind, .int v_wrongPlace, .int v_readWords, .int v_readPassages, .ref a_readLetter, .ref a_readCue, .ref a_readPassage, .ref a_held])), (a_w, .inl (cI, 510, .inl o_w)), (a_past, .inl (cI, 4080, .inl v_past)), (a_images, .inl (cI, 1020, .inl v_images)), (a_text, .inl (cI, 140, .inl v_text)), (a_rowOf, .inl (cI, 120, .inl v_rowOf)), (a_readLetter, .inl (cI, 120, .inl v_readLetter)), (a_readCue, .inl (cI, 120, .inl v_readCue)), (a_readPassage, .inl (cI, 120, .inl v_readPassage)), (a_held, .inl (cI, 510, .inl v_held))]) (va_A [(aM, .inr (4, [.ref a_w, .ref a_past, .int v_pastMany, .ref a_images, .int v_filled, .ref a_text, .int v_length, .int v_faultKind, .int v_faultPlace, .ref a_rowOf, .int v_rows, .int v_wrongKind, .int v_wrongPlace, .int v_readWords, .int v_readPassages, .ref a_readLetter, .ref a_readCue, .ref a_readPassage, .ref a_held])), (a_w, .inl (cI, 510, .inl v_w)), (a_past, .inl (cI, 4080, .inl v_past)), (a_images, .inl (cI, 1020, .inl v_images)), (a_text, .inl (cI, 140, .inl v_text)), (a_rowOf, .inl (cI, 120, .inl v_rowOf)), (a_readLetter, .inl (cI, 120, .inl v_readLetter)), (a_readCue, .inl (cI, 120, .inl v_readCue)), (a_readPassage, .inl (cI, 120, .inl v_readPassage)), (a_held, .inl (cI, 510, .inl v_held))] s.heap.size)) ([.ref aM] : List Value).toArray s 0 0 (va_A [(aM, .inr (4, [.ref a_w, .ref a_past, .int v_pastMany, .ref a_images, .int v_filled, .ref a_text, .int v_length, .int v_faultKind, .int v_faultPlace, .ref a_rowOf, .int v_rows, .int v_wrongKind, .int v_wrongPlace, .int v_readWords, .int v_readPassages, .ref a_readLetter, .ref a_readCue, .ref a_readPassage, .ref a_held])), (a_w, .inl (cI, 510, .inl v_w)), (a_past, .inl (cI, 4080, .inl v_past)), (a_images, .inl (cI, 1020, .inl v_images)), (a_text, .inl (cI, 140, .inl v_text)), (a_rowOf, .inl (cI, 120, .inl v_rowOf)), (a_readLetter, .inl (cI, 120, .inl v_readLetter)), (a_readCue, .inl (cI, 120, .inl v_readCue)), (a_readPassage, .inl (cI, 120, .inl v_readPassage)), (a_held, .inl (cI, 510, .inl v_held))] s.heap.size) := ⟨_, rfl⟩
  rw [← hQ]
  obtain ⟨A, hAe⟩ : ∃ A, A = va_A [(aM, .inr (4, [.ref a_w, .ref a_past, .int v_pastMany, .ref a_images, .int v_filled, .ref a_text, .int v_length, .int v_faultKind, .int v_faultPlace, .ref a_rowOf, .int v_rows, .int v_wrongKind, .int v_wrongPlace, .int v_readWords, .int v_readPassages, .ref a_readLetter, .ref a_readCue, .ref a_readPassage, .ref a_held])), (a_w, .inl (cI, 510, .inl v_w)), (a_past, .inl (cI, 4080, .inl v_past)), (a_images, .inl (cI, 1020, .inl v_images)), (a_text, .inl (cI, 140, .inl v_text)), (a_rowOf, .inl (cI, 120, .inl v_rowOf)), (a_readLetter, .inl (cI, 120, .inl v_readLetter)), (a_readCue, .inl (cI, 120, .inl v_readCue)), (a_readPassage, .inl (cI, 120, .inl v_readPassage)), (a_held, .inl (cI, 510, .inl v_held))] s.heap.size := ⟨_, rfl⟩
  rw [← hAe] at hD
  have hA : ∀ q : Nat, s.heap.size ≤ q → A q := fun q h => by rw [hAe]; exact Or.inr h
  obtain ⟨H, hH⟩ : ∃ H, H = s.heap := ⟨_, rfl⟩
  have hS : va_S A s.heap H [] := by rw [hH]; exact va_S.rf
  rw [← hH] at hP
  rw [← hH]
  have fl7 := hts (.fieldLink RX4 7 "TeleprompterModel" "w" "[I") (by decide +kernel)
  have inX4 : ∀ w ∈ u_ws RX4 TX4 19, w ∈ wsX4_releaseNext := by decide +kernel
  have hl := lv_entry ([.ref aM]) (n := 2) (Nat.le_of_ble_eq_true rfl)
  rw [lg_entry_eq]
  generalize (lg_sl ([.ref aM]) ++ List.replicate (2 - (lg_sl ([.ref aM])).length) Slot.unset).toArray = ls at hl ⊢
  have hl : lv_has ls 2 [(0, .ref aM)] := hl
  unfold f_X4_releaseNext at hF
  refine lv_aload_n hx hb dX4_releaseNext_0 rfl (lv_at hl 0 rfl) ?_
  obtain ⟨q_1, hq_1, hF⟩ := bindE hF
  have hPc := hP
  refine vp_callSi (va_Run.run (va_runV (As := []) (rest := []) ⟨hx, hb, hml, hown, hts⟩ (c_X4_nextCue l dC dI cI cZ cO aM a_w a_past a_images a_text a_rowOf a_readLetter a_readCue a_readPassage a_held v_w v_past v_pastMany v_images v_filled v_text v_length v_faultKind v_faultPlace v_rowOf v_rows v_wrongKind v_wrongPlace v_readWords v_readPassages v_readLetter v_readCue v_readPassage v_held q_1 hq_1) (cwV 0 hts gX4_releaseNext_X4_nextCue rfl rfl rfl (by decide +kernel) ⟨Nat.le_of_ble_eq_true rfl, Nat.le_of_ble_eq_true rfl⟩) ⟨fb_rd, va_recv hK hPc (ci := 4) (q0 := 0) rfl rfl, pre_rd hPc hK hN⟩ rfl rfl hl.1 rfl (lv_room (Nat.le_of_ble_eq_true rfl)) dX4_releaseNext_1 ⟨Nat.zero_le _, Nat.zero_le _⟩)) (fun z_1 hz_1 => ?_)
  subst hz_1
  refine lv_istore_n (lv' := [(1, .int q_1), (0, .ref aM)]) hx hb dX4_releaseNext_4 rfl hl (by decide) rfl (fun ls hl => ?_)
  refine lv_aload_n hx hb dX4_releaseNext_5 rfl (lv_at hl 1 rfl) ?_
  refine va_get (D := (dC, dI)) (ci := 4) (v := .ref a_w) (C := RX4) (T := TX4) (N := 19) hx hb hts inX4 hown hK hP 0 rfl rfl 0 (by decide) fl7 (fun _ h9 => h9) rfl dX4_releaseNext_6 ?_
  refine lv_sipush (v := (270 : Int32)) hx hb dX4_releaseNext_9 (by decide) ?_
  refine lv_iload_n hx hb dX4_releaseNext_12 rfl (lv_at hl 0 rfl) ?_
  refine lv_iadd hx hb dX4_releaseNext_13 ?_
  refine lv_iconst (v := (2 : Int32)) hx hb dX4_releaseNext_14 (by decide) ?_
  by_cases b_15 : (((270 : Int32) + q_1) < 0 ∨ 510 ≤ (((270 : Int32) + q_1)).toNatClampNeg)
  · exact noneE ((if_pos b_15).symm.trans hF)
  have hF := (if_neg b_15).symm.trans hF
  refine va_iast hx hb hK hP hD hS 1 0 rfl rfl b_15 dX4_releaseNext_15 (fun H locs hP hD hS => ?_)
  have hP : va_P (dC, dI) vwCl [(aM, .inr (4, [.ref a_w, .ref a_past, .int v_pastMany, .ref a_images, .int v_filled, .ref a_text, .int v_length, .int v_faultKind, .int v_faultPlace, .ref a_rowOf, .int v_rows, .int v_wrongKind, .int v_wrongPlace, .int v_readWords, .int v_readPassages, .ref a_readLetter, .ref a_readCue, .ref a_readPassage, .ref a_held])), (a_w, .inl (cI, 510, .inl (upd v_w ((((270 : Int32) + q_1)).toNatClampNeg) (2 : Int32)))), (a_past, .inl (cI, 4080, .inl v_past)), (a_images, .inl (cI, 1020, .inl v_images)), (a_text, .inl (cI, 140, .inl v_text)), (a_rowOf, .inl (cI, 120, .inl v_rowOf)), (a_readLetter, .inl (cI, 120, .inl v_readLetter)), (a_readCue, .inl (cI, 120, .inl v_readCue)), (a_readPassage, .inl (cI, 120, .inl v_readPassage)), (a_held, .inl (cI, 510, .inl v_held))] H := hP
  have hD : va_D A [(aM, .inr (4, [.ref a_w, .ref a_past, .int v_pastMany, .ref a_images, .int v_filled, .ref a_text, .int v_length, .int v_faultKind, .int v_faultPlace, .ref a_rowOf, .int v_rows, .int v_wrongKind, .int v_wrongPlace, .int v_readWords, .int v_readPassages, .ref a_readLetter, .ref a_readCue, .ref a_readPassage, .ref a_held])), (a_w, .inl (cI, 510, .inl (upd v_w ((((270 : Int32) + q_1)).toNatClampNeg) (2 : Int32)))), (a_past, .inl (cI, 4080, .inl v_past)), (a_images, .inl (cI, 1020, .inl v_images)), (a_text, .inl (cI, 140, .inl v_text)), (a_rowOf, .inl (cI, 120, .inl v_rowOf)), (a_readLetter, .inl (cI, 120, .inl v_readLetter)), (a_readCue, .inl (cI, 120, .inl v_readCue)), (a_readPassage, .inl (cI, 120, .inl v_readPassage)), (a_held, .inl (cI, 510, .inl v_held))] := hD
  refine lv_iload_n hx hb dX4_releaseNext_16 rfl (lv_at hl 0 rfl) ?_
  have hF : some (q_1, (upd v_w ((((270 : Int32) + q_1)).toNatClampNeg) (2 : Int32))) = some (r, o_w) := hF
  have hP9 := hP
  have hD9 := hD
  cases hF
  subst hQ
  subst hAe
  exact W.iret hx hb hr (fun t ht hW => ⟨⟨_, (), rfl, rfl, ⟨by rw [ht]; exact hP9, hD9⟩⟩, hS.F ht⟩) hS.2.2 dX4_releaseNext_17
