theorem cI_of {D : va_G} {cl : List vw_C} {cI cZ cO cA : ClassId} {s : State} (h : va_K D cl (tyA cI cZ cO ++ [(cA, .int)]) s) : cA = cI := by
  have h0 := (h.2 0 (cI, .int) rfl).2
  have h1 := (h.2 3 (cA, .int) rfl).2
  exact Option.some.inj (h1.symm.trans h0)
theorem cZ_of {D : va_G} {cl : List vw_C} {cI cZ cO cA : ClassId} {s : State} (h : va_K D cl (tyA cI cZ cO ++ [(cA, .boolean)]) s) : cA = cZ := by
  have h0 := (h.2 1 (cZ, .boolean) rfl).2
  have h1 := (h.2 3 (cA, .boolean) rfl).2
  exact Option.some.inj (h1.symm.trans h0)
theorem cO_of {D : va_G} {cl : List vw_C} {cI cZ cO cA : ClassId} {s : State} (h : va_K D cl (tyA cI cZ cO ++ [(cA, .object RX1)]) s) : cA = cO := by
  obtain ⟨k0, c0, -, -, -, h0⟩ := (h.2 2 (cO, .object "Teleprompter$State") rfl).2
  obtain ⟨k1, c1, -, -, -, h1⟩ := (h.2 3 (cA, .object RX1) rfl).2
  exact Option.some.inj (h1.symm.trans h0)
def rm_X0_init : Room := { frames := 1, cells := 5, slots := 600, locals := 20 }
set_option maxHeartbeats 4000000 in
set_option maxRecDepth 100000 in
theorem c_X0_init (l : Launch) (dC : Nat → ClassId) (dI : Nat → Nat → Nat) (cI cZ cO : ClassId) (aC : Nat) (sz : Nat) : Met l yX0_init wsX0_init rm_X0_init (va_Pc [.ref aC] (wrW dC dI cI cZ cO sz [(aC, .inr (0, [.int 0, .int 0, .int 0, .int 0, .null, .null, .null, .null, .null]))])) (va_Qv (fun (_ : Unit) => True) (fun (_ : Unit) t => ∃ (w1 w2 w3 w4 w5 : Nat), va_P (dC, dI) vwCl [(aC, .inr (0, [.int 0, .int 0, .int 0, .int 0, .ref w1, .ref w2, .ref w3, .ref w4, .ref w5])), (w1, .inl (cI, 120, .inl (fun _ => (0 : Int32)))), (w2, .inl (cI, 120, .inl (fun _ => (0 : Int32)))), (w3, .inl (cI, 120, .inl (fun _ => (0 : Int32)))), (w4, .inl (cI, 120, .inl (fun _ => (0 : Int32)))), (w5, .inl (cI, 120, .inl (fun _ => (0 : Int32))))] t.heap ∧ va_D (va_A [(aC, .inr (0, [.int 0, .int 0, .int 0, .int 0, .null, .null, .null, .null, .null]))] sz) [(aC, .inr (0, [.int 0, .int 0, .int 0, .int 0, .ref w1, .ref w2, .ref w3, .ref w4, .ref w5])), (w1, .inl (cI, 120, .inl (fun _ => (0 : Int32)))), (w2, .inl (cI, 120, .inl (fun _ => (0 : Int32)))), (w3, .inl (cI, 120, .inl (fun _ => (0 : Int32)))), (w4, .inl (cI, 120, .inl (fun _ => (0 : Int32)))), (w5, .inl (cI, 120, .inl (fun _ => (0 : Int32))))]) (va_A [(aC, .inr (0, [.int 0, .int 0, .int 0, .int 0, .null, .null, .null, .null, .null]))] sz)) 5 600 (va_A [(aC, .inr (0, [.int 0, .int 0, .int 0, .int 0, .null, .null, .null, .null, .null]))] sz) := by
  refine Met.ofW (cc := cX0_init) (maxL := 1) (ret := none) (by decide) rfl ?_
  intro p e s m args below meth c s₁ B hml hv
  obtain ⟨rfl, hsz, hP, hK, hN, hD0⟩ := hv
  have hx := B.exec
  have hb := B.bytes
  have hr := B.returns
  have hts := atoms_spec (ws := wsX0_init) B.pre
  have hown : s.vm.findClass RX0 = some m.cls := findClass_of_methodNamed B.named
  have hlocks := B.notSynchronized
  have hin : meth.name = "<init>" := (name_of_methodNamed B.named B.method).1
  subst hsz
  have hD := hD0.self (sz := s.heap.size)
  obtain ⟨Q, hQ⟩ : ∃ Q, Q = MQ below (va_Qv (fun (_ : Unit) => True) (fun (_ : Unit) t => ∃ (w1 w2 w3 w4 w5 : Nat), va_P (dC, dI) vwCl [(aC, .inr (0, [.int 0, .int 0, .int 0, .int 0, .ref w1, .ref w2, .ref w3, .ref w4, .ref w5])), (w1, .inl (cI, 120, .inl (fun _ => (0 : Int32)))), (w2, .inl (cI, 120, .inl (fun _ => (0 : Int32)))), (w3, .inl (cI, 120, .inl (fun _ => (0 : Int32)))), (w4, .inl (cI, 120, .inl (fun _ => (0 : Int32)))), (w5, .inl (cI, 120, .inl (fun _ => (0 : Int32))))] t.heap ∧ va_D (va_A [(aC, .inr (0, [.int 0, .int 0, .int 0, .int 0, .null, .null, .null, .null, .null]))] s.heap.size) [(aC, .inr (0, [.int 0, .int 0, .int 0, .int 0, .ref w1, .ref w2, .ref w3, .ref w4, .ref w5])), (w1, .inl (cI, 120, .inl (fun _ => (0 : Int32)))), (w2, .inl (cI, 120, .inl (fun _ => (0 : Int32)))), (w3, .inl (cI, 120, .inl (fun _ => (0 : Int32)))), (w4, .inl (cI, 120, .inl (fun _ => (0 : Int32)))), (w5, .inl (cI, 120, .inl (fun _ => (0 : Int32))))]) (va_A [(aC, .inr (0, [.int 0, .int 0, .int 0, .int 0, .null, .null, .null, .null, .null]))] s.heap.size)) ([.ref aC] : List Value).toArray s 5 600 (va_A [(aC, .inr (0, [.int 0, .int 0, .int 0, .int 0, .null, .null, .null, .null, .null]))] s.heap.size) := ⟨_, rfl⟩
  rw [← hQ]
  obtain ⟨A, hAe⟩ : ∃ A, A = va_A [(aC, .inr (0, [.int 0, .int 0, .int 0, .int 0, .null, .null, .null, .null, .null]))] s.heap.size := ⟨_, rfl⟩
  rw [← hAe] at hD
  have hA : ∀ q : Nat, s.heap.size ≤ q → A q := fun q h => by rw [hAe]; exact Or.inr h
  obtain ⟨H, hH⟩ : ∃ H, H = s.heap := ⟨_, rfl⟩
  have hS : va_S A s.heap H [] := by rw [hH]; exact va_S.rf
  rw [← hH] at hP
  rw [← hH]
  have oiL := hts (.methodLink RX0 3 objectInit) (by decide +kernel)
  have oiI := hts (.instanceMethod objectInit) (by decide +kernel)
  have oiC := hts (.code objectInit ⟨#[0xb1]⟩ 1 none) (by decide +kernel)
  have ac_int := hts (.arrayClass .int) (by decide +kernel)
  have fl9 := hts (.fieldLink RX0 9 "Teleprompter$Script" "letters" "[I") (by decide +kernel)
  have fl15 := hts (.fieldLink RX0 15 "Teleprompter$Script" "passageOf" "[I") (by decide +kernel)
  have fl18 := hts (.fieldLink RX0 18 "Teleprompter$Script" "cues" "[I") (by decide +kernel)
  have fl21 := hts (.fieldLink RX0 21 "Teleprompter$Script" "rowOf" "[I") (by decide +kernel)
  have fl24 := hts (.fieldLink RX0 24 "Teleprompter$Script" "firstOfRow" "[I") (by decide +kernel)
  have inX0 : ∀ w ∈ u_ws RX0 TX0 9, w ∈ wsX0_init := by decide +kernel
  have hl := lv_entry ([.ref aC]) (n := 1) (Nat.le_of_ble_eq_true rfl)
  rw [lg_entry_eq]
  generalize (lg_sl ([.ref aC]) ++ List.replicate (1 - (lg_sl ([.ref aC])).length) Slot.unset).toArray = ls at hl ⊢
  have hl : lv_has ls 1 [(0, .ref aC)] := hl
  refine lv_aload_n hx hb dX0_init_0 rfl (lv_at hl 0 rfl) ?_
  refine W.objInit hx hb hown oiL oiI oiC rfl (by rw [hml]; exact hl.1) rfl dX0_init_1 (Nat.le_of_ble_eq_true rfl) (Nat.le_of_ble_eq_true rfl) ?_
  refine W.eq (g2 := F0 m 4 ls []) rfl ?_
  refine lv_aload_n hx hb dX0_init_4 rfl (lv_at hl 0 rfl) ?_
  refine lv_bipush (v := (120 : Int32)) hx hb dX0_init_5 (by decide) ?_
  refine va_newa (atype := .int) hx hb ac_int rfl hK hP hD hS hA (a0 := (120, .inl (fun _ => (0 : Int32)))) (fun _ => rfl) (by decide) (N' := 120) (by decide) (Nat.le_of_ble_eq_true rfl) (Nat.le_of_ble_eq_true rfl) (Nat.le_of_ble_eq_true rfl) dX0_init_7 (fun q1 cA H hK9 hP hD hS => ?_)
  have hcA := (cI_of hK9).symm
  subst hcA
  have hP : va_P (dC, dI) vwCl [(aC, .inr (0, [.int 0, .int 0, .int 0, .int 0, .null, .null, .null, .null, .null])), (q1, .inl (cI, 120, .inl (fun _ => (0 : Int32))))] H := hP
  have hD : va_D A [(aC, .inr (0, [.int 0, .int 0, .int 0, .int 0, .null, .null, .null, .null, .null])), (q1, .inl (cI, 120, .inl (fun _ => (0 : Int32))))] := hD
  refine W.widen (k := 1) (n := 120) (Nat.le_of_ble_eq_true rfl) (Nat.le_of_ble_eq_true rfl) ?_
  refine va_putF (D := (dC, dI)) (ci := 0) (v := .ref q1) (ty := .array .int) (C := RX0) (T := TX0) (N := 9) hx hb hts inX0 tyX0 tyX0_ok nmX0 hown hK hP hD hS 0 rfl rfl 4 (by decide) fl9 (fun _ h9 => h9) rfl hin rfl (by decide +kernel) rfl rfl (Nat.le_of_ble_eq_true rfl) dX0_init_9 (fun H locs hP hD hS => ?_)
  have hP : va_P (dC, dI) vwCl [(aC, .inr (0, [.int 0, .int 0, .int 0, .int 0, .ref q1, .null, .null, .null, .null])), (q1, .inl (cI, 120, .inl (fun _ => (0 : Int32))))] H := hP
  have hD : va_D A [(aC, .inr (0, [.int 0, .int 0, .int 0, .int 0, .ref q1, .null, .null, .null, .null])), (q1, .inl (cI, 120, .inl (fun _ => (0 : Int32))))] := hD
  refine lv_aload_n hx hb dX0_init_12 rfl (lv_at hl 0 rfl) ?_
  refine lv_bipush (v := (120 : Int32)) hx hb dX0_init_13 (by decide) ?_
  refine va_newa (atype := .int) hx hb ac_int rfl hK hP hD hS hA (a0 := (120, .inl (fun _ => (0 : Int32)))) (fun _ => rfl) (by decide) (N' := 120) (by decide) (Nat.le_of_ble_eq_true rfl) (Nat.le_of_ble_eq_true rfl) (Nat.le_of_ble_eq_true rfl) dX0_init_15 (fun q2 cA H hK9 hP hD hS => ?_)
  have hcA := (cI_of hK9).symm
  subst hcA
  have hP : va_P (dC, dI) vwCl [(aC, .inr (0, [.int 0, .int 0, .int 0, .int 0, .ref q1, .null, .null, .null, .null])), (q1, .inl (cI, 120, .inl (fun _ => (0 : Int32)))), (q2, .inl (cI, 120, .inl (fun _ => (0 : Int32))))] H := hP
  have hD : va_D A [(aC, .inr (0, [.int 0, .int 0, .int 0, .int 0, .ref q1, .null, .null, .null, .null])), (q1, .inl (cI, 120, .inl (fun _ => (0 : Int32)))), (q2, .inl (cI, 120, .inl (fun _ => (0 : Int32))))] := hD
  refine W.widen (k := 2) (n := 240) (Nat.le_of_ble_eq_true rfl) (Nat.le_of_ble_eq_true rfl) ?_
  refine va_putF (D := (dC, dI)) (ci := 0) (v := .ref q2) (ty := .array .int) (C := RX0) (T := TX0) (N := 9) hx hb hts inX0 tyX0 tyX0_ok nmX0 hown hK hP hD hS 0 rfl rfl 5 (by decide) fl15 (fun _ h9 => h9) rfl hin rfl (by decide +kernel) rfl rfl (Nat.le_of_ble_eq_true rfl) dX0_init_17 (fun H locs hP hD hS => ?_)
  have hP : va_P (dC, dI) vwCl [(aC, .inr (0, [.int 0, .int 0, .int 0, .int 0, .ref q1, .ref q2, .null, .null, .null])), (q1, .inl (cI, 120, .inl (fun _ => (0 : Int32)))), (q2, .inl (cI, 120, .inl (fun _ => (0 : Int32))))] H := hP
  have hD : va_D A [(aC, .inr (0, [.int 0, .int 0, .int 0, .int 0, .ref q1, .ref q2, .null, .null, .null])), (q1, .inl (cI, 120, .inl (fun _ => (0 : Int32)))), (q2, .inl (cI, 120, .inl (fun _ => (0 : Int32))))] := hD
  refine lv_aload_n hx hb dX0_init_20 rfl (lv_at hl 0 rfl) ?_
  refine lv_bipush (v := (120 : Int32)) hx hb dX0_init_21 (by decide) ?_
  refine va_newa (atype := .int) hx hb ac_int rfl hK hP hD hS hA (a0 := (120, .inl (fun _ => (0 : Int32)))) (fun _ => rfl) (by decide) (N' := 120) (by decide) (Nat.le_of_ble_eq_true rfl) (Nat.le_of_ble_eq_true rfl) (Nat.le_of_ble_eq_true rfl) dX0_init_23 (fun q3 cA H hK9 hP hD hS => ?_)
  have hcA := (cI_of hK9).symm
  subst hcA
  have hP : va_P (dC, dI) vwCl [(aC, .inr (0, [.int 0, .int 0, .int 0, .int 0, .ref q1, .ref q2, .null, .null, .null])), (q1, .inl (cI, 120, .inl (fun _ => (0 : Int32)))), (q2, .inl (cI, 120, .inl (fun _ => (0 : Int32)))), (q3, .inl (cI, 120, .inl (fun _ => (0 : Int32))))] H := hP
  have hD : va_D A [(aC, .inr (0, [.int 0, .int 0, .int 0, .int 0, .ref q1, .ref q2, .null, .null, .null])), (q1, .inl (cI, 120, .inl (fun _ => (0 : Int32)))), (q2, .inl (cI, 120, .inl (fun _ => (0 : Int32)))), (q3, .inl (cI, 120, .inl (fun _ => (0 : Int32))))] := hD
  refine W.widen (k := 3) (n := 360) (Nat.le_of_ble_eq_true rfl) (Nat.le_of_ble_eq_true rfl) ?_
  refine va_putF (D := (dC, dI)) (ci := 0) (v := .ref q3) (ty := .array .int) (C := RX0) (T := TX0) (N := 9) hx hb hts inX0 tyX0 tyX0_ok nmX0 hown hK hP hD hS 0 rfl rfl 6 (by decide) fl18 (fun _ h9 => h9) rfl hin rfl (by decide +kernel) rfl rfl (Nat.le_of_ble_eq_true rfl) dX0_init_25 (fun H locs hP hD hS => ?_)
  have hP : va_P (dC, dI) vwCl [(aC, .inr (0, [.int 0, .int 0, .int 0, .int 0, .ref q1, .ref q2, .ref q3, .null, .null])), (q1, .inl (cI, 120, .inl (fun _ => (0 : Int32)))), (q2, .inl (cI, 120, .inl (fun _ => (0 : Int32)))), (q3, .inl (cI, 120, .inl (fun _ => (0 : Int32))))] H := hP
  have hD : va_D A [(aC, .inr (0, [.int 0, .int 0, .int 0, .int 0, .ref q1, .ref q2, .ref q3, .null, .null])), (q1, .inl (cI, 120, .inl (fun _ => (0 : Int32)))), (q2, .inl (cI, 120, .inl (fun _ => (0 : Int32)))), (q3, .inl (cI, 120, .inl (fun _ => (0 : Int32))))] := hD
  refine lv_aload_n hx hb dX0_init_28 rfl (lv_at hl 0 rfl) ?_
  refine lv_bipush (v := (120 : Int32)) hx hb dX0_init_29 (by decide) ?_
  refine va_newa (atype := .int) hx hb ac_int rfl hK hP hD hS hA (a0 := (120, .inl (fun _ => (0 : Int32)))) (fun _ => rfl) (by decide) (N' := 120) (by decide) (Nat.le_of_ble_eq_true rfl) (Nat.le_of_ble_eq_true rfl) (Nat.le_of_ble_eq_true rfl) dX0_init_31 (fun q4 cA H hK9 hP hD hS => ?_)
  have hcA := (cI_of hK9).symm
  subst hcA
  have hP : va_P (dC, dI) vwCl [(aC, .inr (0, [.int 0, .int 0, .int 0, .int 0, .ref q1, .ref q2, .ref q3, .null, .null])), (q1, .inl (cI, 120, .inl (fun _ => (0 : Int32)))), (q2, .inl (cI, 120, .inl (fun _ => (0 : Int32)))), (q3, .inl (cI, 120, .inl (fun _ => (0 : Int32)))), (q4, .inl (cI, 120, .inl (fun _ => (0 : Int32))))] H := hP
  have hD : va_D A [(aC, .inr (0, [.int 0, .int 0, .int 0, .int 0, .ref q1, .ref q2, .ref q3, .null, .null])), (q1, .inl (cI, 120, .inl (fun _ => (0 : Int32)))), (q2, .inl (cI, 120, .inl (fun _ => (0 : Int32)))), (q3, .inl (cI, 120, .inl (fun _ => (0 : Int32)))), (q4, .inl (cI, 120, .inl (fun _ => (0 : Int32))))] := hD
  refine W.widen (k := 4) (n := 480) (Nat.le_of_ble_eq_true rfl) (Nat.le_of_ble_eq_true rfl) ?_
  refine va_putF (D := (dC, dI)) (ci := 0) (v := .ref q4) (ty := .array .int) (C := RX0) (T := TX0) (N := 9) hx hb hts inX0 tyX0 tyX0_ok nmX0 hown hK hP hD hS 0 rfl rfl 7 (by decide) fl21 (fun _ h9 => h9) rfl hin rfl (by decide +kernel) rfl rfl (Nat.le_of_ble_eq_true rfl) dX0_init_33 (fun H locs hP hD hS => ?_)
  have hP : va_P (dC, dI) vwCl [(aC, .inr (0, [.int 0, .int 0, .int 0, .int 0, .ref q1, .ref q2, .ref q3, .ref q4, .null])), (q1, .inl (cI, 120, .inl (fun _ => (0 : Int32)))), (q2, .inl (cI, 120, .inl (fun _ => (0 : Int32)))), (q3, .inl (cI, 120, .inl (fun _ => (0 : Int32)))), (q4, .inl (cI, 120, .inl (fun _ => (0 : Int32))))] H := hP
  have hD : va_D A [(aC, .inr (0, [.int 0, .int 0, .int 0, .int 0, .ref q1, .ref q2, .ref q3, .ref q4, .null])), (q1, .inl (cI, 120, .inl (fun _ => (0 : Int32)))), (q2, .inl (cI, 120, .inl (fun _ => (0 : Int32)))), (q3, .inl (cI, 120, .inl (fun _ => (0 : Int32)))), (q4, .inl (cI, 120, .inl (fun _ => (0 : Int32))))] := hD
  refine lv_aload_n hx hb dX0_init_36 rfl (lv_at hl 0 rfl) ?_
  refine lv_bipush (v := (120 : Int32)) hx hb dX0_init_37 (by decide) ?_
  refine va_newa (atype := .int) hx hb ac_int rfl hK hP hD hS hA (a0 := (120, .inl (fun _ => (0 : Int32)))) (fun _ => rfl) (by decide) (N' := 120) (by decide) (Nat.le_of_ble_eq_true rfl) (Nat.le_of_ble_eq_true rfl) (Nat.le_of_ble_eq_true rfl) dX0_init_39 (fun q5 cA H hK9 hP hD hS => ?_)
  have hcA := (cI_of hK9).symm
  subst hcA
  have hP : va_P (dC, dI) vwCl [(aC, .inr (0, [.int 0, .int 0, .int 0, .int 0, .ref q1, .ref q2, .ref q3, .ref q4, .null])), (q1, .inl (cI, 120, .inl (fun _ => (0 : Int32)))), (q2, .inl (cI, 120, .inl (fun _ => (0 : Int32)))), (q3, .inl (cI, 120, .inl (fun _ => (0 : Int32)))), (q4, .inl (cI, 120, .inl (fun _ => (0 : Int32)))), (q5, .inl (cI, 120, .inl (fun _ => (0 : Int32))))] H := hP
  have hD : va_D A [(aC, .inr (0, [.int 0, .int 0, .int 0, .int 0, .ref q1, .ref q2, .ref q3, .ref q4, .null])), (q1, .inl (cI, 120, .inl (fun _ => (0 : Int32)))), (q2, .inl (cI, 120, .inl (fun _ => (0 : Int32)))), (q3, .inl (cI, 120, .inl (fun _ => (0 : Int32)))), (q4, .inl (cI, 120, .inl (fun _ => (0 : Int32)))), (q5, .inl (cI, 120, .inl (fun _ => (0 : Int32))))] := hD
  refine W.widen (k := 5) (n := 600) (Nat.le_of_ble_eq_true rfl) (Nat.le_of_ble_eq_true rfl) ?_
  refine va_putF (D := (dC, dI)) (ci := 0) (v := .ref q5) (ty := .array .int) (C := RX0) (T := TX0) (N := 9) hx hb hts inX0 tyX0 tyX0_ok nmX0 hown hK hP hD hS 0 rfl rfl 8 (by decide) fl24 (fun _ h9 => h9) rfl hin rfl (by decide +kernel) rfl rfl (Nat.le_of_ble_eq_true rfl) dX0_init_41 (fun H locs hP hD hS => ?_)
  have hP : va_P (dC, dI) vwCl [(aC, .inr (0, [.int 0, .int 0, .int 0, .int 0, .ref q1, .ref q2, .ref q3, .ref q4, .ref q5])), (q1, .inl (cI, 120, .inl (fun _ => (0 : Int32)))), (q2, .inl (cI, 120, .inl (fun _ => (0 : Int32)))), (q3, .inl (cI, 120, .inl (fun _ => (0 : Int32)))), (q4, .inl (cI, 120, .inl (fun _ => (0 : Int32)))), (q5, .inl (cI, 120, .inl (fun _ => (0 : Int32))))] H := hP
  have hD : va_D A [(aC, .inr (0, [.int 0, .int 0, .int 0, .int 0, .ref q1, .ref q2, .ref q3, .ref q4, .ref q5])), (q1, .inl (cI, 120, .inl (fun _ => (0 : Int32)))), (q2, .inl (cI, 120, .inl (fun _ => (0 : Int32)))), (q3, .inl (cI, 120, .inl (fun _ => (0 : Int32)))), (q4, .inl (cI, 120, .inl (fun _ => (0 : Int32)))), (q5, .inl (cI, 120, .inl (fun _ => (0 : Int32))))] := hD
  have hP9 := hP.sub (ws' := [(aC, .inr (0, [.int 0, .int 0, .int 0, .int 0, .ref q1, .ref q2, .ref q3, .ref q4, .ref q5])), (q1, .inl (cI, 120, .inl (fun _ => (0 : Int32)))), (q2, .inl (cI, 120, .inl (fun _ => (0 : Int32)))), (q3, .inl (cI, 120, .inl (fun _ => (0 : Int32)))), (q4, .inl (cI, 120, .inl (fun _ => (0 : Int32)))), (q5, .inl (cI, 120, .inl (fun _ => (0 : Int32))))]) [0, 1, 2, 3, 4, 5] rfl
  have hD9 := hD.sub (ws' := [(aC, .inr (0, [.int 0, .int 0, .int 0, .int 0, .ref q1, .ref q2, .ref q3, .ref q4, .ref q5])), (q1, .inl (cI, 120, .inl (fun _ => (0 : Int32)))), (q2, .inl (cI, 120, .inl (fun _ => (0 : Int32)))), (q3, .inl (cI, 120, .inl (fun _ => (0 : Int32)))), (q4, .inl (cI, 120, .inl (fun _ => (0 : Int32)))), (q5, .inl (cI, 120, .inl (fun _ => (0 : Int32))))]) [0, 1, 2, 3, 4, 5] (by decide) rfl
  subst hQ
  subst hAe
  exact W.vret hx hb hr (fun t ht hW => ⟨⟨(), rfl, trivial, q1, q2, q3, q4, q5, by rw [ht]; exact hP9, hD9⟩, hS.F ht⟩) hS.2.2 dX0_init_44
def rm_X2_init : Room := { frames := 1, cells := 2, slots := 122, locals := 20 }
set_option maxHeartbeats 4000000 in
set_option maxRecDepth 100000 in
theorem c_X2_init (l : Launch) (dC : Nat → ClassId) (dI : Nat → Nat → Nat) (cI cZ cO : ClassId) (aT : Nat) (sz : Nat) : Met l yX2_init wsX2_init rm_X2_init (va_Pc [.ref aT] (wrW dC dI cI cZ cO sz [(aT, .inr (2, [.int 0, .null, .null]))])) (va_Qv (fun (_ : Unit) => True) (fun (_ : Unit) t => ∃ (w1 w2 : Nat), va_P (dC, dI) vwCl [(aT, .inr (2, [.int 0, .ref w1, .ref w2])), (w1, .inl (cI, 61, .inl (fun _ => (0 : Int32)))), (w2, .inl (cI, 61, .inl (fun _ => (0 : Int32))))] t.heap ∧ va_D (va_A [(aT, .inr (2, [.int 0, .null, .null]))] sz) [(aT, .inr (2, [.int 0, .ref w1, .ref w2])), (w1, .inl (cI, 61, .inl (fun _ => (0 : Int32)))), (w2, .inl (cI, 61, .inl (fun _ => (0 : Int32))))]) (va_A [(aT, .inr (2, [.int 0, .null, .null]))] sz)) 2 122 (va_A [(aT, .inr (2, [.int 0, .null, .null]))] sz) := by
  refine Met.ofW (cc := cX2_init) (maxL := 1) (ret := none) (by decide) rfl ?_
  intro p e s m args below meth c s₁ B hml hv
  obtain ⟨rfl, hsz, hP, hK, hN, hD0⟩ := hv
  have hx := B.exec
  have hb := B.bytes
  have hr := B.returns
  have hts := atoms_spec (ws := wsX2_init) B.pre
  have hown : s.vm.findClass RX2 = some m.cls := findClass_of_methodNamed B.named
  have hlocks := B.notSynchronized
  have hin : meth.name = "<init>" := (name_of_methodNamed B.named B.method).1
  subst hsz
  have hD := hD0.self (sz := s.heap.size)
  obtain ⟨Q, hQ⟩ : ∃ Q, Q = MQ below (va_Qv (fun (_ : Unit) => True) (fun (_ : Unit) t => ∃ (w1 w2 : Nat), va_P (dC, dI) vwCl [(aT, .inr (2, [.int 0, .ref w1, .ref w2])), (w1, .inl (cI, 61, .inl (fun _ => (0 : Int32)))), (w2, .inl (cI, 61, .inl (fun _ => (0 : Int32))))] t.heap ∧ va_D (va_A [(aT, .inr (2, [.int 0, .null, .null]))] s.heap.size) [(aT, .inr (2, [.int 0, .ref w1, .ref w2])), (w1, .inl (cI, 61, .inl (fun _ => (0 : Int32)))), (w2, .inl (cI, 61, .inl (fun _ => (0 : Int32))))]) (va_A [(aT, .inr (2, [.int 0, .null, .null]))] s.heap.size)) ([.ref aT] : List Value).toArray s 2 122 (va_A [(aT, .inr (2, [.int 0, .null, .null]))] s.heap.size) := ⟨_, rfl⟩
  rw [← hQ]
  obtain ⟨A, hAe⟩ : ∃ A, A = va_A [(aT, .inr (2, [.int 0, .null, .null]))] s.heap.size := ⟨_, rfl⟩
  rw [← hAe] at hD
  have hA : ∀ q : Nat, s.heap.size ≤ q → A q := fun q h => by rw [hAe]; exact Or.inr h
  obtain ⟨H, hH⟩ : ∃ H, H = s.heap := ⟨_, rfl⟩
  have hS : va_S A s.heap H [] := by rw [hH]; exact va_S.rf
  rw [← hH] at hP
  rw [← hH]
  have oiL := hts (.methodLink RX2 3 objectInit) (by decide +kernel)
  have oiI := hts (.instanceMethod objectInit) (by decide +kernel)
  have oiC := hts (.code objectInit ⟨#[0xb1]⟩ 1 none) (by decide +kernel)
  have ac_int := hts (.arrayClass .int) (by decide +kernel)
  have fl9 := hts (.fieldLink RX2 9 "Teleprompter$Trail" "times" "[I") (by decide +kernel)
  have fl15 := hts (.fieldLink RX2 15 "Teleprompter$Trail" "positions" "[I") (by decide +kernel)
  have inX2 : ∀ w ∈ u_ws RX2 TX2 3, w ∈ wsX2_init := by decide +kernel
  have hl := lv_entry ([.ref aT]) (n := 1) (Nat.le_of_ble_eq_true rfl)
  rw [lg_entry_eq]
  generalize (lg_sl ([.ref aT]) ++ List.replicate (1 - (lg_sl ([.ref aT])).length) Slot.unset).toArray = ls at hl ⊢
  have hl : lv_has ls 1 [(0, .ref aT)] := hl
  refine lv_aload_n hx hb dX2_init_0 rfl (lv_at hl 0 rfl) ?_
  refine W.objInit hx hb hown oiL oiI oiC rfl (by rw [hml]; exact hl.1) rfl dX2_init_1 (Nat.le_of_ble_eq_true rfl) (Nat.le_of_ble_eq_true rfl) ?_
  refine W.eq (g2 := F0 m 4 ls []) rfl ?_
  refine lv_aload_n hx hb dX2_init_4 rfl (lv_at hl 0 rfl) ?_
  refine lv_bipush (v := (61 : Int32)) hx hb dX2_init_5 (by decide) ?_
  refine va_newa (atype := .int) hx hb ac_int rfl hK hP hD hS hA (a0 := (61, .inl (fun _ => (0 : Int32)))) (fun _ => rfl) (by decide) (N' := 61) (by decide) (Nat.le_of_ble_eq_true rfl) (Nat.le_of_ble_eq_true rfl) (Nat.le_of_ble_eq_true rfl) dX2_init_7 (fun q1 cA H hK9 hP hD hS => ?_)
  have hcA := (cI_of hK9).symm
  subst hcA
  have hP : va_P (dC, dI) vwCl [(aT, .inr (2, [.int 0, .null, .null])), (q1, .inl (cI, 61, .inl (fun _ => (0 : Int32))))] H := hP
  have hD : va_D A [(aT, .inr (2, [.int 0, .null, .null])), (q1, .inl (cI, 61, .inl (fun _ => (0 : Int32))))] := hD
  refine W.widen (k := 1) (n := 61) (Nat.le_of_ble_eq_true rfl) (Nat.le_of_ble_eq_true rfl) ?_
  refine va_putF (D := (dC, dI)) (ci := 2) (v := .ref q1) (ty := .array .int) (C := RX2) (T := TX2) (N := 3) hx hb hts inX2 tyX2 tyX2_ok nmX2 hown hK hP hD hS 0 rfl rfl 1 (by decide) fl9 (fun _ h9 => h9) rfl hin rfl (by decide +kernel) rfl rfl (Nat.le_of_ble_eq_true rfl) dX2_init_9 (fun H locs hP hD hS => ?_)
  have hP : va_P (dC, dI) vwCl [(aT, .inr (2, [.int 0, .ref q1, .null])), (q1, .inl (cI, 61, .inl (fun _ => (0 : Int32))))] H := hP
  have hD : va_D A [(aT, .inr (2, [.int 0, .ref q1, .null])), (q1, .inl (cI, 61, .inl (fun _ => (0 : Int32))))] := hD
  refine lv_aload_n hx hb dX2_init_12 rfl (lv_at hl 0 rfl) ?_
  refine lv_bipush (v := (61 : Int32)) hx hb dX2_init_13 (by decide) ?_
  refine va_newa (atype := .int) hx hb ac_int rfl hK hP hD hS hA (a0 := (61, .inl (fun _ => (0 : Int32)))) (fun _ => rfl) (by decide) (N' := 61) (by decide) (Nat.le_of_ble_eq_true rfl) (Nat.le_of_ble_eq_true rfl) (Nat.le_of_ble_eq_true rfl) dX2_init_15 (fun q2 cA H hK9 hP hD hS => ?_)
  have hcA := (cI_of hK9).symm
  subst hcA
  have hP : va_P (dC, dI) vwCl [(aT, .inr (2, [.int 0, .ref q1, .null])), (q1, .inl (cI, 61, .inl (fun _ => (0 : Int32)))), (q2, .inl (cI, 61, .inl (fun _ => (0 : Int32))))] H := hP
  have hD : va_D A [(aT, .inr (2, [.int 0, .ref q1, .null])), (q1, .inl (cI, 61, .inl (fun _ => (0 : Int32)))), (q2, .inl (cI, 61, .inl (fun _ => (0 : Int32))))] := hD
  refine W.widen (k := 2) (n := 122) (Nat.le_of_ble_eq_true rfl) (Nat.le_of_ble_eq_true rfl) ?_
  refine va_putF (D := (dC, dI)) (ci := 2) (v := .ref q2) (ty := .array .int) (C := RX2) (T := TX2) (N := 3) hx hb hts inX2 tyX2 tyX2_ok nmX2 hown hK hP hD hS 0 rfl rfl 2 (by decide) fl15 (fun _ h9 => h9) rfl hin rfl (by decide +kernel) rfl rfl (Nat.le_of_ble_eq_true rfl) dX2_init_17 (fun H locs hP hD hS => ?_)
  have hP : va_P (dC, dI) vwCl [(aT, .inr (2, [.int 0, .ref q1, .ref q2])), (q1, .inl (cI, 61, .inl (fun _ => (0 : Int32)))), (q2, .inl (cI, 61, .inl (fun _ => (0 : Int32))))] H := hP
  have hD : va_D A [(aT, .inr (2, [.int 0, .ref q1, .ref q2])), (q1, .inl (cI, 61, .inl (fun _ => (0 : Int32)))), (q2, .inl (cI, 61, .inl (fun _ => (0 : Int32))))] := hD
  have hP9 := hP.sub (ws' := [(aT, .inr (2, [.int 0, .ref q1, .ref q2])), (q1, .inl (cI, 61, .inl (fun _ => (0 : Int32)))), (q2, .inl (cI, 61, .inl (fun _ => (0 : Int32))))]) [0, 1, 2] rfl
  have hD9 := hD.sub (ws' := [(aT, .inr (2, [.int 0, .ref q1, .ref q2])), (q1, .inl (cI, 61, .inl (fun _ => (0 : Int32)))), (q2, .inl (cI, 61, .inl (fun _ => (0 : Int32))))]) [0, 1, 2] (by decide) rfl
  subst hQ
  subst hAe
  exact W.vret hx hb hr (fun t ht hW => ⟨⟨(), rfl, trivial, q1, q2, by rw [ht]; exact hP9, hD9⟩, hS.F ht⟩) hS.2.2 dX2_init_20
def rm_X1_init : Room := { frames := 2, cells := 11, slots := 747, locals := 40 }
set_option maxHeartbeats 4000000 in
set_option maxRecDepth 100000 in
theorem c_X1_init (l : Launch) (dC : Nat → ClassId) (dI : Nat → Nat → Nat) (cI cZ cO : ClassId) (aS : Nat) (sz : Nat) : Met l yX1_init wsX1_init rm_X1_init (va_Pc [.ref aS] (wrW dC dI cI cZ cO sz [(aS, .inr (1, [.null, .null, .null, .null, .int 0, .int 0, .int 0, .int 0, .int 0, .int 0, .int 0, .int 0, .int 0, .int 0, .int 0]))])) (va_Qv (fun (_ : Unit) => True) (fun (_ : Unit) t => ∃ (w1 w2 w3 w4 w5 w6 w7 w8 w9 w10 w11 : Nat), va_P (dC, dI) vwCl [(aS, .inr (1, [.ref w1, .ref w2, .ref w8, .ref w11, .int 0, .int 0, .int 0, .int 0, .int 0, .int 0, .int 0, .int 0, .int 0, .int 0, .int 0])), (w1, .inl (cI, 9, .inl (fun _ => (0 : Int32)))), (w2, .inr (0, [.int 0, .int 0, .int 0, .int 0, .ref w3, .ref w4, .ref w5, .ref w6, .ref w7])), (w3, .inl (cI, 120, .inl (fun _ => (0 : Int32)))), (w4, .inl (cI, 120, .inl (fun _ => (0 : Int32)))), (w5, .inl (cI, 120, .inl (fun _ => (0 : Int32)))), (w6, .inl (cI, 120, .inl (fun _ => (0 : Int32)))), (w7, .inl (cI, 120, .inl (fun _ => (0 : Int32)))), (w8, .inr (2, [.int 0, .ref w9, .ref w10])), (w9, .inl (cI, 61, .inl (fun _ => (0 : Int32)))), (w10, .inl (cI, 61, .inl (fun _ => (0 : Int32)))), (w11, .inl (cI, 4, .inl (fun _ => (0 : Int32))))] t.heap ∧ va_D (va_A [(aS, .inr (1, [.null, .null, .null, .null, .int 0, .int 0, .int 0, .int 0, .int 0, .int 0, .int 0, .int 0, .int 0, .int 0, .int 0]))] sz) [(aS, .inr (1, [.ref w1, .ref w2, .ref w8, .ref w11, .int 0, .int 0, .int 0, .int 0, .int 0, .int 0, .int 0, .int 0, .int 0, .int 0, .int 0])), (w1, .inl (cI, 9, .inl (fun _ => (0 : Int32)))), (w2, .inr (0, [.int 0, .int 0, .int 0, .int 0, .ref w3, .ref w4, .ref w5, .ref w6, .ref w7])), (w3, .inl (cI, 120, .inl (fun _ => (0 : Int32)))), (w4, .inl (cI, 120, .inl (fun _ => (0 : Int32)))), (w5, .inl (cI, 120, .inl (fun _ => (0 : Int32)))), (w6, .inl (cI, 120, .inl (fun _ => (0 : Int32)))), (w7, .inl (cI, 120, .inl (fun _ => (0 : Int32)))), (w8, .inr (2, [.int 0, .ref w9, .ref w10])), (w9, .inl (cI, 61, .inl (fun _ => (0 : Int32)))), (w10, .inl (cI, 61, .inl (fun _ => (0 : Int32)))), (w11, .inl (cI, 4, .inl (fun _ => (0 : Int32))))]) (va_A [(aS, .inr (1, [.null, .null, .null, .null, .int 0, .int 0, .int 0, .int 0, .int 0, .int 0, .int 0, .int 0, .int 0, .int 0, .int 0]))] sz)) 11 747 (va_A [(aS, .inr (1, [.null, .null, .null, .null, .int 0, .int 0, .int 0, .int 0, .int 0, .int 0, .int 0, .int 0, .int 0, .int 0, .int 0]))] sz) := by
  refine Met.ofW (cc := cX1_init) (maxL := 1) (ret := none) (by decide) rfl ?_
  intro p e s m args below meth c s₁ B hml hv
  obtain ⟨rfl, hsz, hP, hK, hN, hD0⟩ := hv
  have hx := B.exec
  have hb := B.bytes
  have hr := B.returns
  have hts := atoms_spec (ws := wsX1_init) B.pre
  have hown : s.vm.findClass RX1 = some m.cls := findClass_of_methodNamed B.named
  have hlocks := B.notSynchronized
  have hin : meth.name = "<init>" := (name_of_methodNamed B.named B.method).1
  subst hsz
  have hD := hD0.self (sz := s.heap.size)
  obtain ⟨Q, hQ⟩ : ∃ Q, Q = MQ below (va_Qv (fun (_ : Unit) => True) (fun (_ : Unit) t => ∃ (w1 w2 w3 w4 w5 w6 w7 w8 w9 w10 w11 : Nat), va_P (dC, dI) vwCl [(aS, .inr (1, [.ref w1, .ref w2, .ref w8, .ref w11, .int 0, .int 0, .int 0, .int 0, .int 0, .int 0, .int 0, .int 0, .int 0, .int 0, .int 0])), (w1, .inl (cI, 9, .inl (fun _ => (0 : Int32)))), (w2, .inr (0, [.int 0, .int 0, .int 0, .int 0, .ref w3, .ref w4, .ref w5, .ref w6, .ref w7])), (w3, .inl (cI, 120, .inl (fun _ => (0 : Int32)))), (w4, .inl (cI, 120, .inl (fun _ => (0 : Int32)))), (w5, .inl (cI, 120, .inl (fun _ => (0 : Int32)))), (w6, .inl (cI, 120, .inl (fun _ => (0 : Int32)))), (w7, .inl (cI, 120, .inl (fun _ => (0 : Int32)))), (w8, .inr (2, [.int 0, .ref w9, .ref w10])), (w9, .inl (cI, 61, .inl (fun _ => (0 : Int32)))), (w10, .inl (cI, 61, .inl (fun _ => (0 : Int32)))), (w11, .inl (cI, 4, .inl (fun _ => (0 : Int32))))] t.heap ∧ va_D (va_A [(aS, .inr (1, [.null, .null, .null, .null, .int 0, .int 0, .int 0, .int 0, .int 0, .int 0, .int 0, .int 0, .int 0, .int 0, .int 0]))] s.heap.size) [(aS, .inr (1, [.ref w1, .ref w2, .ref w8, .ref w11, .int 0, .int 0, .int 0, .int 0, .int 0, .int 0, .int 0, .int 0, .int 0, .int 0, .int 0])), (w1, .inl (cI, 9, .inl (fun _ => (0 : Int32)))), (w2, .inr (0, [.int 0, .int 0, .int 0, .int 0, .ref w3, .ref w4, .ref w5, .ref w6, .ref w7])), (w3, .inl (cI, 120, .inl (fun _ => (0 : Int32)))), (w4, .inl (cI, 120, .inl (fun _ => (0 : Int32)))), (w5, .inl (cI, 120, .inl (fun _ => (0 : Int32)))), (w6, .inl (cI, 120, .inl (fun _ => (0 : Int32)))), (w7, .inl (cI, 120, .inl (fun _ => (0 : Int32)))), (w8, .inr (2, [.int 0, .ref w9, .ref w10])), (w9, .inl (cI, 61, .inl (fun _ => (0 : Int32)))), (w10, .inl (cI, 61, .inl (fun _ => (0 : Int32)))), (w11, .inl (cI, 4, .inl (fun _ => (0 : Int32))))]) (va_A [(aS, .inr (1, [.null, .null, .null, .null, .int 0, .int 0, .int 0, .int 0, .int 0, .int 0, .int 0, .int 0, .int 0, .int 0, .int 0]))] s.heap.size)) ([.ref aS] : List Value).toArray s 11 747 (va_A [(aS, .inr (1, [.null, .null, .null, .null, .int 0, .int 0, .int 0, .int 0, .int 0, .int 0, .int 0, .int 0, .int 0, .int 0, .int 0]))] s.heap.size) := ⟨_, rfl⟩
  rw [← hQ]
  obtain ⟨A, hAe⟩ : ∃ A, A = va_A [(aS, .inr (1, [.null, .null, .null, .null, .int 0, .int 0, .int 0, .int 0, .int 0, .int 0, .int 0, .int 0, .int 0, .int 0, .int 0]))] s.heap.size := ⟨_, rfl⟩
  rw [← hAe] at hD
  have hA : ∀ q : Nat, s.heap.size ≤ q → A q := fun q h => by rw [hAe]; exact Or.inr h
  obtain ⟨H, hH⟩ : ∃ H, H = s.heap := ⟨_, rfl⟩
  have hS : va_S A s.heap H [] := by rw [hH]; exact va_S.rf
  rw [← hH] at hP
  rw [← hH]
  have oiL := hts (.methodLink RX1 3 objectInit) (by decide +kernel)
  have oiI := hts (.instanceMethod objectInit) (by decide +kernel)
  have oiC := hts (.code objectInit ⟨#[0xb1]⟩ 1 none) (by decide +kernel)
  have ac_int := hts (.arrayClass .int) (by decide +kernel)
  have fl9 := hts (.fieldLink RX1 9 "Teleprompter$State" "settings" "[I") (by decide +kernel)
  have kl15 := hts (.classLink RX1 15 RX0) (by decide +kernel)
  have isX0 := hts (.instantiable RX0 9) (by decide +kernel)
  have iiX0 := hts (.initialized RX0) (by decide +kernel)
  have fl18 := hts (.fieldLink RX1 18 "Teleprompter$State" "script" "LTeleprompter$Script;") (by decide +kernel)
  have kl22 := hts (.classLink RX1 22 RX2) (by decide +kernel)
  have isX2 := hts (.instantiable RX2 3) (by decide +kernel)
  have iiX2 := hts (.initialized RX2) (by decide +kernel)
  have fl25 := hts (.fieldLink RX1 25 "Teleprompter$State" "trail" "LTeleprompter$Trail;") (by decide +kernel)
  have fl29 := hts (.fieldLink RX1 29 "Teleprompter$State" "kept" "[I") (by decide +kernel)
  have inX1 : ∀ w ∈ u_ws RX1 TX1 15, w ∈ wsX1_init := by decide +kernel
  have inX0 : ∀ w ∈ u_ws RX0 TX0 9, w ∈ wsX1_init := by decide +kernel
  have inX2 : ∀ w ∈ u_ws RX2 TX2 3, w ∈ wsX1_init := by decide +kernel
  have hl := lv_entry ([.ref aS]) (n := 1) (Nat.le_of_ble_eq_true rfl)
  rw [lg_entry_eq]
  generalize (lg_sl ([.ref aS]) ++ List.replicate (1 - (lg_sl ([.ref aS])).length) Slot.unset).toArray = ls at hl ⊢
  have hl : lv_has ls 1 [(0, .ref aS)] := hl
  refine lv_aload_n hx hb dX1_init_0 rfl (lv_at hl 0 rfl) ?_
  refine W.objInit hx hb hown oiL oiI oiC rfl (by rw [hml]; exact hl.1) rfl dX1_init_1 (Nat.le_of_ble_eq_true rfl) (Nat.le_of_ble_eq_true rfl) ?_
  refine W.eq (g2 := F0 m 4 ls []) rfl ?_
  refine lv_aload_n hx hb dX1_init_4 rfl (lv_at hl 0 rfl) ?_
  refine lv_bipush (v := (9 : Int32)) hx hb dX1_init_5 (by decide) ?_
  refine va_newa (atype := .int) hx hb ac_int rfl hK hP hD hS hA (a0 := (9, .inl (fun _ => (0 : Int32)))) (fun _ => rfl) (by decide) (N' := 9) (by decide) (Nat.le_of_ble_eq_true rfl) (Nat.le_of_ble_eq_true rfl) (Nat.le_of_ble_eq_true rfl) dX1_init_7 (fun q1 cA H hK9 hP hD hS => ?_)
  have hcA := (cI_of hK9).symm
  subst hcA
  have hP : va_P (dC, dI) vwCl [(aS, .inr (1, [.null, .null, .null, .null, .int 0, .int 0, .int 0, .int 0, .int 0, .int 0, .int 0, .int 0, .int 0, .int 0, .int 0])), (q1, .inl (cI, 9, .inl (fun _ => (0 : Int32))))] H := hP
  have hD : va_D A [(aS, .inr (1, [.null, .null, .null, .null, .int 0, .int 0, .int 0, .int 0, .int 0, .int 0, .int 0, .int 0, .int 0, .int 0, .int 0])), (q1, .inl (cI, 9, .inl (fun _ => (0 : Int32))))] := hD
  refine W.widen (k := 1) (n := 9) (Nat.le_of_ble_eq_true rfl) (Nat.le_of_ble_eq_true rfl) ?_
  refine va_putF (D := (dC, dI)) (ci := 1) (v := .ref q1) (ty := .array .int) (C := RX1) (T := TX1) (N := 15) hx hb hts inX1 tyX1 tyX1_ok nmX1 hown hK hP hD hS 0 rfl rfl 0 (by decide) fl9 (fun _ h9 => h9) rfl hin rfl (by decide +kernel) rfl rfl (Nat.le_of_ble_eq_true rfl) dX1_init_9 (fun H locs hP hD hS => ?_)
  have hP : va_P (dC, dI) vwCl [(aS, .inr (1, [.ref q1, .null, .null, .null, .int 0, .int 0, .int 0, .int 0, .int 0, .int 0, .int 0, .int 0, .int 0, .int 0, .int 0])), (q1, .inl (cI, 9, .inl (fun _ => (0 : Int32))))] H := hP
  have hD : va_D A [(aS, .inr (1, [.ref q1, .null, .null, .null, .int 0, .int 0, .int 0, .int 0, .int 0, .int 0, .int 0, .int 0, .int 0, .int 0, .int 0])), (q1, .inl (cI, 9, .inl (fun _ => (0 : Int32))))] := hD
  refine lv_aload_n hx hb dX1_init_12 rfl (lv_at hl 0 rfl) ?_
  refine va_new (ci := 0) (fs := [.int 0, .int 0, .int 0, .int 0, .null, .null, .null, .null, .null]) (C := RX0) (T := TX0) (N := 9) hx hb hts inX0 tyX0 tyX0_ok hown kl15 isX0 iiX0 hK hP hD hS hA rfl (fun j hj => by rcases (show j = 0 ∨ j = 1 ∨ j = 2 ∨ j = 3 ∨ j = 4 ∨ j = 5 ∨ j = 6 ∨ j = 7 ∨ j = 8 by omega) with rfl | rfl | rfl | rfl | rfl | rfl | rfl | rfl | rfl <;> rfl) (Nat.le_of_ble_eq_true rfl) (Nat.le_of_ble_eq_true rfl) dX1_init_13 (fun q2 H hP hD hS => ?_)
  have hP : va_P (dC, dI) vwCl [(aS, .inr (1, [.ref q1, .null, .null, .null, .int 0, .int 0, .int 0, .int 0, .int 0, .int 0, .int 0, .int 0, .int 0, .int 0, .int 0])), (q1, .inl (cI, 9, .inl (fun _ => (0 : Int32)))), (q2, .inr (0, [.int 0, .int 0, .int 0, .int 0, .null, .null, .null, .null, .null]))] H := hP
  have hD : va_D A [(aS, .inr (1, [.ref q1, .null, .null, .null, .int 0, .int 0, .int 0, .int 0, .int 0, .int 0, .int 0, .int 0, .int 0, .int 0, .int 0])), (q1, .inl (cI, 9, .inl (fun _ => (0 : Int32)))), (q2, .inr (0, [.int 0, .int 0, .int 0, .int 0, .null, .null, .null, .null, .null]))] := hD
  refine W.widen (k := 2) (n := 18) (Nat.le_of_ble_eq_true rfl) (Nat.le_of_ble_eq_true rfl) ?_
  refine lv_dup hx hb dX1_init_16 rfl ?_
  have hPc := hP.sub (ws' := [(q2, .inr (0, [.int 0, .int 0, .int 0, .int 0, .null, .null, .null, .null, .null]))]) [2] rfl
  have hDc := hD.sub (ws' := [(q2, .inr (0, [.int 0, .int 0, .int 0, .int 0, .null, .null, .null, .null, .null]))]) [2] (by decide) rfl
  have hFc := va_free (wc := [(q2, .inr (0, [.int 0, .int 0, .int 0, .int 0, .null, .null, .null, .null, .null]))]) hD hS hA [2] rfl
  refine va_callv (va_runIN (As := []) (rest := [.ref q2, .ref aS]) ⟨hx, hb, hml, hown, hts⟩ (c_X0_init l dC dI cI cZ cO q2 H.size) ⟨(va_cnB 0 hts gX1_init_X0_init_n17 rfl rfl rfl (NW_X1_17 hN) (hts (.initialized RX0) (by decide +kernel)) (by decide +kernel) ⟨(Nat.le_of_ble_eq_true rfl), (Nat.le_of_ble_eq_true rfl)⟩), rfl, hts (.instanceMethod yX0_init) (by decide +kernel)⟩ ⟨fb_wr, pre_wr hPc hK hN hDc⟩ rfl rfl hl.1 rfl (lv_room (Nat.le_of_ble_eq_true rfl)) dX1_init_17 ⟨(Nat.le_of_ble_eq_true rfl), (Nat.le_of_ble_eq_true rfl)⟩) hS (fun q _ h => hFc q h) hFc (fun _ t H1 locs ht hvm hw hB hz1 hk1 hS => ?_)
  obtain ⟨z3_1, z3_2, z3_3, z3_4, z3_5, hP1, hD1⟩ := hB
  rw [ht] at hP1
  obtain ⟨hP, hD⟩ := va_join (wr := [(aS, .inr (1, [.ref q1, .null, .null, .null, .int 0, .int 0, .int 0, .int 0, .int 0, .int 0, .int 0, .int 0, .int 0, .int 0, .int 0])), (q1, .inl (cI, 9, .inl (fun _ => (0 : Int32))))]) (w1 := [(q2, .inr (0, [.int 0, .int 0, .int 0, .int 0, .ref z3_1, .ref z3_2, .ref z3_3, .ref z3_4, .ref z3_5])), (z3_1, .inl (cI, 120, .inl (fun _ => (0 : Int32)))), (z3_2, .inl (cI, 120, .inl (fun _ => (0 : Int32)))), (z3_3, .inl (cI, 120, .inl (fun _ => (0 : Int32)))), (z3_4, .inl (cI, 120, .inl (fun _ => (0 : Int32)))), (z3_5, .inl (cI, 120, .inl (fun _ => (0 : Int32))))]) hP hD [2] [0, 1] rfl rfl (by decide) (by decide) hk1 hFc hP1 hD1
  generalize H1 = H at hP hS ⊢
  have hP : va_P (dC, dI) vwCl [(aS, .inr (1, [.ref q1, .null, .null, .null, .int 0, .int 0, .int 0, .int 0, .int 0, .int 0, .int 0, .int 0, .int 0, .int 0, .int 0])), (q1, .inl (cI, 9, .inl (fun _ => (0 : Int32)))), (q2, .inr (0, [.int 0, .int 0, .int 0, .int 0, .ref z3_1, .ref z3_2, .ref z3_3, .ref z3_4, .ref z3_5])), (z3_1, .inl (cI, 120, .inl (fun _ => (0 : Int32)))), (z3_2, .inl (cI, 120, .inl (fun _ => (0 : Int32)))), (z3_3, .inl (cI, 120, .inl (fun _ => (0 : Int32)))), (z3_4, .inl (cI, 120, .inl (fun _ => (0 : Int32)))), (z3_5, .inl (cI, 120, .inl (fun _ => (0 : Int32))))] H := hP
  have hD : va_D A [(aS, .inr (1, [.ref q1, .null, .null, .null, .int 0, .int 0, .int 0, .int 0, .int 0, .int 0, .int 0, .int 0, .int 0, .int 0, .int 0])), (q1, .inl (cI, 9, .inl (fun _ => (0 : Int32)))), (q2, .inr (0, [.int 0, .int 0, .int 0, .int 0, .ref z3_1, .ref z3_2, .ref z3_3, .ref z3_4, .ref z3_5])), (z3_1, .inl (cI, 120, .inl (fun _ => (0 : Int32)))), (z3_2, .inl (cI, 120, .inl (fun _ => (0 : Int32)))), (z3_3, .inl (cI, 120, .inl (fun _ => (0 : Int32)))), (z3_4, .inl (cI, 120, .inl (fun _ => (0 : Int32)))), (z3_5, .inl (cI, 120, .inl (fun _ => (0 : Int32))))] := hD
  refine W.widen (k := 7) (n := 618) (Nat.le_of_ble_eq_true rfl) (Nat.le_of_ble_eq_true rfl) ?_
  refine va_putF (D := (dC, dI)) (ci := 1) (v := .ref q2) (ty := .object "Teleprompter$Script") (C := RX1) (T := TX1) (N := 15) hx hb hts inX1 tyX1 tyX1_ok nmX1 hown hK hP hD hS 0 rfl rfl 1 (by decide) fl18 (fun _ h9 => h9) rfl hin rfl (by decide +kernel) rfl rfl (Nat.le_of_ble_eq_true rfl) dX1_init_20 (fun H locs hP hD hS => ?_)
  have hP : va_P (dC, dI) vwCl [(aS, .inr (1, [.ref q1, .ref q2, .null, .null, .int 0, .int 0, .int 0, .int 0, .int 0, .int 0, .int 0, .int 0, .int 0, .int 0, .int 0])), (q1, .inl (cI, 9, .inl (fun _ => (0 : Int32)))), (q2, .inr (0, [.int 0, .int 0, .int 0, .int 0, .ref z3_1, .ref z3_2, .ref z3_3, .ref z3_4, .ref z3_5])), (z3_1, .inl (cI, 120, .inl (fun _ => (0 : Int32)))), (z3_2, .inl (cI, 120, .inl (fun _ => (0 : Int32)))), (z3_3, .inl (cI, 120, .inl (fun _ => (0 : Int32)))), (z3_4, .inl (cI, 120, .inl (fun _ => (0 : Int32)))), (z3_5, .inl (cI, 120, .inl (fun _ => (0 : Int32))))] H := hP
  have hD : va_D A [(aS, .inr (1, [.ref q1, .ref q2, .null, .null, .int 0, .int 0, .int 0, .int 0, .int 0, .int 0, .int 0, .int 0, .int 0, .int 0, .int 0])), (q1, .inl (cI, 9, .inl (fun _ => (0 : Int32)))), (q2, .inr (0, [.int 0, .int 0, .int 0, .int 0, .ref z3_1, .ref z3_2, .ref z3_3, .ref z3_4, .ref z3_5])), (z3_1, .inl (cI, 120, .inl (fun _ => (0 : Int32)))), (z3_2, .inl (cI, 120, .inl (fun _ => (0 : Int32)))), (z3_3, .inl (cI, 120, .inl (fun _ => (0 : Int32)))), (z3_4, .inl (cI, 120, .inl (fun _ => (0 : Int32)))), (z3_5, .inl (cI, 120, .inl (fun _ => (0 : Int32))))] := hD
  refine lv_aload_n hx hb dX1_init_23 rfl (lv_at hl 0 rfl) ?_
  refine va_new (ci := 2) (fs := [.int 0, .null, .null]) (C := RX2) (T := TX2) (N := 3) hx hb hts inX2 tyX2 tyX2_ok hown kl22 isX2 iiX2 hK hP hD hS hA rfl (fun j hj => by rcases (show j = 0 ∨ j = 1 ∨ j = 2 by omega) with rfl | rfl | rfl <;> rfl) (Nat.le_of_ble_eq_true rfl) (Nat.le_of_ble_eq_true rfl) dX1_init_24 (fun q4 H hP hD hS => ?_)
  have hP : va_P (dC, dI) vwCl [(aS, .inr (1, [.ref q1, .ref q2, .null, .null, .int 0, .int 0, .int 0, .int 0, .int 0, .int 0, .int 0, .int 0, .int 0, .int 0, .int 0])), (q1, .inl (cI, 9, .inl (fun _ => (0 : Int32)))), (q2, .inr (0, [.int 0, .int 0, .int 0, .int 0, .ref z3_1, .ref z3_2, .ref z3_3, .ref z3_4, .ref z3_5])), (z3_1, .inl (cI, 120, .inl (fun _ => (0 : Int32)))), (z3_2, .inl (cI, 120, .inl (fun _ => (0 : Int32)))), (z3_3, .inl (cI, 120, .inl (fun _ => (0 : Int32)))), (z3_4, .inl (cI, 120, .inl (fun _ => (0 : Int32)))), (z3_5, .inl (cI, 120, .inl (fun _ => (0 : Int32)))), (q4, .inr (2, [.int 0, .null, .null]))] H := hP
  have hD : va_D A [(aS, .inr (1, [.ref q1, .ref q2, .null, .null, .int 0, .int 0, .int 0, .int 0, .int 0, .int 0, .int 0, .int 0, .int 0, .int 0, .int 0])), (q1, .inl (cI, 9, .inl (fun _ => (0 : Int32)))), (q2, .inr (0, [.int 0, .int 0, .int 0, .int 0, .ref z3_1, .ref z3_2, .ref z3_3, .ref z3_4, .ref z3_5])), (z3_1, .inl (cI, 120, .inl (fun _ => (0 : Int32)))), (z3_2, .inl (cI, 120, .inl (fun _ => (0 : Int32)))), (z3_3, .inl (cI, 120, .inl (fun _ => (0 : Int32)))), (z3_4, .inl (cI, 120, .inl (fun _ => (0 : Int32)))), (z3_5, .inl (cI, 120, .inl (fun _ => (0 : Int32)))), (q4, .inr (2, [.int 0, .null, .null]))] := hD
  refine W.widen (k := 8) (n := 621) (Nat.le_of_ble_eq_true rfl) (Nat.le_of_ble_eq_true rfl) ?_
  refine lv_dup hx hb dX1_init_27 rfl ?_
  have hPc := hP.sub (ws' := [(q4, .inr (2, [.int 0, .null, .null]))]) [8] rfl
  have hDc := hD.sub (ws' := [(q4, .inr (2, [.int 0, .null, .null]))]) [8] (by decide) rfl
  have hFc := va_free (wc := [(q4, .inr (2, [.int 0, .null, .null]))]) hD hS hA [8] rfl
  refine va_callv (va_runIN (As := []) (rest := [.ref q4, .ref aS]) ⟨hx, hb, hml, hown, hts⟩ (c_X2_init l dC dI cI cZ cO q4 H.size) ⟨(va_cnB 0 hts gX1_init_X2_init_n24 rfl rfl rfl (NW_X1_24 hN) (hts (.initialized RX2) (by decide +kernel)) (by decide +kernel) ⟨(Nat.le_of_ble_eq_true rfl), (Nat.le_of_ble_eq_true rfl)⟩), rfl, hts (.instanceMethod yX2_init) (by decide +kernel)⟩ ⟨fb_wr, pre_wr hPc hK hN hDc⟩ rfl rfl hl.1 rfl (lv_room (Nat.le_of_ble_eq_true rfl)) dX1_init_28 ⟨(Nat.le_of_ble_eq_true rfl), (Nat.le_of_ble_eq_true rfl)⟩) hS (fun q _ h => hFc q h) hFc (fun _ t H1 locs ht hvm hw hB hz1 hk1 hS => ?_)
  obtain ⟨z5_1, z5_2, hP1, hD1⟩ := hB
  rw [ht] at hP1
  obtain ⟨hP, hD⟩ := va_join (wr := [(aS, .inr (1, [.ref q1, .ref q2, .null, .null, .int 0, .int 0, .int 0, .int 0, .int 0, .int 0, .int 0, .int 0, .int 0, .int 0, .int 0])), (q1, .inl (cI, 9, .inl (fun _ => (0 : Int32)))), (q2, .inr (0, [.int 0, .int 0, .int 0, .int 0, .ref z3_1, .ref z3_2, .ref z3_3, .ref z3_4, .ref z3_5])), (z3_1, .inl (cI, 120, .inl (fun _ => (0 : Int32)))), (z3_2, .inl (cI, 120, .inl (fun _ => (0 : Int32)))), (z3_3, .inl (cI, 120, .inl (fun _ => (0 : Int32)))), (z3_4, .inl (cI, 120, .inl (fun _ => (0 : Int32)))), (z3_5, .inl (cI, 120, .inl (fun _ => (0 : Int32))))]) (w1 := [(q4, .inr (2, [.int 0, .ref z5_1, .ref z5_2])), (z5_1, .inl (cI, 61, .inl (fun _ => (0 : Int32)))), (z5_2, .inl (cI, 61, .inl (fun _ => (0 : Int32))))]) hP hD [8] [0, 1, 2, 3, 4, 5, 6, 7] rfl rfl (by decide) (by decide) hk1 hFc hP1 hD1
  generalize H1 = H at hP hS ⊢
  have hP : va_P (dC, dI) vwCl [(aS, .inr (1, [.ref q1, .ref q2, .null, .null, .int 0, .int 0, .int 0, .int 0, .int 0, .int 0, .int 0, .int 0, .int 0, .int 0, .int 0])), (q1, .inl (cI, 9, .inl (fun _ => (0 : Int32)))), (q2, .inr (0, [.int 0, .int 0, .int 0, .int 0, .ref z3_1, .ref z3_2, .ref z3_3, .ref z3_4, .ref z3_5])), (z3_1, .inl (cI, 120, .inl (fun _ => (0 : Int32)))), (z3_2, .inl (cI, 120, .inl (fun _ => (0 : Int32)))), (z3_3, .inl (cI, 120, .inl (fun _ => (0 : Int32)))), (z3_4, .inl (cI, 120, .inl (fun _ => (0 : Int32)))), (z3_5, .inl (cI, 120, .inl (fun _ => (0 : Int32)))), (q4, .inr (2, [.int 0, .ref z5_1, .ref z5_2])), (z5_1, .inl (cI, 61, .inl (fun _ => (0 : Int32)))), (z5_2, .inl (cI, 61, .inl (fun _ => (0 : Int32))))] H := hP
  have hD : va_D A [(aS, .inr (1, [.ref q1, .ref q2, .null, .null, .int 0, .int 0, .int 0, .int 0, .int 0, .int 0, .int 0, .int 0, .int 0, .int 0, .int 0])), (q1, .inl (cI, 9, .inl (fun _ => (0 : Int32)))), (q2, .inr (0, [.int 0, .int 0, .int 0, .int 0, .ref z3_1, .ref z3_2, .ref z3_3, .ref z3_4, .ref z3_5])), (z3_1, .inl (cI, 120, .inl (fun _ => (0 : Int32)))), (z3_2, .inl (cI, 120, .inl (fun _ => (0 : Int32)))), (z3_3, .inl (cI, 120, .inl (fun _ => (0 : Int32)))), (z3_4, .inl (cI, 120, .inl (fun _ => (0 : Int32)))), (z3_5, .inl (cI, 120, .inl (fun _ => (0 : Int32)))), (q4, .inr (2, [.int 0, .ref z5_1, .ref z5_2])), (z5_1, .inl (cI, 61, .inl (fun _ => (0 : Int32)))), (z5_2, .inl (cI, 61, .inl (fun _ => (0 : Int32))))] := hD
  refine W.widen (k := 10) (n := 743) (Nat.le_of_ble_eq_true rfl) (Nat.le_of_ble_eq_true rfl) ?_
  refine va_putF (D := (dC, dI)) (ci := 1) (v := .ref q4) (ty := .object "Teleprompter$Trail") (C := RX1) (T := TX1) (N := 15) hx hb hts inX1 tyX1 tyX1_ok nmX1 hown hK hP hD hS 0 rfl rfl 2 (by decide) fl25 (fun _ h9 => h9) rfl hin rfl (by decide +kernel) rfl rfl (Nat.le_of_ble_eq_true rfl) dX1_init_31 (fun H locs hP hD hS => ?_)
  have hP : va_P (dC, dI) vwCl [(aS, .inr (1, [.ref q1, .ref q2, .ref q4, .null, .int 0, .int 0, .int 0, .int 0, .int 0, .int 0, .int 0, .int 0, .int 0, .int 0, .int 0])), (q1, .inl (cI, 9, .inl (fun _ => (0 : Int32)))), (q2, .inr (0, [.int 0, .int 0, .int 0, .int 0, .ref z3_1, .ref z3_2, .ref z3_3, .ref z3_4, .ref z3_5])), (z3_1, .inl (cI, 120, .inl (fun _ => (0 : Int32)))), (z3_2, .inl (cI, 120, .inl (fun _ => (0 : Int32)))), (z3_3, .inl (cI, 120, .inl (fun _ => (0 : Int32)))), (z3_4, .inl (cI, 120, .inl (fun _ => (0 : Int32)))), (z3_5, .inl (cI, 120, .inl (fun _ => (0 : Int32)))), (q4, .inr (2, [.int 0, .ref z5_1, .ref z5_2])), (z5_1, .inl (cI, 61, .inl (fun _ => (0 : Int32)))), (z5_2, .inl (cI, 61, .inl (fun _ => (0 : Int32))))] H := hP
  have hD : va_D A [(aS, .inr (1, [.ref q1, .ref q2, .ref q4, .null, .int 0, .int 0, .int 0, .int 0, .int 0, .int 0, .int 0, .int 0, .int 0, .int 0, .int 0])), (q1, .inl (cI, 9, .inl (fun _ => (0 : Int32)))), (q2, .inr (0, [.int 0, .int 0, .int 0, .int 0, .ref z3_1, .ref z3_2, .ref z3_3, .ref z3_4, .ref z3_5])), (z3_1, .inl (cI, 120, .inl (fun _ => (0 : Int32)))), (z3_2, .inl (cI, 120, .inl (fun _ => (0 : Int32)))), (z3_3, .inl (cI, 120, .inl (fun _ => (0 : Int32)))), (z3_4, .inl (cI, 120, .inl (fun _ => (0 : Int32)))), (z3_5, .inl (cI, 120, .inl (fun _ => (0 : Int32)))), (q4, .inr (2, [.int 0, .ref z5_1, .ref z5_2])), (z5_1, .inl (cI, 61, .inl (fun _ => (0 : Int32)))), (z5_2, .inl (cI, 61, .inl (fun _ => (0 : Int32))))] := hD
  refine lv_aload_n hx hb dX1_init_34 rfl (lv_at hl 0 rfl) ?_
  refine lv_iconst (v := (4 : Int32)) hx hb dX1_init_35 (by decide) ?_
  refine va_newa (atype := .int) hx hb ac_int rfl hK hP hD hS hA (a0 := (4, .inl (fun _ => (0 : Int32)))) (fun _ => rfl) (by decide) (N' := 4) (by decide) (Nat.le_of_ble_eq_true rfl) (Nat.le_of_ble_eq_true rfl) (Nat.le_of_ble_eq_true rfl) dX1_init_36 (fun q6 cA H hK9 hP hD hS => ?_)
  have hcA := (cI_of hK9).symm
  subst hcA
  have hP : va_P (dC, dI) vwCl [(aS, .inr (1, [.ref q1, .ref q2, .ref q4, .null, .int 0, .int 0, .int 0, .int 0, .int 0, .int 0, .int 0, .int 0, .int 0, .int 0, .int 0])), (q1, .inl (cI, 9, .inl (fun _ => (0 : Int32)))), (q2, .inr (0, [.int 0, .int 0, .int 0, .int 0, .ref z3_1, .ref z3_2, .ref z3_3, .ref z3_4, .ref z3_5])), (z3_1, .inl (cI, 120, .inl (fun _ => (0 : Int32)))), (z3_2, .inl (cI, 120, .inl (fun _ => (0 : Int32)))), (z3_3, .inl (cI, 120, .inl (fun _ => (0 : Int32)))), (z3_4, .inl (cI, 120, .inl (fun _ => (0 : Int32)))), (z3_5, .inl (cI, 120, .inl (fun _ => (0 : Int32)))), (q4, .inr (2, [.int 0, .ref z5_1, .ref z5_2])), (z5_1, .inl (cI, 61, .inl (fun _ => (0 : Int32)))), (z5_2, .inl (cI, 61, .inl (fun _ => (0 : Int32)))), (q6, .inl (cI, 4, .inl (fun _ => (0 : Int32))))] H := hP
  have hD : va_D A [(aS, .inr (1, [.ref q1, .ref q2, .ref q4, .null, .int 0, .int 0, .int 0, .int 0, .int 0, .int 0, .int 0, .int 0, .int 0, .int 0, .int 0])), (q1, .inl (cI, 9, .inl (fun _ => (0 : Int32)))), (q2, .inr (0, [.int 0, .int 0, .int 0, .int 0, .ref z3_1, .ref z3_2, .ref z3_3, .ref z3_4, .ref z3_5])), (z3_1, .inl (cI, 120, .inl (fun _ => (0 : Int32)))), (z3_2, .inl (cI, 120, .inl (fun _ => (0 : Int32)))), (z3_3, .inl (cI, 120, .inl (fun _ => (0 : Int32)))), (z3_4, .inl (cI, 120, .inl (fun _ => (0 : Int32)))), (z3_5, .inl (cI, 120, .inl (fun _ => (0 : Int32)))), (q4, .inr (2, [.int 0, .ref z5_1, .ref z5_2])), (z5_1, .inl (cI, 61, .inl (fun _ => (0 : Int32)))), (z5_2, .inl (cI, 61, .inl (fun _ => (0 : Int32)))), (q6, .inl (cI, 4, .inl (fun _ => (0 : Int32))))] := hD
  refine W.widen (k := 11) (n := 747) (Nat.le_of_ble_eq_true rfl) (Nat.le_of_ble_eq_true rfl) ?_
  refine va_putF (D := (dC, dI)) (ci := 1) (v := .ref q6) (ty := .array .int) (C := RX1) (T := TX1) (N := 15) hx hb hts inX1 tyX1 tyX1_ok nmX1 hown hK hP hD hS 0 rfl rfl 3 (by decide) fl29 (fun _ h9 => h9) rfl hin rfl (by decide +kernel) rfl rfl (Nat.le_of_ble_eq_true rfl) dX1_init_38 (fun H locs hP hD hS => ?_)
  have hP : va_P (dC, dI) vwCl [(aS, .inr (1, [.ref q1, .ref q2, .ref q4, .ref q6, .int 0, .int 0, .int 0, .int 0, .int 0, .int 0, .int 0, .int 0, .int 0, .int 0, .int 0])), (q1, .inl (cI, 9, .inl (fun _ => (0 : Int32)))), (q2, .inr (0, [.int 0, .int 0, .int 0, .int 0, .ref z3_1, .ref z3_2, .ref z3_3, .ref z3_4, .ref z3_5])), (z3_1, .inl (cI, 120, .inl (fun _ => (0 : Int32)))), (z3_2, .inl (cI, 120, .inl (fun _ => (0 : Int32)))), (z3_3, .inl (cI, 120, .inl (fun _ => (0 : Int32)))), (z3_4, .inl (cI, 120, .inl (fun _ => (0 : Int32)))), (z3_5, .inl (cI, 120, .inl (fun _ => (0 : Int32)))), (q4, .inr (2, [.int 0, .ref z5_1, .ref z5_2])), (z5_1, .inl (cI, 61, .inl (fun _ => (0 : Int32)))), (z5_2, .inl (cI, 61, .inl (fun _ => (0 : Int32)))), (q6, .inl (cI, 4, .inl (fun _ => (0 : Int32))))] H := hP
  have hD : va_D A [(aS, .inr (1, [.ref q1, .ref q2, .ref q4, .ref q6, .int 0, .int 0, .int 0, .int 0, .int 0, .int 0, .int 0, .int 0, .int 0, .int 0, .int 0])), (q1, .inl (cI, 9, .inl (fun _ => (0 : Int32)))), (q2, .inr (0, [.int 0, .int 0, .int 0, .int 0, .ref z3_1, .ref z3_2, .ref z3_3, .ref z3_4, .ref z3_5])), (z3_1, .inl (cI, 120, .inl (fun _ => (0 : Int32)))), (z3_2, .inl (cI, 120, .inl (fun _ => (0 : Int32)))), (z3_3, .inl (cI, 120, .inl (fun _ => (0 : Int32)))), (z3_4, .inl (cI, 120, .inl (fun _ => (0 : Int32)))), (z3_5, .inl (cI, 120, .inl (fun _ => (0 : Int32)))), (q4, .inr (2, [.int 0, .ref z5_1, .ref z5_2])), (z5_1, .inl (cI, 61, .inl (fun _ => (0 : Int32)))), (z5_2, .inl (cI, 61, .inl (fun _ => (0 : Int32)))), (q6, .inl (cI, 4, .inl (fun _ => (0 : Int32))))] := hD
  have hP9 := hP.sub (ws' := [(aS, .inr (1, [.ref q1, .ref q2, .ref q4, .ref q6, .int 0, .int 0, .int 0, .int 0, .int 0, .int 0, .int 0, .int 0, .int 0, .int 0, .int 0])), (q1, .inl (cI, 9, .inl (fun _ => (0 : Int32)))), (q2, .inr (0, [.int 0, .int 0, .int 0, .int 0, .ref z3_1, .ref z3_2, .ref z3_3, .ref z3_4, .ref z3_5])), (z3_1, .inl (cI, 120, .inl (fun _ => (0 : Int32)))), (z3_2, .inl (cI, 120, .inl (fun _ => (0 : Int32)))), (z3_3, .inl (cI, 120, .inl (fun _ => (0 : Int32)))), (z3_4, .inl (cI, 120, .inl (fun _ => (0 : Int32)))), (z3_5, .inl (cI, 120, .inl (fun _ => (0 : Int32)))), (q4, .inr (2, [.int 0, .ref z5_1, .ref z5_2])), (z5_1, .inl (cI, 61, .inl (fun _ => (0 : Int32)))), (z5_2, .inl (cI, 61, .inl (fun _ => (0 : Int32)))), (q6, .inl (cI, 4, .inl (fun _ => (0 : Int32))))]) [0, 1, 2, 3, 4, 5, 6, 7, 8, 9, 10, 11] rfl
  have hD9 := hD.sub (ws' := [(aS, .inr (1, [.ref q1, .ref q2, .ref q4, .ref q6, .int 0, .int 0, .int 0, .int 0, .int 0, .int 0, .int 0, .int 0, .int 0, .int 0, .int 0])), (q1, .inl (cI, 9, .inl (fun _ => (0 : Int32)))), (q2, .inr (0, [.int 0, .int 0, .int 0, .int 0, .ref z3_1, .ref z3_2, .ref z3_3, .ref z3_4, .ref z3_5])), (z3_1, .inl (cI, 120, .inl (fun _ => (0 : Int32)))), (z3_2, .inl (cI, 120, .inl (fun _ => (0 : Int32)))), (z3_3, .inl (cI, 120, .inl (fun _ => (0 : Int32)))), (z3_4, .inl (cI, 120, .inl (fun _ => (0 : Int32)))), (z3_5, .inl (cI, 120, .inl (fun _ => (0 : Int32)))), (q4, .inr (2, [.int 0, .ref z5_1, .ref z5_2])), (z5_1, .inl (cI, 61, .inl (fun _ => (0 : Int32)))), (z5_2, .inl (cI, 61, .inl (fun _ => (0 : Int32)))), (q6, .inl (cI, 4, .inl (fun _ => (0 : Int32))))]) [0, 1, 2, 3, 4, 5, 6, 7, 8, 9, 10, 11] (by decide) rfl
  subst hQ
  subst hAe
  exact W.vret hx hb hr (fun t ht hW => ⟨⟨(), rfl, trivial, q1, q2, z3_1, z3_2, z3_3, z3_4, z3_5, q4, z5_1, z5_2, q6, by rw [ht]; exact hP9, hD9⟩, hS.F ht⟩) hS.2.2 dX1_init_41
