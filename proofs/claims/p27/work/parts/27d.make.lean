set_option maxHeartbeats 4000000 in
set_option maxRecDepth 100000 in
theorem initT2 {p : Program} {l : Launch} {e : Env} {s : State} {m : MethodId} {below : List Frame} {meth : Method} {c : Code} {locs : List Loc} {Q : State → Prop} {A : Nat → Prop} {dC : Nat → ClassId} {dI : Nat → Nat → Nat} {cI cZ cO : ClassId} {H : Heap} {ls : Array Slot} {aX q1 q2 z3_1 z3_2 z3_3 z3_4 z3_5 q4 z5_1 z5_2 z5_3 z5_4 z5_5 z5_6 z5_7 z5_8 z5_9 z5_10 z5_11 q6 z7_1 z7_2 z7_3 z7_4 z7_5 z7_6 z7_7 z7_8 z7_9 z7_10 z7_11 q8 q9 q10 : Nat} (hx : p.tables.exec = Jvm.exec) (hb : c.code = cX3_init) (hml : c.maxLocals = 2) (hown : s.vm.findClass RX3 = some m.cls) (hts : ∀ w ∈ wsX3_init, w.before ([.ref aX] : List Value).toArray s = true) (hA : ∀ q, s.heap.size ≤ q → A q) (hK : va_K (dC, dI) vwCl (tyA cI cZ cO) s) (hN : NW s) (hP : va_P (dC, dI) vwCl (XI cI cZ cO aX q1 q2 z3_1 z3_2 z3_3 z3_4 z3_5 q4 z5_1 z5_2 z5_3 z5_4 z5_5 z5_6 z5_7 z5_8 z5_9 z5_10 z5_11 q6 z7_1 z7_2 z7_3 z7_4 z7_5 z7_6 z7_7 z7_8 z7_9 z7_10 z7_11 q8 q9 q10 (fun _ => none) (fun _ => none) ++ []) H) (hD : va_D A (XI cI cZ cO aX q1 q2 z3_1 z3_2 z3_3 z3_4 z3_5 q4 z5_1 z5_2 z5_3 z5_4 z5_5 z5_6 z5_7 z5_8 z5_9 z5_10 z5_11 q6 z7_1 z7_2 z7_3 z7_4 z7_5 z7_6 z7_7 z7_8 z7_9 z7_10 z7_11 q8 q9 q10 (fun _ => none) (fun _ => none) ++ [])) (hS : va_S A s.heap H locs) (hl : lv_has ls 2 [(1, .int (nI 0)), (0, .ref aX)]) (k3 : ∀ (ad : Nat → Nat → Nat) (hf imf : Nat → Option Nat) (H : Heap) (locs : List Loc) (ls : Array Slot), HH hf (fun i => i) ad → HI imf ad → va_P (dC, dI) vwCl (XI cI cZ cO aX q1 q2 z3_1 z3_2 z3_3 z3_4 z3_5 q4 z5_1 z5_2 z5_3 z5_4 z5_5 z5_6 z5_7 z5_8 z5_9 z5_10 z5_11 q6 z7_1 z7_2 z7_3 z7_4 z7_5 z7_6 z7_7 z7_8 z7_9 z7_10 z7_11 q8 q9 q10 hf imf ++ plW cI ad (fun _ _ _ => (0 : Int32)) 10) H → va_D A (XI cI cZ cO aX q1 q2 z3_1 z3_2 z3_3 z3_4 z3_5 q4 z5_1 z5_2 z5_3 z5_4 z5_5 z5_6 z5_7 z5_8 z5_9 z5_10 z5_11 q6 z7_1 z7_2 z7_3 z7_4 z7_5 z7_6 z7_7 z7_8 z7_9 z7_10 z7_11 q8 q9 q10 hf imf ++ plW cI ad (fun _ _ _ => (0 : Int32)) 10) → va_S A s.heap H locs → lv_has ls 2 [(1, .int (nI 2)), (0, .ref aX)] → W p l e rm_X3_init s m ([.ref aX] : List Value).toArray below meth c H locs 154 9905 Q (F0 m 130 ls [])) : W p l e rm_X3_init s m ([.ref aX] : List Value).toArray below meth c H locs 34 2285 Q (F0 m 72 ls []) := by
  have fl30 := hts (.fieldLink RX3 30 "Teleprompter" "history" "[LTeleprompter$State;") (by decide +kernel)
  have fl34 := hts (.fieldLink RX3 34 "Teleprompter" "images" "[LTeleprompter$State;") (by decide +kernel)
  have inX3 : ∀ w ∈ u_ws RX3 TX3 11, w ∈ wsX3_init := by decide +kernel
  refine histStep (k := 0) hx hb hml hown hts hA hK hN (by decide) ⟨(Nat.le_of_ble_eq_true rfl), (Nat.le_of_ble_eq_true rfl)⟩ hP hD hS hl (fun a0 H locs ls hP hD hS hl => ?_)
  refine histStep (k := 1) hx hb hml hown hts hA hK hN (by decide) ⟨(Nat.le_of_ble_eq_true rfl), (Nat.le_of_ble_eq_true rfl)⟩ hP hD hS hl (fun a1 H locs ls hP hD hS hl => ?_)
  refine histStep (k := 2) hx hb hml hown hts hA hK hN (by decide) ⟨(Nat.le_of_ble_eq_true rfl), (Nat.le_of_ble_eq_true rfl)⟩ hP hD hS hl (fun a2 H locs ls hP hD hS hl => ?_)
  refine histStep (k := 3) hx hb hml hown hts hA hK hN (by decide) ⟨(Nat.le_of_ble_eq_true rfl), (Nat.le_of_ble_eq_true rfl)⟩ hP hD hS hl (fun a3 H locs ls hP hD hS hl => ?_)
  refine histStep (k := 4) hx hb hml hown hts hA hK hN (by decide) ⟨(Nat.le_of_ble_eq_true rfl), (Nat.le_of_ble_eq_true rfl)⟩ hP hD hS hl (fun a4 H locs ls hP hD hS hl => ?_)
  refine histStep (k := 5) hx hb hml hown hts hA hK hN (by decide) ⟨(Nat.le_of_ble_eq_true rfl), (Nat.le_of_ble_eq_true rfl)⟩ hP hD hS hl (fun a5 H locs ls hP hD hS hl => ?_)
  refine histStep (k := 6) hx hb hml hown hts hA hK hN (by decide) ⟨(Nat.le_of_ble_eq_true rfl), (Nat.le_of_ble_eq_true rfl)⟩ hP hD hS hl (fun a6 H locs ls hP hD hS hl => ?_)
  refine histStep (k := 7) hx hb hml hown hts hA hK hN (by decide) ⟨(Nat.le_of_ble_eq_true rfl), (Nat.le_of_ble_eq_true rfl)⟩ hP hD hS hl (fun a7 H locs ls hP hD hS hl => ?_)
  refine lv_iload_n hx hb dX3_init_72 rfl (lv_at hl 0 rfl) ?_
  refine lv_aload_n hx hb dX3_init_73 rfl (lv_at hl 1 rfl) ?_
  refine va_get (D := (dC, dI)) (ci := 3) (v := .ref q8) (C := RX3) (T := TX3) (N := 11) hx hb hts inX3 hown hK hP 0 rfl rfl 7 (by decide) fl30 (fun _ h9 => h9) rfl dX3_init_74 ?_
  refine va_alen hx hb hK hP 32 2 rfl rfl (v := (8 : Int32)) rfl dX3_init_77 ?_
  refine lv_icmp_ge (tgt := 100) hx hb dX3_init_78 (by decide) (fun _ => ?_) (fun c9 => absurd (by decide) c9)
  refine lv_iconst (v := (0 : Int32)) hx hb dX3_init_100 (by decide) ?_
  refine lv_istore_n (lv' := [(1, .int (0 : Int32)), (0, .ref aX)]) hx hb dX3_init_101 rfl hl (by decide) rfl (fun ls hl => ?_)
  have hl : lv_has ls 2 [(1, .int (nI 0)), (0, .ref aX)] := hl
  refine imgStep (k := 0) hx hb hml hown hts hA hK hN (by decide) ⟨(Nat.le_of_ble_eq_true rfl), (Nat.le_of_ble_eq_true rfl)⟩ hP hD hS hl (fun a8 H locs ls hP hD hS hl => ?_)
  refine imgStep (k := 1) hx hb hml hown hts hA hK hN (by decide) ⟨(Nat.le_of_ble_eq_true rfl), (Nat.le_of_ble_eq_true rfl)⟩ hP hD hS hl (fun a9 H locs ls hP hD hS hl => ?_)
  refine lv_iload_n hx hb dX3_init_102 rfl (lv_at hl 0 rfl) ?_
  refine lv_aload_n hx hb dX3_init_103 rfl (lv_at hl 1 rfl) ?_
  refine va_get (D := (dC, dI)) (ci := 3) (v := .ref q9) (C := RX3) (T := TX3) (N := 11) hx hb hts inX3 hown hK hP 0 rfl rfl 9 (by decide) fl34 (fun _ h9 => h9) rfl dX3_init_104 ?_
  refine va_alen hx hb hK hP 33 2 rfl rfl (v := (2 : Int32)) rfl dX3_init_107 ?_
  refine lv_icmp_ge (tgt := 130) hx hb dX3_init_108 (by decide) (fun _ => ?_) (fun c9 => absurd (by decide) c9)
  refine W.widen (k := 154) (n := 9905) (Nat.le_of_ble_eq_true rfl) (Nat.le_of_ble_eq_true rfl) ?_
  obtain ⟨hf, hhf⟩ : ∃ f, f = (va_up (va_up (va_up (va_up (va_up (va_up (va_up (va_up (fun _ => none) 0 (some (a0 0))) 1 (some (a1 0))) 2 (some (a2 0))) 3 (some (a3 0))) 4 (some (a4 0))) 5 (some (a5 0))) 6 (some (a6 0))) 7 (some (a7 0))) := ⟨_, rfl⟩
  obtain ⟨imf, himf⟩ : ∃ f, f = (va_up (va_up (fun _ => none) 0 (some (a8 0))) 1 (some (a9 0))) := ⟨_, rfl⟩
  rw [← hhf, ← himf] at hP hD
  obtain ⟨ad, had⟩ : ∃ ad : Nat → Nat → Nat, ad = (fun k => [a0, a1, a2, a3, a4, a5, a6, a7, a8, a9].getD k a0) := ⟨_, rfl⟩
  have hP : va_P (dC, dI) vwCl (XI cI cZ cO aX q1 q2 z3_1 z3_2 z3_3 z3_4 z3_5 q4 z5_1 z5_2 z5_3 z5_4 z5_5 z5_6 z5_7 z5_8 z5_9 z5_10 z5_11 q6 z7_1 z7_2 z7_3 z7_4 z7_5 z7_6 z7_7 z7_8 z7_9 z7_10 z7_11 q8 q9 q10 hf imf ++ plW cI ad (fun _ _ _ => (0 : Int32)) 10) H := by rw [had]; exact hP
  have hD : va_D A (XI cI cZ cO aX q1 q2 z3_1 z3_2 z3_3 z3_4 z3_5 q4 z5_1 z5_2 z5_3 z5_4 z5_5 z5_6 z5_7 z5_8 z5_9 z5_10 z5_11 q6 z7_1 z7_2 z7_3 z7_4 z7_5 z7_6 z7_7 z7_8 z7_9 z7_10 z7_11 q8 q9 q10 hf imf ++ plW cI ad (fun _ _ _ => (0 : Int32)) 10) := by rw [had]; exact hD
  exact k3 ad hf imf H locs ls (fun i hi => by rw [hhf, had]; rcases (show i = 0 ∨ i = 1 ∨ i = 2 ∨ i = 3 ∨ i = 4 ∨ i = 5 ∨ i = 6 ∨ i = 7 by omega) with rfl | rfl | rfl | rfl | rfl | rfl | rfl | rfl <;> exact ⟨rfl, by decide⟩) (fun i hi => by rw [himf, had]; rcases (show i = 0 ∨ i = 1 by omega) with rfl | rfl <;> rfl) hP hD hS hl
