set_option maxHeartbeats 4000000 in
set_option maxRecDepth 100000 in
theorem histStep {p : Program} {l : Launch} {e : Env} {s : State} {m : MethodId} {args : Array Value} {below : List Frame} {meth : Method} {c : Code} {locs : List Loc} {cells slots : Nat} {Q : State → Prop} {A : Nat → Prop} {dC : Nat → ClassId} {dI : Nat → Nat → Nat} {cI cZ cO : ClassId} {H : Heap} {ls : Array Slot} {aX q1 q2 z3_1 z3_2 z3_3 z3_4 z3_5 q4 z5_1 z5_2 z5_3 z5_4 z5_5 z5_6 z5_7 z5_8 z5_9 z5_10 z5_11 q6 z7_1 z7_2 z7_3 z7_4 z7_5 z7_6 z7_7 z7_8 z7_9 z7_10 z7_11 q8 q9 q10 : Nat} {hf imf : Nat → Option Nat} {T : va_W} {k : Nat} (hx : p.tables.exec = Jvm.exec) (hb : c.code = cX3_init) (hml : c.maxLocals = 2) (hown : s.vm.findClass RX3 = some m.cls) (hts : ∀ w ∈ wsX3_init, w.before args s = true) (hA : ∀ q, s.heap.size ≤ q → A q) (hK : va_K (dC, dI) vwCl (tyA cI cZ cO) s) (hN : NW s) (hk : k < 8) (hro : cells + 12 ≤ 154 ∧ slots + 762 ≤ 9905) (hP : va_P (dC, dI) vwCl (XI cI cZ cO aX q1 q2 z3_1 z3_2 z3_3 z3_4 z3_5 q4 z5_1 z5_2 z5_3 z5_4 z5_5 z5_6 z5_7 z5_8 z5_9 z5_10 z5_11 q6 z7_1 z7_2 z7_3 z7_4 z7_5 z7_6 z7_7 z7_8 z7_9 z7_10 z7_11 q8 q9 q10 hf imf ++ T) H) (hD : va_D A (XI cI cZ cO aX q1 q2 z3_1 z3_2 z3_3 z3_4 z3_5 q4 z5_1 z5_2 z5_3 z5_4 z5_5 z5_6 z5_7 z5_8 z5_9 z5_10 z5_11 q6 z7_1 z7_2 z7_3 z7_4 z7_5 z7_6 z7_7 z7_8 z7_9 z7_10 z7_11 q8 q9 q10 hf imf ++ T)) (hS : va_S A s.heap H locs) (hl : lv_has ls 2 [(1, .int (nI k)), (0, .ref aX)]) (kk : ∀ (adf : Nat → Nat) (H : Heap) (locs : List Loc) (ls : Array Slot), va_P (dC, dI) vwCl (XI cI cZ cO aX q1 q2 z3_1 z3_2 z3_3 z3_4 z3_5 q4 z5_1 z5_2 z5_3 z5_4 z5_5 z5_6 z5_7 z5_8 z5_9 z5_10 z5_11 q6 z7_1 z7_2 z7_3 z7_4 z7_5 z7_6 z7_7 z7_8 z7_9 z7_10 z7_11 q8 q9 q10 (va_up hf k (some (adf 0))) imf ++ (T ++ stW cI adf (fun _ _ => (0 : Int32)))) H → va_D A (XI cI cZ cO aX q1 q2 z3_1 z3_2 z3_3 z3_4 z3_5 q4 z5_1 z5_2 z5_3 z5_4 z5_5 z5_6 z5_7 z5_8 z5_9 z5_10 z5_11 q6 z7_1 z7_2 z7_3 z7_4 z7_5 z7_6 z7_7 z7_8 z7_9 z7_10 z7_11 q8 q9 q10 (va_up hf k (some (adf 0))) imf ++ (T ++ stW cI adf (fun _ _ => (0 : Int32)))) → va_S A s.heap H locs → lv_has ls 2 [(1, .int (nI (k + 1))), (0, .ref aX)] → W p l e rm_X3_init s m args below meth c H locs (cells + 12) (slots + 762) Q (F0 m 72 ls [])) : W p l e rm_X3_init s m args below meth c H locs cells slots Q (F0 m 72 ls []) := by
  have kl20 := hts (.classLink RX3 20 RX1) (by decide +kernel)
  have isX1 := hts (.instantiable RX1 15) (by decide +kernel)
  have iiX1 := hts (.initialized RX1) (by decide +kernel)
  have fl9 := hts (.fieldLink RX3 30 "Teleprompter" "history" "[LTeleprompter$State;") (by decide +kernel)
  have inX3 : ∀ w ∈ u_ws RX3 TX3 11, w ∈ wsX3_init := by decide +kernel
  have inX1 : ∀ w ∈ u_ws RX1 TX1 15, w ∈ wsX3_init := by decide +kernel
  have hRc : rm_X3_init.cells = 154 := rfl
  have hRs : rm_X3_init.slots = 9905 := rfl
  refine lv_iload_n hx hb dX3_init_72 rfl (lv_at hl 0 rfl) ?_
  refine lv_aload_n hx hb dX3_init_73 rfl (lv_at hl 1 rfl) ?_
  refine va_get (D := (dC, dI)) (ci := 3) (v := .ref q8) (C := RX3) (T := TX3) (N := 11) hx hb hts inX3 hown hK hP 0 rfl rfl 7 (by decide) fl9 (fun _ h9 => h9) rfl dX3_init_74 ?_
  refine va_alen hx hb hK hP 32 2 rfl rfl (v := (8 : Int32)) rfl dX3_init_77 ?_
  refine lv_icmp_ge (tgt := 100) hx hb dX3_init_78 (by decide) (fun c9 => absurd c9 (nI_ge (b := 8) hk (by decide))) (fun _ => ?_)
  refine lv_aload_n hx hb dX3_init_81 rfl (lv_at hl 1 rfl) ?_
  refine va_get (D := (dC, dI)) (ci := 3) (v := .ref q8) (C := RX3) (T := TX3) (N := 11) hx hb hts inX3 hown hK hP 0 rfl rfl 7 (by decide) fl9 (fun _ h9 => h9) rfl dX3_init_82 ?_
  refine lv_iload_n hx hb dX3_init_85 rfl (lv_at hl 0 rfl) ?_
  refine va_new (ci := 1) (fs := [.null, .null, .null, .null, .int 0, .int 0, .int 0, .int 0, .int 0, .int 0, .int 0, .int 0, .int 0, .int 0, .int 0]) (C := RX1) (T := TX1) (N := 15) hx hb hts inX1 tyX1 tyX1_ok hown kl20 isX1 iiX1 hK hP hD hS hA rfl (fun j hj => by rcases (show j = 0 ∨ j = 1 ∨ j = 2 ∨ j = 3 ∨ j = 4 ∨ j = 5 ∨ j = 6 ∨ j = 7 ∨ j = 8 ∨ j = 9 ∨ j = 10 ∨ j = 11 ∨ j = 12 ∨ j = 13 ∨ j = 14 by omega) with rfl | rfl | rfl | rfl | rfl | rfl | rfl | rfl | rfl | rfl | rfl | rfl | rfl | rfl | rfl <;> rfl) (by omega) (by omega) dX3_init_86 (fun q H hP hD hS => ?_)
  refine lv_dup hx hb dX3_init_89 rfl ?_
  have hPc := hP.right
  have hDc := va_D.right hD
  have hFc := va_free2 hDc hS hA
  refine va_callv (va_runIN (As := []) (rest := [.ref q, .int (nI k), .ref q8]) ⟨hx, hb, hml, hown, hts⟩ (c_X1_init l dC dI cI cZ cO q H.size) ⟨(va_cnB 0 hts gX3_init_X1_init_n22 rfl rfl rfl (NW_X3_22 hN) (hts (.initialized RX1) (by decide +kernel)) (by decide +kernel) ⟨(Nat.le_of_ble_eq_true rfl), (Nat.le_of_ble_eq_true rfl)⟩), rfl, hts (.instanceMethod yX1_init) (by decide +kernel)⟩ ⟨fb_wr, pre_wr hPc hK hN hDc⟩ rfl rfl hl.1 rfl (lv_room (Nat.le_of_ble_eq_true rfl)) dX3_init_90 ⟨by omega, by omega⟩) hS (fun q _ h => hFc q h) hFc (fun _ t H1 locs ht hvm hw hB hz1 hk1 hS => ?_)
  obtain ⟨y1, y2, y3, y4, y5, y6, y7, y8, y9, y10, y11, hP1, hD1⟩ := hB
  rw [ht] at hP1
  have hj := joinPerm hP hD hk1 hFc hP1 hD1
  obtain ⟨adf, hadf⟩ : ∃ adf : Nat → Nat, adf = fun j => ([q, y1, y2, y3, y4, y5, y6, y7, y8, y9, y10, y11] : List Nat).getD j 0 := ⟨_, rfl⟩
  have hj : va_P (dC, dI) vwCl ((XI cI cZ cO aX q1 q2 z3_1 z3_2 z3_3 z3_4 z3_5 q4 z5_1 z5_2 z5_3 z5_4 z5_5 z5_6 z5_7 z5_8 z5_9 z5_10 z5_11 q6 z7_1 z7_2 z7_3 z7_4 z7_5 z7_6 z7_7 z7_8 z7_9 z7_10 z7_11 q8 q9 q10 hf imf ++ T) ++ stW cI adf (fun _ _ => (0 : Int32))) H1 ∧ va_D A ((XI cI cZ cO aX q1 q2 z3_1 z3_2 z3_3 z3_4 z3_5 q4 z5_1 z5_2 z5_3 z5_4 z5_5 z5_6 z5_7 z5_8 z5_9 z5_10 z5_11 q6 z7_1 z7_2 z7_3 z7_4 z7_5 z7_6 z7_7 z7_8 z7_9 z7_10 z7_11 q8 q9 q10 hf imf ++ T) ++ stW cI adf (fun _ _ => (0 : Int32))) := by rw [hadf]; exact hj
  have pm : ((XI cI cZ cO aX q1 q2 z3_1 z3_2 z3_3 z3_4 z3_5 q4 z5_1 z5_2 z5_3 z5_4 z5_5 z5_6 z5_7 z5_8 z5_9 z5_10 z5_11 q6 z7_1 z7_2 z7_3 z7_4 z7_5 z7_6 z7_7 z7_8 z7_9 z7_10 z7_11 q8 q9 q10 hf imf ++ T) ++ stW cI adf (fun _ _ => (0 : Int32))).Perm ((XI cI cZ cO aX q1 q2 z3_1 z3_2 z3_3 z3_4 z3_5 q4 z5_1 z5_2 z5_3 z5_4 z5_5 z5_6 z5_7 z5_8 z5_9 z5_10 z5_11 q6 z7_1 z7_2 z7_3 z7_4 z7_5 z7_6 z7_7 z7_8 z7_9 z7_10 z7_11 q8 q9 q10 hf imf ++ stW cI adf (fun _ _ => (0 : Int32))) ++ T) := by
    rw [List.append_assoc, List.append_assoc]
    exact List.Perm.append_left _ List.perm_append_comm
  have hP := hj.1.perm pm
  have hD := hj.2.perm pm
  generalize H1 = H at hP hS ⊢
  have hq : q = adf 0 := by rw [hadf]; rfl
  rw [hq]
  refine va_astq hx hb hK hP hD hS 32 2 35 1 rfl rfl rfl rfl (nI_in hk (by decide)) dX3_init_93 (fun H locs hP hD hS => ?_)
  rw [nI_clamp (show k < 2 ^ 31 by omega)] at hP hD
  have hP : va_P (dC, dI) vwCl ((XI cI cZ cO aX q1 q2 z3_1 z3_2 z3_3 z3_4 z3_5 q4 z5_1 z5_2 z5_3 z5_4 z5_5 z5_6 z5_7 z5_8 z5_9 z5_10 z5_11 q6 z7_1 z7_2 z7_3 z7_4 z7_5 z7_6 z7_7 z7_8 z7_9 z7_10 z7_11 q8 q9 q10 (va_up hf k (some (adf 0))) imf ++ stW cI adf (fun _ _ => (0 : Int32))) ++ T) H := hP
  have hD : va_D A ((XI cI cZ cO aX q1 q2 z3_1 z3_2 z3_3 z3_4 z3_5 q4 z5_1 z5_2 z5_3 z5_4 z5_5 z5_6 z5_7 z5_8 z5_9 z5_10 z5_11 q6 z7_1 z7_2 z7_3 z7_4 z7_5 z7_6 z7_7 z7_8 z7_9 z7_10 z7_11 q8 q9 q10 (va_up hf k (some (adf 0))) imf ++ stW cI adf (fun _ _ => (0 : Int32))) ++ T) := hD
  have pm2 : ((XI cI cZ cO aX q1 q2 z3_1 z3_2 z3_3 z3_4 z3_5 q4 z5_1 z5_2 z5_3 z5_4 z5_5 z5_6 z5_7 z5_8 z5_9 z5_10 z5_11 q6 z7_1 z7_2 z7_3 z7_4 z7_5 z7_6 z7_7 z7_8 z7_9 z7_10 z7_11 q8 q9 q10 (va_up hf k (some (adf 0))) imf ++ stW cI adf (fun _ _ => (0 : Int32))) ++ T).Perm (XI cI cZ cO aX q1 q2 z3_1 z3_2 z3_3 z3_4 z3_5 q4 z5_1 z5_2 z5_3 z5_4 z5_5 z5_6 z5_7 z5_8 z5_9 z5_10 z5_11 q6 z7_1 z7_2 z7_3 z7_4 z7_5 z7_6 z7_7 z7_8 z7_9 z7_10 z7_11 q8 q9 q10 (va_up hf k (some (adf 0))) imf ++ (T ++ stW cI adf (fun _ _ => (0 : Int32)))) := by
    rw [List.append_assoc]
    exact List.Perm.append_left _ List.perm_append_comm
  refine lv_iinc (v := nI (k + 1)) (lv' := [(1, .int (nI (k + 1))), (0, .ref aX)]) hx hb dX3_init_94 hl (k := 0) rfl (nI_1 k) (by decide) rfl (fun ls hl => ?_)
  refine lv_goto (tgt := 72) hx hb dX3_init_97 (by decide) ?_
  exact kk adf H locs ls (hP.perm pm2) (hD.perm pm2) hS hl
set_option maxHeartbeats 4000000 in
set_option maxRecDepth 100000 in
theorem imgStep {p : Program} {l : Launch} {e : Env} {s : State} {m : MethodId} {args : Array Value} {below : List Frame} {meth : Method} {c : Code} {locs : List Loc} {cells slots : Nat} {Q : State → Prop} {A : Nat → Prop} {dC : Nat → ClassId} {dI : Nat → Nat → Nat} {cI cZ cO : ClassId} {H : Heap} {ls : Array Slot} {aX q1 q2 z3_1 z3_2 z3_3 z3_4 z3_5 q4 z5_1 z5_2 z5_3 z5_4 z5_5 z5_6 z5_7 z5_8 z5_9 z5_10 z5_11 q6 z7_1 z7_2 z7_3 z7_4 z7_5 z7_6 z7_7 z7_8 z7_9 z7_10 z7_11 q8 q9 q10 : Nat} {hf imf : Nat → Option Nat} {T : va_W} {k : Nat} (hx : p.tables.exec = Jvm.exec) (hb : c.code = cX3_init) (hml : c.maxLocals = 2) (hown : s.vm.findClass RX3 = some m.cls) (hts : ∀ w ∈ wsX3_init, w.before args s = true) (hA : ∀ q, s.heap.size ≤ q → A q) (hK : va_K (dC, dI) vwCl (tyA cI cZ cO) s) (hN : NW s) (hk : k < 2) (hro : cells + 12 ≤ 154 ∧ slots + 762 ≤ 9905) (hP : va_P (dC, dI) vwCl (XI cI cZ cO aX q1 q2 z3_1 z3_2 z3_3 z3_4 z3_5 q4 z5_1 z5_2 z5_3 z5_4 z5_5 z5_6 z5_7 z5_8 z5_9 z5_10 z5_11 q6 z7_1 z7_2 z7_3 z7_4 z7_5 z7_6 z7_7 z7_8 z7_9 z7_10 z7_11 q8 q9 q10 hf imf ++ T) H) (hD : va_D A (XI cI cZ cO aX q1 q2 z3_1 z3_2 z3_3 z3_4 z3_5 q4 z5_1 z5_2 z5_3 z5_4 z5_5 z5_6 z5_7 z5_8 z5_9 z5_10 z5_11 q6 z7_1 z7_2 z7_3 z7_4 z7_5 z7_6 z7_7 z7_8 z7_9 z7_10 z7_11 q8 q9 q10 hf imf ++ T)) (hS : va_S A s.heap H locs) (hl : lv_has ls 2 [(1, .int (nI k)), (0, .ref aX)]) (kk : ∀ (adf : Nat → Nat) (H : Heap) (locs : List Loc) (ls : Array Slot), va_P (dC, dI) vwCl (XI cI cZ cO aX q1 q2 z3_1 z3_2 z3_3 z3_4 z3_5 q4 z5_1 z5_2 z5_3 z5_4 z5_5 z5_6 z5_7 z5_8 z5_9 z5_10 z5_11 q6 z7_1 z7_2 z7_3 z7_4 z7_5 z7_6 z7_7 z7_8 z7_9 z7_10 z7_11 q8 q9 q10 hf (va_up imf k (some (adf 0))) ++ (T ++ stW cI adf (fun _ _ => (0 : Int32)))) H → va_D A (XI cI cZ cO aX q1 q2 z3_1 z3_2 z3_3 z3_4 z3_5 q4 z5_1 z5_2 z5_3 z5_4 z5_5 z5_6 z5_7 z5_8 z5_9 z5_10 z5_11 q6 z7_1 z7_2 z7_3 z7_4 z7_5 z7_6 z7_7 z7_8 z7_9 z7_10 z7_11 q8 q9 q10 hf (va_up imf k (some (adf 0))) ++ (T ++ stW cI adf (fun _ _ => (0 : Int32)))) → va_S A s.heap H locs → lv_has ls 2 [(1, .int (nI (k + 1))), (0, .ref aX)] → W p l e rm_X3_init s m args below meth c H locs (cells + 12) (slots + 762) Q (F0 m 102 ls [])) : W p l e rm_X3_init s m args below meth c H locs cells slots Q (F0 m 102 ls []) := by
  have kl20 := hts (.classLink RX3 20 RX1) (by decide +kernel)
  have isX1 := hts (.instantiable RX1 15) (by decide +kernel)
  have iiX1 := hts (.initialized RX1) (by decide +kernel)
  have fl9 := hts (.fieldLink RX3 34 "Teleprompter" "images" "[LTeleprompter$State;") (by decide +kernel)
  have inX3 : ∀ w ∈ u_ws RX3 TX3 11, w ∈ wsX3_init := by decide +kernel
  have inX1 : ∀ w ∈ u_ws RX1 TX1 15, w ∈ wsX3_init := by decide +kernel
  have hRc : rm_X3_init.cells = 154 := rfl
  have hRs : rm_X3_init.slots = 9905 := rfl
  refine lv_iload_n hx hb dX3_init_102 rfl (lv_at hl 0 rfl) ?_
  refine lv_aload_n hx hb dX3_init_103 rfl (lv_at hl 1 rfl) ?_
  refine va_get (D := (dC, dI)) (ci := 3) (v := .ref q9) (C := RX3) (T := TX3) (N := 11) hx hb hts inX3 hown hK hP 0 rfl rfl 9 (by decide) fl9 (fun _ h9 => h9) rfl dX3_init_104 ?_
  refine va_alen hx hb hK hP 33 2 rfl rfl (v := (2 : Int32)) rfl dX3_init_107 ?_
  refine lv_icmp_ge (tgt := 130) hx hb dX3_init_108 (by decide) (fun c9 => absurd c9 (nI_ge (b := 2) hk (by decide))) (fun _ => ?_)
  refine lv_aload_n hx hb dX3_init_111 rfl (lv_at hl 1 rfl) ?_
  refine va_get (D := (dC, dI)) (ci := 3) (v := .ref q9) (C := RX3) (T := TX3) (N := 11) hx hb hts inX3 hown hK hP 0 rfl rfl 9 (by decide) fl9 (fun _ h9 => h9) rfl dX3_init_112 ?_
  refine lv_iload_n hx hb dX3_init_115 rfl (lv_at hl 0 rfl) ?_
  refine va_new (ci := 1) (fs := [.null, .null, .null, .null, .int 0, .int 0, .int 0, .int 0, .int 0, .int 0, .int 0, .int 0, .int 0, .int 0, .int 0]) (C := RX1) (T := TX1) (N := 15) hx hb hts inX1 tyX1 tyX1_ok hown kl20 isX1 iiX1 hK hP hD hS hA rfl (fun j hj => by rcases (show j = 0 ∨ j = 1 ∨ j = 2 ∨ j = 3 ∨ j = 4 ∨ j = 5 ∨ j = 6 ∨ j = 7 ∨ j = 8 ∨ j = 9 ∨ j = 10 ∨ j = 11 ∨ j = 12 ∨ j = 13 ∨ j = 14 by omega) with rfl | rfl | rfl | rfl | rfl | rfl | rfl | rfl | rfl | rfl | rfl | rfl | rfl | rfl | rfl <;> rfl) (by omega) (by omega) dX3_init_116 (fun q H hP hD hS => ?_)
  refine lv_dup hx hb dX3_init_119 rfl ?_
  have hPc := hP.right
  have hDc := va_D.right hD
  have hFc := va_free2 hDc hS hA
  refine va_callv (va_runIN (As := []) (rest := [.ref q, .int (nI k), .ref q9]) ⟨hx, hb, hml, hown, hts⟩ (c_X1_init l dC dI cI cZ cO q H.size) ⟨(va_cnB 0 hts gX3_init_X1_init_n22 rfl rfl rfl (NW_X3_22 hN) (hts (.initialized RX1) (by decide +kernel)) (by decide +kernel) ⟨(Nat.le_of_ble_eq_true rfl), (Nat.le_of_ble_eq_true rfl)⟩), rfl, hts (.instanceMethod yX1_init) (by decide +kernel)⟩ ⟨fb_wr, pre_wr hPc hK hN hDc⟩ rfl rfl hl.1 rfl (lv_room (Nat.le_of_ble_eq_true rfl)) dX3_init_120 ⟨by omega, by omega⟩) hS (fun q _ h => hFc q h) hFc (fun _ t H1 locs ht hvm hw hB hz1 hk1 hS => ?_)
  obtain ⟨y1, y2, y3, y4, y5, y6, y7, y8, y9, y10, y11, hP1, hD1⟩ := hB
  rw [ht] at hP1
  have hj := joinPerm hP hD hk1 hFc hP1 hD1
  obtain ⟨adf, hadf⟩ : ∃ adf : Nat → Nat, adf = fun j => ([q, y1, y2, y3, y4, y5, y6, y7, y8, y9, y10, y11] : List Nat).getD j 0 := ⟨_, rfl⟩
  have hj : va_P (dC, dI) vwCl ((XI cI cZ cO aX q1 q2 z3_1 z3_2 z3_3 z3_4 z3_5 q4 z5_1 z5_2 z5_3 z5_4 z5_5 z5_6 z5_7 z5_8 z5_9 z5_10 z5_11 q6 z7_1 z7_2 z7_3 z7_4 z7_5 z7_6 z7_7 z7_8 z7_9 z7_10 z7_11 q8 q9 q10 hf imf ++ T) ++ stW cI adf (fun _ _ => (0 : Int32))) H1 ∧ va_D A ((XI cI cZ cO aX q1 q2 z3_1 z3_2 z3_3 z3_4 z3_5 q4 z5_1 z5_2 z5_3 z5_4 z5_5 z5_6 z5_7 z5_8 z5_9 z5_10 z5_11 q6 z7_1 z7_2 z7_3 z7_4 z7_5 z7_6 z7_7 z7_8 z7_9 z7_10 z7_11 q8 q9 q10 hf imf ++ T) ++ stW cI adf (fun _ _ => (0 : Int32))) := by rw [hadf]; exact hj
  have pm : ((XI cI cZ cO aX q1 q2 z3_1 z3_2 z3_3 z3_4 z3_5 q4 z5_1 z5_2 z5_3 z5_4 z5_5 z5_6 z5_7 z5_8 z5_9 z5_10 z5_11 q6 z7_1 z7_2 z7_3 z7_4 z7_5 z7_6 z7_7 z7_8 z7_9 z7_10 z7_11 q8 q9 q10 hf imf ++ T) ++ stW cI adf (fun _ _ => (0 : Int32))).Perm ((XI cI cZ cO aX q1 q2 z3_1 z3_2 z3_3 z3_4 z3_5 q4 z5_1 z5_2 z5_3 z5_4 z5_5 z5_6 z5_7 z5_8 z5_9 z5_10 z5_11 q6 z7_1 z7_2 z7_3 z7_4 z7_5 z7_6 z7_7 z7_8 z7_9 z7_10 z7_11 q8 q9 q10 hf imf ++ stW cI adf (fun _ _ => (0 : Int32))) ++ T) := by
    rw [List.append_assoc, List.append_assoc]
    exact List.Perm.append_left _ List.perm_append_comm
  have hP := hj.1.perm pm
  have hD := hj.2.perm pm
  generalize H1 = H at hP hS ⊢
  have hq : q = adf 0 := by rw [hadf]; rfl
  rw [hq]
  refine va_astq hx hb hK hP hD hS 33 2 35 1 rfl rfl rfl rfl (nI_in hk (by decide)) dX3_init_123 (fun H locs hP hD hS => ?_)
  rw [nI_clamp (show k < 2 ^ 31 by omega)] at hP hD
  have hP : va_P (dC, dI) vwCl ((XI cI cZ cO aX q1 q2 z3_1 z3_2 z3_3 z3_4 z3_5 q4 z5_1 z5_2 z5_3 z5_4 z5_5 z5_6 z5_7 z5_8 z5_9 z5_10 z5_11 q6 z7_1 z7_2 z7_3 z7_4 z7_5 z7_6 z7_7 z7_8 z7_9 z7_10 z7_11 q8 q9 q10 hf (va_up imf k (some (adf 0))) ++ stW cI adf (fun _ _ => (0 : Int32))) ++ T) H := hP
  have hD : va_D A ((XI cI cZ cO aX q1 q2 z3_1 z3_2 z3_3 z3_4 z3_5 q4 z5_1 z5_2 z5_3 z5_4 z5_5 z5_6 z5_7 z5_8 z5_9 z5_10 z5_11 q6 z7_1 z7_2 z7_3 z7_4 z7_5 z7_6 z7_7 z7_8 z7_9 z7_10 z7_11 q8 q9 q10 hf (va_up imf k (some (adf 0))) ++ stW cI adf (fun _ _ => (0 : Int32))) ++ T) := hD
  have pm2 : ((XI cI cZ cO aX q1 q2 z3_1 z3_2 z3_3 z3_4 z3_5 q4 z5_1 z5_2 z5_3 z5_4 z5_5 z5_6 z5_7 z5_8 z5_9 z5_10 z5_11 q6 z7_1 z7_2 z7_3 z7_4 z7_5 z7_6 z7_7 z7_8 z7_9 z7_10 z7_11 q8 q9 q10 hf (va_up imf k (some (adf 0))) ++ stW cI adf (fun _ _ => (0 : Int32))) ++ T).Perm (XI cI cZ cO aX q1 q2 z3_1 z3_2 z3_3 z3_4 z3_5 q4 z5_1 z5_2 z5_3 z5_4 z5_5 z5_6 z5_7 z5_8 z5_9 z5_10 z5_11 q6 z7_1 z7_2 z7_3 z7_4 z7_5 z7_6 z7_7 z7_8 z7_9 z7_10 z7_11 q8 q9 q10 hf (va_up imf k (some (adf 0))) ++ (T ++ stW cI adf (fun _ _ => (0 : Int32)))) := by
    rw [List.append_assoc]
    exact List.Perm.append_left _ List.perm_append_comm
  refine lv_iinc (v := nI (k + 1)) (lv' := [(1, .int (nI (k + 1))), (0, .ref aX)]) hx hb dX3_init_124 hl (k := 0) rfl (nI_1 k) (by decide) rfl (fun ls hl => ?_)
  refine lv_goto (tgt := 102) hx hb dX3_init_127 (by decide) ?_
  exact kk adf H locs ls (hP.perm pm2) (hD.perm pm2) hS hl
