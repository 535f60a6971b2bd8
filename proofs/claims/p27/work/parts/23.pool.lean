def F_LEAST : Nat → Int32 := fun j => match j with | 4 => 1 | 5 => 1 | 6 => 1 | 7 => 1 | 0 => 1 | 1 => 1 | _ => 0
def F_MOST : Nat → Int32 := fun j => match j with | 0 => 12 | 1 => 8 | 2 => 7 | 3 => 30 | 4 => 60 | 5 => 4 | 6 => 60 | 7 => 100 | _ => 10
def F_FIRST : Nat → Int32 := fun j => match j with | 0 => 5 | 1 => 3 | 2 => 1 | 3 => 8 | 4 => 15 | 5 => 2 | 6 => 20 | 7 => 25 | _ => 2
/-- a static row of numbers, as a start gives it -/
def stT (nm : String) (t : Nat) (f : Nat → Int32) (U : State) (H : Heap) : Prop := va_Z "Teleprompter" nm "[I" (.ref t) (fun _ => False) U H ∧ va_T .int t 9 (fun j => .int (f j)) (fun _ => False) U H
theorem stT.moved {nm : String} {t : Nat} {f : Nat → Int32} {u U : State} {H : Heap} (hvm : u.vm.Alike U.vm) (h : stT nm t f u H) : stT nm t f U H := ⟨h.1.moved hvm, h.2.moved hvm⟩
def STW (tL tM : Nat) (U : State) : Prop := stT "LEAST" tL F_LEAST U U.heap ∧ stT "MOST" tM F_MOST U U.heap
theorem STW.moved {tL tM : Nat} {u U : State} (hvm : u.vm.Alike U.vm) (hh : U.heap = u.heap) (h : STW tL tM u) : STW tL tM U := by
  unfold STW at h ⊢
  rw [hh]
  exact ⟨h.1.moved hvm, h.2.moved hvm⟩
def wrE2 (dC : Nat → ClassId) (dI : Nat → Nat → Nat) (ws : va_W) (sz : Nat) (w1 : (Nat → Option Nat) → va_W) (u : Nat → Option Nat) (t : State) : Prop := va_P (dC, dI) vwCl (w1 u) t.heap ∧ va_D (va_A ws sz) (w1 u)
theorem leN {n : Nat} (hn : n < 2 ^ 31) {i : Int32} (h : ¬ (i < 0 ∨ n ≤ i.toNatClampNeg)) : ¬ nI n ≤ i := by
  obtain ⟨j, hj, rfl⟩ := nI_of (x := i) (fun q => h (Or.inl q))
  rw [nI_clamp hj] at h
  intro q
  exact h (Or.inr ((nI_leI hn hj).mp q))
theorem ltN {n : Nat} {i : Int32} (h : ¬ (i < 0 ∨ n ≤ i.toNatClampNeg)) : i.toNatClampNeg < n := Nat.lt_of_not_le fun q => h (Or.inr q)
theorem va_aldqK {p : Program} {l : Launch} {e : Env} {R : Room} {s : State} {m : MethodId} {args : Array Value} {below : List Frame} {meth : Method} {c : Code} {H : Heap} {locs : List Loc} {cells slots : Nat} {Q : State → Prop} {cc : ByteArray} {pc : Nat} {ls : Array Slot} {rest : List Value} {D : va_G} {cl : List vw_C} {a : Nat} {tys : List (ClassId × FieldType)} {ws : va_W}
    (hexec : p.tables.exec = Jvm.exec) (hb : c.code = cc) (hK : va_K D cl tys s) (hP : va_P D cl ws H) (q0 t0 : Nat) {cA : ClassId} {C : String} {n : Nat} {f : Nat → Option Nat} (ha : ws[q0]? = some (a, .inl (cA, n, .inr (.inr (.inr (.inr f)))))) (ht : tys[t0]? = some (cA, .object C)) {i : Int32} (hin : vp_in i n) {j : Nat} (hj : i.toNatClampNeg = j) {b : Nat} (hfb : f j = some b) (hdg : decode cc pc = .ok (.aaload, 1))
    (kk : W p l e R s m args below meth c H locs cells slots Q (F0 m (pc + 1) ls (.ref b :: rest))) : W p l e R s m args below meth c H locs cells slots Q (F0 m pc ls (.int i :: .ref a :: rest)) := by
  refine va_aldq hexec hb hK hP q0 t0 ha ht hin hdg ?_
  rw [hj, hfb]
  exact kk
theorem fb_T {t : Nat} {f : Nat → Value} {av : List Value} : FrameBlind (va_Pc av (fun U => va_T .int t 9 f (fun _ => False) U U.heap)) := fun a U g mk q => by
  obtain ⟨q0, q1⟩ := q
  exact ⟨q0, va_T.moved (u := U) (U := U.calling g mk a) (Vm.Alike.refl U.vm) q1⟩
theorem fb_st {dC : Nat → ClassId} {dI : Nat → Nat → Nat} {cI cZ cO : ClassId} {sz : Nat} {ws : va_W} {tL tM : Nat} {av : List Value} : FrameBlind (va_Pc av (fun U => wrW dC dI cI cZ cO sz ws U ∧ STW tL tM U)) := fun a U g mk q => by
  obtain ⟨q0, ⟨q1, qP, qK, qN, qD⟩, q2⟩ := q
  exact ⟨q0, ⟨q1, qP, va_K.moved (u := U) (U := U.calling g mk a) (Vm.Alike.refl U.vm) qK, NW.same (u := U) (U := U.calling g mk a) rfl qN, qD⟩, STW.moved (u := U) (U := U.calling g mk a) (Vm.Alike.refl U.vm) rfl q2⟩
def rm_X3_atT : Room := { frames := 0, cells := 0, slots := 0, locals := 0 }
set_option maxHeartbeats 4000000 in
set_option maxRecDepth 100000 in
theorem c_X3_atT (l : Launch) (t0 : Nat) (p1 : Int32) (f : Nat → Int32) (r : Int32) (hF : f_X3_at 9 p1 f = some r) : Met l yX3_at wsX3_at rm_X3_atT (va_Pc [.ref t0, .int p1] (fun U => va_T .int t0 9 (fun j => .int (f j)) (fun _ => False) U U.heap)) (vp_Si (fun q => r = q)) 0 0 (fun _ => False) := by
  refine Met.ofW (cc := cX3_at) (maxL := 2) (ret := (some .int)) (by decide) rfl ?_
  intro p e s m args below meth c s₁ B hml hv
  obtain ⟨rfl, hT⟩ := hv
  have hx := B.exec
  have hb := B.bytes
  have hr := B.returns
  have hts := atoms_spec (ws := wsX3_at) B.pre
  have hown : s.vm.findClass RX3 = some m.cls := findClass_of_methodNamed B.named
  have hlocks := B.notSynchronized
  obtain ⟨Q, hQ⟩ : ∃ Q, Q = MQ below (vp_Si (fun q => r = q)) ([.ref t0, .int p1] : List Value).toArray s 0 0 (fun _ => False) := ⟨_, rfl⟩
  rw [← hQ]
  have hl := lv_entry ([.ref t0, .int p1]) (n := 2) (Nat.le_of_ble_eq_true rfl)
  rw [lg_entry_eq]
  generalize (lg_sl ([.ref t0, .int p1]) ++ List.replicate (2 - (lg_sl ([.ref t0, .int p1])).length) Slot.unset).toArray = ls at hl ⊢
  have hl : lv_has ls 2 [(0, .ref t0), (1, .int p1)] := hl
  have hS : va_S (fun _ => False) s.heap s.heap [] := va_S.rf
  unfold f_X3_at at hF
  refine lv_iload_n hx hb dX3_at_0 rfl (lv_at hl 1 rfl) ?_
  refine lv_if_lt (tgt := 16) hx hb dX3_at_1 (by decide) (fun c_1 => ?_) (fun c_1 => ?_)
  · have hF := (if_pos c_1).symm.trans hF
    refine lv_iconst (v := (0 : Int32)) hx hb dX3_at_16 (by decide) ?_
    have hF : some (0 : Int32) = some r := hF
    cases hF
    subst hQ
    exact W.iret hx hb hr (fun t ht hW => ⟨_, rfl, rfl, ht⟩) (fun q hq => absurd hq List.not_mem_nil) dX3_at_17
  · have hF := (if_neg c_1).symm.trans hF
    refine lv_iload_n hx hb dX3_at_4 rfl (lv_at hl 1 rfl) ?_
    refine lv_aload_n hx hb dX3_at_5 rfl (lv_at hl 0 rfl) ?_
    refine va_tlen hx hb hT hS (v := (nI 9)) rfl dX3_at_6 ?_
    refine lv_icmp_ge (tgt := 16) hx hb dX3_at_7 (by decide) (fun c_7 => ?_) (fun c_7 => ?_)
    · have hF := (if_pos c_7).symm.trans hF
      refine lv_iconst (v := (0 : Int32)) hx hb dX3_at_16 (by decide) ?_
      have hF : some (0 : Int32) = some r := hF
      cases hF
      subst hQ
      exact W.iret hx hb hr (fun t ht hW => ⟨_, rfl, rfl, ht⟩) (fun q hq => absurd hq List.not_mem_nil) dX3_at_17
    · have hF := (if_neg c_7).symm.trans hF
      refine lv_aload_n hx hb dX3_at_10 rfl (lv_at hl 0 rfl) ?_
      refine lv_iload_n hx hb dX3_at_11 rfl (lv_at hl 1 rfl) ?_
      by_cases b_12 : (p1 < 0 ∨ 9 ≤ p1.toNatClampNeg)
      · exact noneE ((if_pos b_12).symm.trans hF)
      have hF := (if_neg b_12).symm.trans hF
      refine va_ti hx hb hT hS b_12 (v := .int (f p1.toNatClampNeg)) rfl dX3_at_12 ?_
      refine lv_goto (tgt := 17) hx hb dX3_at_13 (by decide) ?_
      have hF : some (f p1.toNatClampNeg) = some r := hF
      cases hF
      subst hQ
      exact W.iret hx hb hr (fun t ht hW => ⟨_, rfl, rfl, ht⟩) (fun q hq => absurd hq List.not_mem_nil) dX3_at_17
def rm_X3_stateAt : Room := { frames := 0, cells := 0, slots := 0, locals := 0 }
set_option maxHeartbeats 4000000 in
set_option maxRecDepth 100000 in
theorem c_X3_stateAt (l : Launch) (dC : Nat → ClassId) (dI : Nat → Nat → Nat) (cI cZ cO : ClassId) (aX ar : Nat) (n : Nat) (hn : n < 2 ^ 31) (f : Nat → Option Nat) (i : Int32) (b : Nat) (h0 : ¬ (i < 0 ∨ n ≤ i.toNatClampNeg)) (hfb : f i.toNatClampNeg = some b) : Met l yX3_stateAt wsX3_stateAt rm_X3_stateAt (va_Pc [.ref aX, .ref ar, .int i] (rdW dC dI cI cZ cO [(ar, .inl (cO, n, .inr (.inr (.inr (.inr f)))))])) (va_Sr (fun k => b = k) (fun k => .ref k)) 0 0 (fun _ => False) := by
  refine Met.ofW (cc := cX3_stateAt) (maxL := 3) (ret := (some (.object "Teleprompter$State"))) (by decide) rfl ?_
  intro p e s m args below meth c s₁ B hml hv
  obtain ⟨rfl, hP, hK, hN⟩ := hv
  have hx := B.exec
  have hb := B.bytes
  have hr := B.returns
  have hts := atoms_spec (ws := wsX3_stateAt) B.pre
  have hown : s.vm.findClass RX3 = some m.cls := findClass_of_methodNamed B.named
  have hlocks := B.notSynchronized
  obtain ⟨Q, hQ⟩ : ∃ Q, Q = MQ below (va_Sr (fun k => b = k) (fun k => .ref k)) ([.ref aX, .ref ar, .int i] : List Value).toArray s 0 0 (fun _ => False) := ⟨_, rfl⟩
  rw [← hQ]
  have hl := lv_entry ([.ref aX, .ref ar, .int i]) (n := 3) (Nat.le_of_ble_eq_true rfl)
  rw [lg_entry_eq]
  generalize (lg_sl ([.ref aX, .ref ar, .int i]) ++ List.replicate (3 - (lg_sl ([.ref aX, .ref ar, .int i])).length) Slot.unset).toArray = ls at hl ⊢
  have hl : lv_has ls 3 [(0, .ref aX), (1, .ref ar), (2, .int i)] := hl
  refine lv_iload_n hx hb dX3_stateAt_0 rfl (lv_at hl 2 rfl) ?_
  refine lv_if_lt (tgt := 20) hx hb dX3_stateAt_1 (by decide) (fun c_1 => absurd (Or.inl c_1) h0) (fun _ => ?_)
  refine lv_iload_n hx hb dX3_stateAt_4 rfl (lv_at hl 2 rfl) ?_
  refine lv_aload_n hx hb dX3_stateAt_5 rfl (lv_at hl 1 rfl) ?_
  refine va_alen hx hb hK hP 0 2 rfl rfl (v := (nI n)) rfl dX3_stateAt_6 ?_
  refine lv_icmp_ge (tgt := 20) hx hb dX3_stateAt_7 (by decide) (fun c_7 => absurd c_7 (leN hn h0)) (fun _ => ?_)
  refine lv_aload_n hx hb dX3_stateAt_10 rfl (lv_at hl 1 rfl) ?_
  refine lv_iload_n hx hb dX3_stateAt_11 rfl (lv_at hl 2 rfl) ?_
  refine va_aldqK hx hb hK hP 0 2 rfl rfl h0 rfl hfb dX3_stateAt_12 ?_
  refine lv_ifnull hx hb dX3_stateAt_13 ?_
  refine lv_aload_n hx hb dX3_stateAt_16 rfl (lv_at hl 1 rfl) ?_
  refine lv_iload_n hx hb dX3_stateAt_17 rfl (lv_at hl 2 rfl) ?_
  refine va_aldqK hx hb hK hP 0 2 rfl rfl h0 rfl hfb dX3_stateAt_18 ?_
  subst hQ
  exact W.aret hx hb hr (Or.inl ⟨_, rfl⟩) (Or.inr ⟨_, rfl⟩) (fun t ht hW => ⟨b, rfl, rfl, ht⟩) (fun q hq => absurd hq List.not_mem_nil) dX3_stateAt_19
theorem va_astqK {p : Program} {l : Launch} {e : Env} {R : Room} {s : State} {m : MethodId} {args : Array Value} {below : List Frame} {meth : Method} {c : Code} {H : Heap} {locs : List Loc} {cells slots : Nat} {Q : State → Prop} {cc : ByteArray} {pc : Nat} {ls : Array Slot} {rest : List Value} {D : va_G} {cl : List vw_C} {A : Nat → Prop} {a : Nat} {tys : List (ClassId × FieldType)} {ws : va_W} {H0 : Heap}
    (hexec : p.tables.exec = Jvm.exec) (hb : c.code = cc) (hK : va_K D cl tys s) (hP : va_P D cl ws H) (hD : va_D A ws) (hS : va_S A H0 H locs) (q0 t0 qk ci : Nat) {cA : ClassId} {r : vw_C} {n v : Nat} {vs : List Value} {f : Nat → Option Nat} (ha : ws[q0]? = some (a, .inl (cA, n, .inr (.inr (.inr (.inr f)))))) (ht : tys[t0]? = some (cA, .object r.1)) (hv : ws[qk]? = some (v, .inr (ci, vs))) (hc : cl[ci]? = some r) {i : Int32} (hin : vp_in i n) {j : Nat} (hj : i.toNatClampNeg = j) (hdg : decode cc pc = .ok (.aastore, 1))
    (kk : ∀ (H1 : Heap) (locs1 : List Loc), va_P D cl (ws.set q0 (a, .inl (cA, n, .inr (.inr (.inr (.inr (va_up f j (some v)))))))) H1 → va_D A (ws.set q0 (a, .inl (cA, n, .inr (.inr (.inr (.inr (va_up f j (some v)))))))) → va_S A H0 H1 locs1 → W p l e R s m args below meth c H1 locs1 cells slots Q (F0 m (pc + 1) ls rest)) : W p l e R s m args below meth c H locs cells slots Q (F0 m pc ls (.ref v :: .int i :: .ref a :: rest)) := by
  subst hj
  exact va_astq hexec hb hK hP hD hS q0 t0 qk ci ha ht hv hc hin hdg kk
def rm_X3_dropOldest : Room := { frames := 1, cells := 0, slots := 0, locals := 22 }
set_option maxHeartbeats 4000000 in
set_option maxRecDepth 100000 in
theorem c_X3_dropOldest (l : Launch) (dC : Nat → ClassId) (dI : Nat → Nat → Nat) (cI cZ cO : ClassId) (aX a_text d_aC aS c_aS a_history a_images a_imageKept : Nat) (sz : Nat) (v_textLength v_faultKind v_faultPlace v_undoable : Int32) (ad : Nat → Nat → Nat) (v_hr : Nat → Nat) (v_PS : Nat → Nat → Nat → Int32) (hf : Nat → Option Nat) (hh : HH hf v_hr ad) : Met l yX3_dropOldest wsX3_dropOldest rm_X3_dropOldest (va_Pc [.ref aX] (wrW dC dI cI cZ cO sz ([(aX, .inr (3, [.ref a_text, .int v_textLength, .int v_faultKind, .int v_faultPlace, .ref d_aC, .ref aS, .ref c_aS, .ref a_history, .int v_undoable, .ref a_images, .ref a_imageKept])), (a_history, .inl (cO, 8, .inr (.inr (.inr (.inr hf)))))] ++ plW cI ad v_PS 10))) (va_Qv (fun u : Nat → Option Nat => HH u (rotN v_hr) ad) (wrE2 dC dI ([(aX, .inr (3, [.ref a_text, .int v_textLength, .int v_faultKind, .int v_faultPlace, .ref d_aC, .ref aS, .ref c_aS, .ref a_history, .int v_undoable, .ref a_images, .ref a_imageKept])), (a_history, .inl (cO, 8, .inr (.inr (.inr (.inr hf)))))] ++ plW cI ad v_PS 10) sz (fun u => ([(aX, .inr (3, [.ref a_text, .int v_textLength, .int v_faultKind, .int v_faultPlace, .ref d_aC, .ref aS, .ref c_aS, .ref a_history, .int (v_undoable - 1), .ref a_images, .ref a_imageKept])), (a_history, .inl (cO, 8, .inr (.inr (.inr (.inr u)))))] ++ plW cI ad v_PS 10))) (va_A ([(aX, .inr (3, [.ref a_text, .int v_textLength, .int v_faultKind, .int v_faultPlace, .ref d_aC, .ref aS, .ref c_aS, .ref a_history, .int v_undoable, .ref a_images, .ref a_imageKept])), (a_history, .inl (cO, 8, .inr (.inr (.inr (.inr hf)))))] ++ plW cI ad v_PS 10) sz)) 0 0 (va_A ([(aX, .inr (3, [.ref a_text, .int v_textLength, .int v_faultKind, .int v_faultPlace, .ref d_aC, .ref aS, .ref c_aS, .ref a_history, .int v_undoable, .ref a_images, .ref a_imageKept])), (a_history, .inl (cO, 8, .inr (.inr (.inr (.inr hf)))))] ++ plW cI ad v_PS 10) sz) := by
  refine Met.ofW (cc := cX3_dropOldest) (maxL := 3) (ret := none) (by decide) rfl ?_
  intro p e s m args below meth c s₁ B hml hv
  obtain ⟨rfl, hsz, hP, hK, hN, hD0⟩ := hv
  have hx := B.exec
  have hb := B.bytes
  have hr := B.returns
  have hts := atoms_spec (ws := wsX3_dropOldest) B.pre
  have hown : s.vm.findClass RX3 = some m.cls := findClass_of_methodNamed B.named
  have hlocks := B.notSynchronized
  subst hsz
  have hD := hD0.self (sz := s.heap.size)
  obtain ⟨Q, hQ⟩ : ∃ Q, Q = MQ below (va_Qv (fun u : Nat → Option Nat => HH u (rotN v_hr) ad) (wrE2 dC dI ([(aX, .inr (3, [.ref a_text, .int v_textLength, .int v_faultKind, .int v_faultPlace, .ref d_aC, .ref aS, .ref c_aS, .ref a_history, .int v_undoable, .ref a_images, .ref a_imageKept])), (a_history, .inl (cO, 8, .inr (.inr (.inr (.inr hf)))))] ++ plW cI ad v_PS 10) s.heap.size (fun u => ([(aX, .inr (3, [.ref a_text, .int v_textLength, .int v_faultKind, .int v_faultPlace, .ref d_aC, .ref aS, .ref c_aS, .ref a_history, .int (v_undoable - 1), .ref a_images, .ref a_imageKept])), (a_history, .inl (cO, 8, .inr (.inr (.inr (.inr u)))))] ++ plW cI ad v_PS 10))) (va_A ([(aX, .inr (3, [.ref a_text, .int v_textLength, .int v_faultKind, .int v_faultPlace, .ref d_aC, .ref aS, .ref c_aS, .ref a_history, .int v_undoable, .ref a_images, .ref a_imageKept])), (a_history, .inl (cO, 8, .inr (.inr (.inr (.inr hf)))))] ++ plW cI ad v_PS 10) s.heap.size)) ([.ref aX] : List Value).toArray s 0 0 (va_A ([(aX, .inr (3, [.ref a_text, .int v_textLength, .int v_faultKind, .int v_faultPlace, .ref d_aC, .ref aS, .ref c_aS, .ref a_history, .int v_undoable, .ref a_images, .ref a_imageKept])), (a_history, .inl (cO, 8, .inr (.inr (.inr (.inr hf)))))] ++ plW cI ad v_PS 10) s.heap.size) := ⟨_, rfl⟩
  rw [← hQ]
  obtain ⟨A, hAe⟩ : ∃ A, A = va_A ([(aX, .inr (3, [.ref a_text, .int v_textLength, .int v_faultKind, .int v_faultPlace, .ref d_aC, .ref aS, .ref c_aS, .ref a_history, .int v_undoable, .ref a_images, .ref a_imageKept])), (a_history, .inl (cO, 8, .inr (.inr (.inr (.inr hf)))))] ++ plW cI ad v_PS 10) s.heap.size := ⟨_, rfl⟩
  rw [← hAe] at hD
  have hA : ∀ q : Nat, s.heap.size ≤ q → A q := fun q h => by rw [hAe]; exact Or.inr h
  obtain ⟨H, hH⟩ : ∃ H, H = s.heap := ⟨_, rfl⟩
  have hS : va_S A s.heap H [] := by rw [hH]; exact va_S.rf
  have hS0 : va_S (fun _ => False) s.heap H [] := by rw [hH]; exact va_S.rf
  rw [← hH] at hP
  rw [← hH]
  have hl := lv_entry ([.ref aX]) (n := 3) (Nat.le_of_ble_eq_true rfl)
  rw [lg_entry_eq]
  generalize (lg_sl ([.ref aX]) ++ List.replicate (3 - (lg_sl ([.ref aX])).length) Slot.unset).toArray = ls at hl ⊢
  have hl : lv_has ls 3 [(0, .ref aX)] := hl
  have fl30 := hts (.fieldLink RX3 30 "Teleprompter" "history" "[LTeleprompter$State;") (by decide +kernel)
  have fl121 := hts (.fieldLink RX3 121 "Teleprompter" "undoable" "I") (by decide +kernel)
  have inX3 : ∀ w ∈ u_ws RX3 TX3 11, w ∈ wsX3_dropOldest := by decide +kernel
  refine lv_aload_n hx hb dX3_dropOldest_0 rfl (lv_at hl 0 rfl) ?_
  refine lv_aload_n hx hb dX3_dropOldest_1 rfl (lv_at hl 0 rfl) ?_
  refine va_get (D := (dC, dI)) (ci := 3) (v := .ref a_history) (C := RX3) (T := TX3) (N := 11) hx hb hts inX3 hown hK hP 0 rfl rfl 7 (by decide) fl30 (fun _ h9 => h9) rfl dX3_dropOldest_2 ?_
  refine lv_iconst (v := (0 : Int32)) hx hb dX3_dropOldest_5 (by decide) ?_
  have hPc := hP.sub (ws' := [(a_history, .inl (cO, 8, .inr (.inr (.inr (.inr hf)))))]) [1] rfl
  refine va_csr (ad := fun k => .ref k) (va_Run.run (va_runV (As := [.ref a_history, .int (0 : Int32)]) (rest := []) ⟨hx, hb, hml, hown, hts⟩ (c_X3_stateAt l dC dI cI cZ cO aX a_history 8 (by decide) hf 0 (ad (v_hr 0) 0) (by decide) (hh 0 (by decide)).1) (cwV 2 hts gX3_dropOldest_X3_stateAt rfl rfl rfl (by decide +kernel) ⟨(Nat.le_of_ble_eq_true rfl), (Nat.le_of_ble_eq_true rfl)⟩) ⟨fb_rd, va_recv hK hP (ci := 3) (q0 := 0) rfl rfl, pre_rd hPc hK hN⟩ rfl rfl hl.1 rfl (lv_room (Nat.le_of_ble_eq_true rfl)) dX3_dropOldest_6 ⟨Nat.zero_le _, Nat.zero_le _⟩)) (fun b0 hb0 => ?_)
  subst hb0
  refine lv_astore_n (lv' := [(1, .ref (ad (v_hr 0) 0)), (0, .ref aX)]) hx hb dX3_dropOldest_9 rfl hl (by decide) rfl (fun ls hl => ?_)
  refine lv_iconst (v := (1 : Int32)) hx hb dX3_dropOldest_10 (by decide) ?_
  refine lv_istore_n (lv' := [(2, .int (1 : Int32)), (1, .ref (ad (v_hr 0) 0)), (0, .ref aX)]) hx hb dX3_dropOldest_11 rfl hl (by decide) rfl (fun ls hl => ?_)
  refine lv_iload_n hx hb dX3_dropOldest_12 rfl (lv_at hl 0 rfl) ?_
  refine lv_aload_n hx hb dX3_dropOldest_13 rfl (lv_at hl 2 rfl) ?_
  refine va_get (D := (dC, dI)) (ci := 3) (v := .ref a_history) (C := RX3) (T := TX3) (N := 11) hx hb hts inX3 hown hK hP 0 rfl rfl 7 (by decide) fl30 (fun _ h9 => h9) rfl dX3_dropOldest_14 ?_
  refine va_alen hx hb hK hP 1 2 rfl rfl (v := (8 : Int32)) rfl dX3_dropOldest_17 ?_
  refine lv_icmp_ge (tgt := 41) hx hb dX3_dropOldest_18 (by decide) (fun c9 => absurd c9 (by decide)) (fun _ => ?_)
  refine lv_aload_n hx hb dX3_dropOldest_21 rfl (lv_at hl 2 rfl) ?_
  refine va_get (D := (dC, dI)) (ci := 3) (v := .ref a_history) (C := RX3) (T := TX3) (N := 11) hx hb hts inX3 hown hK hP 0 rfl rfl 7 (by decide) fl30 (fun _ h9 => h9) rfl dX3_dropOldest_22 ?_
  refine lv_iload_n hx hb dX3_dropOldest_25 rfl (lv_at hl 0 rfl) ?_
  refine lv_iconst (v := (1 : Int32)) hx hb dX3_dropOldest_26 (by decide) ?_
  refine lv_isub hx hb dX3_dropOldest_27 ?_
  refine lv_aload_n hx hb dX3_dropOldest_28 rfl (lv_at hl 2 rfl) ?_
  refine va_get (D := (dC, dI)) (ci := 3) (v := .ref a_history) (C := RX3) (T := TX3) (N := 11) hx hb hts inX3 hown hK hP 0 rfl rfl 7 (by decide) fl30 (fun _ h9 => h9) rfl dX3_dropOldest_29 ?_
  refine lv_iload_n hx hb dX3_dropOldest_32 rfl (lv_at hl 0 rfl) ?_
  refine va_aldqK hx hb hK hP 1 2 rfl rfl (inK (by decide)) (j := 1) (by decide) (b := ad (v_hr 1) 0) (by first | exact (hh 1 (by decide)).1 | (simp only [va_up]; exact (hh 1 (by decide)).1)) dX3_dropOldest_33 ?_
  refine va_astqK hx hb hK hP hD hS 1 2 _ 1 rfl rfl (plW_getX (X := [(aX, .inr (3, [.ref a_text, .int v_textLength, .int v_faultKind, .int v_faultPlace, .ref d_aC, .ref aS, .ref c_aS, .ref a_history, .int v_undoable, .ref a_images, .ref a_imageKept])), (a_history, .inl (cO, 8, .inr (.inr (.inr (.inr hf)))))]) cI ad v_PS (v_hr 1) 10 (hh 1 (by decide)).2) rfl (inK (by decide)) (j := 0) (by decide) dX3_dropOldest_34 (fun H locs hP hD hS => ?_)
  have hP : va_P (dC, dI) vwCl ([(aX, .inr (3, [.ref a_text, .int v_textLength, .int v_faultKind, .int v_faultPlace, .ref d_aC, .ref aS, .ref c_aS, .ref a_history, .int v_undoable, .ref a_images, .ref a_imageKept])), (a_history, .inl (cO, 8, .inr (.inr (.inr (.inr (va_up hf 0 (some (ad (v_hr 1) 0))))))))] ++ plW cI ad v_PS 10) H := hP
  have hD : va_D A ([(aX, .inr (3, [.ref a_text, .int v_textLength, .int v_faultKind, .int v_faultPlace, .ref d_aC, .ref aS, .ref c_aS, .ref a_history, .int v_undoable, .ref a_images, .ref a_imageKept])), (a_history, .inl (cO, 8, .inr (.inr (.inr (.inr (va_up hf 0 (some (ad (v_hr 1) 0))))))))] ++ plW cI ad v_PS 10) := hD
  refine lv_iinc (v := (2 : Int32)) (lv' := [(2, .int (2 : Int32)), (1, .ref (ad (v_hr 0) 0)), (0, .ref aX)]) hx hb dX3_dropOldest_35 hl (k := 0) rfl (by decide) (by decide) rfl (fun ls hl => ?_)
  refine lv_goto (tgt := 12) hx hb dX3_dropOldest_38 (by decide) ?_
  refine lv_iload_n hx hb dX3_dropOldest_12 rfl (lv_at hl 0 rfl) ?_
  refine lv_aload_n hx hb dX3_dropOldest_13 rfl (lv_at hl 2 rfl) ?_
  refine va_get (D := (dC, dI)) (ci := 3) (v := .ref a_history) (C := RX3) (T := TX3) (N := 11) hx hb hts inX3 hown hK hP 0 rfl rfl 7 (by decide) fl30 (fun _ h9 => h9) rfl dX3_dropOldest_14 ?_
  refine va_alen hx hb hK hP 1 2 rfl rfl (v := (8 : Int32)) rfl dX3_dropOldest_17 ?_
  refine lv_icmp_ge (tgt := 41) hx hb dX3_dropOldest_18 (by decide) (fun c9 => absurd c9 (by decide)) (fun _ => ?_)
  refine lv_aload_n hx hb dX3_dropOldest_21 rfl (lv_at hl 2 rfl) ?_
  refine va_get (D := (dC, dI)) (ci := 3) (v := .ref a_history) (C := RX3) (T := TX3) (N := 11) hx hb hts inX3 hown hK hP 0 rfl rfl 7 (by decide) fl30 (fun _ h9 => h9) rfl dX3_dropOldest_22 ?_
  refine lv_iload_n hx hb dX3_dropOldest_25 rfl (lv_at hl 0 rfl) ?_
  refine lv_iconst (v := (1 : Int32)) hx hb dX3_dropOldest_26 (by decide) ?_
  refine lv_isub hx hb dX3_dropOldest_27 ?_
  refine lv_aload_n hx hb dX3_dropOldest_28 rfl (lv_at hl 2 rfl) ?_
  refine va_get (D := (dC, dI)) (ci := 3) (v := .ref a_history) (C := RX3) (T := TX3) (N := 11) hx hb hts inX3 hown hK hP 0 rfl rfl 7 (by decide) fl30 (fun _ h9 => h9) rfl dX3_dropOldest_29 ?_
  refine lv_iload_n hx hb dX3_dropOldest_32 rfl (lv_at hl 0 rfl) ?_
  refine va_aldqK hx hb hK hP 1 2 rfl rfl (inK (by decide)) (j := 2) (by decide) (b := ad (v_hr 2) 0) (by first | exact (hh 2 (by decide)).1 | (simp only [va_up]; exact (hh 2 (by decide)).1)) dX3_dropOldest_33 ?_
  refine va_astqK hx hb hK hP hD hS 1 2 _ 1 rfl rfl (plW_getX (X := [(aX, .inr (3, [.ref a_text, .int v_textLength, .int v_faultKind, .int v_faultPlace, .ref d_aC, .ref aS, .ref c_aS, .ref a_history, .int v_undoable, .ref a_images, .ref a_imageKept])), (a_history, .inl (cO, 8, .inr (.inr (.inr (.inr (va_up hf 0 (some (ad (v_hr 1) 0))))))))]) cI ad v_PS (v_hr 2) 10 (hh 2 (by decide)).2) rfl (inK (by decide)) (j := 1) (by decide) dX3_dropOldest_34 (fun H locs hP hD hS => ?_)
  have hP : va_P (dC, dI) vwCl ([(aX, .inr (3, [.ref a_text, .int v_textLength, .int v_faultKind, .int v_faultPlace, .ref d_aC, .ref aS, .ref c_aS, .ref a_history, .int v_undoable, .ref a_images, .ref a_imageKept])), (a_history, .inl (cO, 8, .inr (.inr (.inr (.inr (va_up (va_up hf 0 (some (ad (v_hr 1) 0))) 1 (some (ad (v_hr 2) 0))))))))] ++ plW cI ad v_PS 10) H := hP
  have hD : va_D A ([(aX, .inr (3, [.ref a_text, .int v_textLength, .int v_faultKind, .int v_faultPlace, .ref d_aC, .ref aS, .ref c_aS, .ref a_history, .int v_undoable, .ref a_images, .ref a_imageKept])), (a_history, .inl (cO, 8, .inr (.inr (.inr (.inr (va_up (va_up hf 0 (some (ad (v_hr 1) 0))) 1 (some (ad (v_hr 2) 0))))))))] ++ plW cI ad v_PS 10) := hD
  refine lv_iinc (v := (3 : Int32)) (lv' := [(2, .int (3 : Int32)), (1, .ref (ad (v_hr 0) 0)), (0, .ref aX)]) hx hb dX3_dropOldest_35 hl (k := 0) rfl (by decide) (by decide) rfl (fun ls hl => ?_)
  refine lv_goto (tgt := 12) hx hb dX3_dropOldest_38 (by decide) ?_
  refine lv_iload_n hx hb dX3_dropOldest_12 rfl (lv_at hl 0 rfl) ?_
  refine lv_aload_n hx hb dX3_dropOldest_13 rfl (lv_at hl 2 rfl) ?_
  refine va_get (D := (dC, dI)) (ci := 3) (v := .ref a_history) (C := RX3) (T := TX3) (N := 11) hx hb hts inX3 hown hK hP 0 rfl rfl 7 (by decide) fl30 (fun _ h9 => h9) rfl dX3_dropOldest_14 ?_
  refine va_alen hx hb hK hP 1 2 rfl rfl (v := (8 : Int32)) rfl dX3_dropOldest_17 ?_
  refine lv_icmp_ge (tgt := 41) hx hb dX3_dropOldest_18 (by decide) (fun c9 => absurd c9 (by decide)) (fun _ => ?_)
  refine lv_aload_n hx hb dX3_dropOldest_21 rfl (lv_at hl 2 rfl) ?_
  refine va_get (D := (dC, dI)) (ci := 3) (v := .ref a_history) (C := RX3) (T := TX3) (N := 11) hx hb hts inX3 hown hK hP 0 rfl rfl 7 (by decide) fl30 (fun _ h9 => h9) rfl dX3_dropOldest_22 ?_
  refine lv_iload_n hx hb dX3_dropOldest_25 rfl (lv_at hl 0 rfl) ?_
  refine lv_iconst (v := (1 : Int32)) hx hb dX3_dropOldest_26 (by decide) ?_
  refine lv_isub hx hb dX3_dropOldest_27 ?_
  refine lv_aload_n hx hb dX3_dropOldest_28 rfl (lv_at hl 2 rfl) ?_
  refine va_get (D := (dC, dI)) (ci := 3) (v := .ref a_history) (C := RX3) (T := TX3) (N := 11) hx hb hts inX3 hown hK hP 0 rfl rfl 7 (by decide) fl30 (fun _ h9 => h9) rfl dX3_dropOldest_29 ?_
  refine lv_iload_n hx hb dX3_dropOldest_32 rfl (lv_at hl 0 rfl) ?_
  refine va_aldqK hx hb hK hP 1 2 rfl rfl (inK (by decide)) (j := 3) (by decide) (b := ad (v_hr 3) 0) (by first | exact (hh 3 (by decide)).1 | (simp only [va_up]; exact (hh 3 (by decide)).1)) dX3_dropOldest_33 ?_
  refine va_astqK hx hb hK hP hD hS 1 2 _ 1 rfl rfl (plW_getX (X := [(aX, .inr (3, [.ref a_text, .int v_textLength, .int v_faultKind, .int v_faultPlace, .ref d_aC, .ref aS, .ref c_aS, .ref a_history, .int v_undoable, .ref a_images, .ref a_imageKept])), (a_history, .inl (cO, 8, .inr (.inr (.inr (.inr (va_up (va_up hf 0 (some (ad (v_hr 1) 0))) 1 (some (ad (v_hr 2) 0))))))))]) cI ad v_PS (v_hr 3) 10 (hh 3 (by decide)).2) rfl (inK (by decide)) (j := 2) (by decide) dX3_dropOldest_34 (fun H locs hP hD hS => ?_)
  have hP : va_P (dC, dI) vwCl ([(aX, .inr (3, [.ref a_text, .int v_textLength, .int v_faultKind, .int v_faultPlace, .ref d_aC, .ref aS, .ref c_aS, .ref a_history, .int v_undoable, .ref a_images, .ref a_imageKept])), (a_history, .inl (cO, 8, .inr (.inr (.inr (.inr (va_up (va_up (va_up hf 0 (some (ad (v_hr 1) 0))) 1 (some (ad (v_hr 2) 0))) 2 (some (ad (v_hr 3) 0))))))))] ++ plW cI ad v_PS 10) H := hP
  have hD : va_D A ([(aX, .inr (3, [.ref a_text, .int v_textLength, .int v_faultKind, .int v_faultPlace, .ref d_aC, .ref aS, .ref c_aS, .ref a_history, .int v_undoable, .ref a_images, .ref a_imageKept])), (a_history, .inl (cO, 8, .inr (.inr (.inr (.inr (va_up (va_up (va_up hf 0 (some (ad (v_hr 1) 0))) 1 (some (ad (v_hr 2) 0))) 2 (some (ad (v_hr 3) 0))))))))] ++ plW cI ad v_PS 10) := hD
  refine lv_iinc (v := (4 : Int32)) (lv' := [(2, .int (4 : Int32)), (1, .ref (ad (v_hr 0) 0)), (0, .ref aX)]) hx hb dX3_dropOldest_35 hl (k := 0) rfl (by decide) (by decide) rfl (fun ls hl => ?_)
  refine lv_goto (tgt := 12) hx hb dX3_dropOldest_38 (by decide) ?_
  refine lv_iload_n hx hb dX3_dropOldest_12 rfl (lv_at hl 0 rfl) ?_
  refine lv_aload_n hx hb dX3_dropOldest_13 rfl (lv_at hl 2 rfl) ?_
  refine va_get (D := (dC, dI)) (ci := 3) (v := .ref a_history) (C := RX3) (T := TX3) (N := 11) hx hb hts inX3 hown hK hP 0 rfl rfl 7 (by decide) fl30 (fun _ h9 => h9) rfl dX3_dropOldest_14 ?_
  refine va_alen hx hb hK hP 1 2 rfl rfl (v := (8 : Int32)) rfl dX3_dropOldest_17 ?_
  refine lv_icmp_ge (tgt := 41) hx hb dX3_dropOldest_18 (by decide) (fun c9 => absurd c9 (by decide)) (fun _ => ?_)
  refine lv_aload_n hx hb dX3_dropOldest_21 rfl (lv_at hl 2 rfl) ?_
  refine va_get (D := (dC, dI)) (ci := 3) (v := .ref a_history) (C := RX3) (T := TX3) (N := 11) hx hb hts inX3 hown hK hP 0 rfl rfl 7 (by decide) fl30 (fun _ h9 => h9) rfl dX3_dropOldest_22 ?_
  refine lv_iload_n hx hb dX3_dropOldest_25 rfl (lv_at hl 0 rfl) ?_
  refine lv_iconst (v := (1 : Int32)) hx hb dX3_dropOldest_26 (by decide) ?_
  refine lv_isub hx hb dX3_dropOldest_27 ?_
  refine lv_aload_n hx hb dX3_dropOldest_28 rfl (lv_at hl 2 rfl) ?_
  refine va_get (D := (dC, dI)) (ci := 3) (v := .ref a_history) (C := RX3) (T := TX3) (N := 11) hx hb hts inX3 hown hK hP 0 rfl rfl 7 (by decide) fl30 (fun _ h9 => h9) rfl dX3_dropOldest_29 ?_
  refine lv_iload_n hx hb dX3_dropOldest_32 rfl (lv_at hl 0 rfl) ?_
  refine va_aldqK hx hb hK hP 1 2 rfl rfl (inK (by decide)) (j := 4) (by decide) (b := ad (v_hr 4) 0) (by first | exact (hh 4 (by decide)).1 | (simp only [va_up]; exact (hh 4 (by decide)).1)) dX3_dropOldest_33 ?_
  refine va_astqK hx hb hK hP hD hS 1 2 _ 1 rfl rfl (plW_getX (X := [(aX, .inr (3, [.ref a_text, .int v_textLength, .int v_faultKind, .int v_faultPlace, .ref d_aC, .ref aS, .ref c_aS, .ref a_history, .int v_undoable, .ref a_images, .ref a_imageKept])), (a_history, .inl (cO, 8, .inr (.inr (.inr (.inr (va_up (va_up (va_up hf 0 (some (ad (v_hr 1) 0))) 1 (some (ad (v_hr 2) 0))) 2 (some (ad (v_hr 3) 0))))))))]) cI ad v_PS (v_hr 4) 10 (hh 4 (by decide)).2) rfl (inK (by decide)) (j := 3) (by decide) dX3_dropOldest_34 (fun H locs hP hD hS => ?_)
  have hP : va_P (dC, dI) vwCl ([(aX, .inr (3, [.ref a_text, .int v_textLength, .int v_faultKind, .int v_faultPlace, .ref d_aC, .ref aS, .ref c_aS, .ref a_history, .int v_undoable, .ref a_images, .ref a_imageKept])), (a_history, .inl (cO, 8, .inr (.inr (.inr (.inr (va_up (va_up (va_up (va_up hf 0 (some (ad (v_hr 1) 0))) 1 (some (ad (v_hr 2) 0))) 2 (some (ad (v_hr 3) 0))) 3 (some (ad (v_hr 4) 0))))))))] ++ plW cI ad v_PS 10) H := hP
  have hD : va_D A ([(aX, .inr (3, [.ref a_text, .int v_textLength, .int v_faultKind, .int v_faultPlace, .ref d_aC, .ref aS, .ref c_aS, .ref a_history, .int v_undoable, .ref a_images, .ref a_imageKept])), (a_history, .inl (cO, 8, .inr (.inr (.inr (.inr (va_up (va_up (va_up (va_up hf 0 (some (ad (v_hr 1) 0))) 1 (some (ad (v_hr 2) 0))) 2 (some (ad (v_hr 3) 0))) 3 (some (ad (v_hr 4) 0))))))))] ++ plW cI ad v_PS 10) := hD
  refine lv_iinc (v := (5 : Int32)) (lv' := [(2, .int (5 : Int32)), (1, .ref (ad (v_hr 0) 0)), (0, .ref aX)]) hx hb dX3_dropOldest_35 hl (k := 0) rfl (by decide) (by decide) rfl (fun ls hl => ?_)
  refine lv_goto (tgt := 12) hx hb dX3_dropOldest_38 (by decide) ?_
  refine lv_iload_n hx hb dX3_dropOldest_12 rfl (lv_at hl 0 rfl) ?_
  refine lv_aload_n hx hb dX3_dropOldest_13 rfl (lv_at hl 2 rfl) ?_
  refine va_get (D := (dC, dI)) (ci := 3) (v := .ref a_history) (C := RX3) (T := TX3) (N := 11) hx hb hts inX3 hown hK hP 0 rfl rfl 7 (by decide) fl30 (fun _ h9 => h9) rfl dX3_dropOldest_14 ?_
  refine va_alen hx hb hK hP 1 2 rfl rfl (v := (8 : Int32)) rfl dX3_dropOldest_17 ?_
  refine lv_icmp_ge (tgt := 41) hx hb dX3_dropOldest_18 (by decide) (fun c9 => absurd c9 (by decide)) (fun _ => ?_)
  refine lv_aload_n hx hb dX3_dropOldest_21 rfl (lv_at hl 2 rfl) ?_
  refine va_get (D := (dC, dI)) (ci := 3) (v := .ref a_history) (C := RX3) (T := TX3) (N := 11) hx hb hts inX3 hown hK hP 0 rfl rfl 7 (by decide) fl30 (fun _ h9 => h9) rfl dX3_dropOldest_22 ?_
  refine lv_iload_n hx hb dX3_dropOldest_25 rfl (lv_at hl 0 rfl) ?_
  refine lv_iconst (v := (1 : Int32)) hx hb dX3_dropOldest_26 (by decide) ?_
  refine lv_isub hx hb dX3_dropOldest_27 ?_
  refine lv_aload_n hx hb dX3_dropOldest_28 rfl (lv_at hl 2 rfl) ?_
  refine va_get (D := (dC, dI)) (ci := 3) (v := .ref a_history) (C := RX3) (T := TX3) (N := 11) hx hb hts inX3 hown hK hP 0 rfl rfl 7 (by decide) fl30 (fun _ h9 => h9) rfl dX3_dropOldest_29 ?_
  refine lv_iload_n hx hb dX3_dropOldest_32 rfl (lv_at hl 0 rfl) ?_
  refine va_aldqK hx hb hK hP 1 2 rfl rfl (inK (by decide)) (j := 5) (by decide) (b := ad (v_hr 5) 0) (by first | exact (hh 5 (by decide)).1 | (simp only [va_up]; exact (hh 5 (by decide)).1)) dX3_dropOldest_33 ?_
  refine va_astqK hx hb hK hP hD hS 1 2 _ 1 rfl rfl (plW_getX (X := [(aX, .inr (3, [.ref a_text, .int v_textLength, .int v_faultKind, .int v_faultPlace, .ref d_aC, .ref aS, .ref c_aS, .ref a_history, .int v_undoable, .ref a_images, .ref a_imageKept])), (a_history, .inl (cO, 8, .inr (.inr (.inr (.inr (va_up (va_up (va_up (va_up hf 0 (some (ad (v_hr 1) 0))) 1 (some (ad (v_hr 2) 0))) 2 (some (ad (v_hr 3) 0))) 3 (some (ad (v_hr 4) 0))))))))]) cI ad v_PS (v_hr 5) 10 (hh 5 (by decide)).2) rfl (inK (by decide)) (j := 4) (by decide) dX3_dropOldest_34 (fun H locs hP hD hS => ?_)
  have hP : va_P (dC, dI) vwCl ([(aX, .inr (3, [.ref a_text, .int v_textLength, .int v_faultKind, .int v_faultPlace, .ref d_aC, .ref aS, .ref c_aS, .ref a_history, .int v_undoable, .ref a_images, .ref a_imageKept])), (a_history, .inl (cO, 8, .inr (.inr (.inr (.inr (va_up (va_up (va_up (va_up (va_up hf 0 (some (ad (v_hr 1) 0))) 1 (some (ad (v_hr 2) 0))) 2 (some (ad (v_hr 3) 0))) 3 (some (ad (v_hr 4) 0))) 4 (some (ad (v_hr 5) 0))))))))] ++ plW cI ad v_PS 10) H := hP
  have hD : va_D A ([(aX, .inr (3, [.ref a_text, .int v_textLength, .int v_faultKind, .int v_faultPlace, .ref d_aC, .ref aS, .ref c_aS, .ref a_history, .int v_undoable, .ref a_images, .ref a_imageKept])), (a_history, .inl (cO, 8, .inr (.inr (.inr (.inr (va_up (va_up (va_up (va_up (va_up hf 0 (some (ad (v_hr 1) 0))) 1 (some (ad (v_hr 2) 0))) 2 (some (ad (v_hr 3) 0))) 3 (some (ad (v_hr 4) 0))) 4 (some (ad (v_hr 5) 0))))))))] ++ plW cI ad v_PS 10) := hD
  refine lv_iinc (v := (6 : Int32)) (lv' := [(2, .int (6 : Int32)), (1, .ref (ad (v_hr 0) 0)), (0, .ref aX)]) hx hb dX3_dropOldest_35 hl (k := 0) rfl (by decide) (by decide) rfl (fun ls hl => ?_)
  refine lv_goto (tgt := 12) hx hb dX3_dropOldest_38 (by decide) ?_
  refine lv_iload_n hx hb dX3_dropOldest_12 rfl (lv_at hl 0 rfl) ?_
  refine lv_aload_n hx hb dX3_dropOldest_13 rfl (lv_at hl 2 rfl) ?_
  refine va_get (D := (dC, dI)) (ci := 3) (v := .ref a_history) (C := RX3) (T := TX3) (N := 11) hx hb hts inX3 hown hK hP 0 rfl rfl 7 (by decide) fl30 (fun _ h9 => h9) rfl dX3_dropOldest_14 ?_
  refine va_alen hx hb hK hP 1 2 rfl rfl (v := (8 : Int32)) rfl dX3_dropOldest_17 ?_
  refine lv_icmp_ge (tgt := 41) hx hb dX3_dropOldest_18 (by decide) (fun c9 => absurd c9 (by decide)) (fun _ => ?_)
  refine lv_aload_n hx hb dX3_dropOldest_21 rfl (lv_at hl 2 rfl) ?_
  refine va_get (D := (dC, dI)) (ci := 3) (v := .ref a_history) (C := RX3) (T := TX3) (N := 11) hx hb hts inX3 hown hK hP 0 rfl rfl 7 (by decide) fl30 (fun _ h9 => h9) rfl dX3_dropOldest_22 ?_
  refine lv_iload_n hx hb dX3_dropOldest_25 rfl (lv_at hl 0 rfl) ?_
  refine lv_iconst (v := (1 : Int32)) hx hb dX3_dropOldest_26 (by decide) ?_
  refine lv_isub hx hb dX3_dropOldest_27 ?_
  refine lv_aload_n hx hb dX3_dropOldest_28 rfl (lv_at hl 2 rfl) ?_
  refine va_get (D := (dC, dI)) (ci := 3) (v := .ref a_history) (C := RX3) (T := TX3) (N := 11) hx hb hts inX3 hown hK hP 0 rfl rfl 7 (by decide) fl30 (fun _ h9 => h9) rfl dX3_dropOldest_29 ?_
  refine lv_iload_n hx hb dX3_dropOldest_32 rfl (lv_at hl 0 rfl) ?_
  refine va_aldqK hx hb hK hP 1 2 rfl rfl (inK (by decide)) (j := 6) (by decide) (b := ad (v_hr 6) 0) (by first | exact (hh 6 (by decide)).1 | (simp only [va_up]; exact (hh 6 (by decide)).1)) dX3_dropOldest_33 ?_
  refine va_astqK hx hb hK hP hD hS 1 2 _ 1 rfl rfl (plW_getX (X := [(aX, .inr (3, [.ref a_text, .int v_textLength, .int v_faultKind, .int v_faultPlace, .ref d_aC, .ref aS, .ref c_aS, .ref a_history, .int v_undoable, .ref a_images, .ref a_imageKept])), (a_history, .inl (cO, 8, .inr (.inr (.inr (.inr (va_up (va_up (va_up (va_up (va_up hf 0 (some (ad (v_hr 1) 0))) 1 (some (ad (v_hr 2) 0))) 2 (some (ad (v_hr 3) 0))) 3 (some (ad (v_hr 4) 0))) 4 (some (ad (v_hr 5) 0))))))))]) cI ad v_PS (v_hr 6) 10 (hh 6 (by decide)).2) rfl (inK (by decide)) (j := 5) (by decide) dX3_dropOldest_34 (fun H locs hP hD hS => ?_)
  have hP : va_P (dC, dI) vwCl ([(aX, .inr (3, [.ref a_text, .int v_textLength, .int v_faultKind, .int v_faultPlace, .ref d_aC, .ref aS, .ref c_aS, .ref a_history, .int v_undoable, .ref a_images, .ref a_imageKept])), (a_history, .inl (cO, 8, .inr (.inr (.inr (.inr (va_up (va_up (va_up (va_up (va_up (va_up hf 0 (some (ad (v_hr 1) 0))) 1 (some (ad (v_hr 2) 0))) 2 (some (ad (v_hr 3) 0))) 3 (some (ad (v_hr 4) 0))) 4 (some (ad (v_hr 5) 0))) 5 (some (ad (v_hr 6) 0))))))))] ++ plW cI ad v_PS 10) H := hP
  have hD : va_D A ([(aX, .inr (3, [.ref a_text, .int v_textLength, .int v_faultKind, .int v_faultPlace, .ref d_aC, .ref aS, .ref c_aS, .ref a_history, .int v_undoable, .ref a_images, .ref a_imageKept])), (a_history, .inl (cO, 8, .inr (.inr (.inr (.inr (va_up (va_up (va_up (va_up (va_up (va_up hf 0 (some (ad (v_hr 1) 0))) 1 (some (ad (v_hr 2) 0))) 2 (some (ad (v_hr 3) 0))) 3 (some (ad (v_hr 4) 0))) 4 (some (ad (v_hr 5) 0))) 5 (some (ad (v_hr 6) 0))))))))] ++ plW cI ad v_PS 10) := hD
  refine lv_iinc (v := (7 : Int32)) (lv' := [(2, .int (7 : Int32)), (1, .ref (ad (v_hr 0) 0)), (0, .ref aX)]) hx hb dX3_dropOldest_35 hl (k := 0) rfl (by decide) (by decide) rfl (fun ls hl => ?_)
  refine lv_goto (tgt := 12) hx hb dX3_dropOldest_38 (by decide) ?_
  refine lv_iload_n hx hb dX3_dropOldest_12 rfl (lv_at hl 0 rfl) ?_
  refine lv_aload_n hx hb dX3_dropOldest_13 rfl (lv_at hl 2 rfl) ?_
  refine va_get (D := (dC, dI)) (ci := 3) (v := .ref a_history) (C := RX3) (T := TX3) (N := 11) hx hb hts inX3 hown hK hP 0 rfl rfl 7 (by decide) fl30 (fun _ h9 => h9) rfl dX3_dropOldest_14 ?_
  refine va_alen hx hb hK hP 1 2 rfl rfl (v := (8 : Int32)) rfl dX3_dropOldest_17 ?_
  refine lv_icmp_ge (tgt := 41) hx hb dX3_dropOldest_18 (by decide) (fun c9 => absurd c9 (by decide)) (fun _ => ?_)
  refine lv_aload_n hx hb dX3_dropOldest_21 rfl (lv_at hl 2 rfl) ?_
  refine va_get (D := (dC, dI)) (ci := 3) (v := .ref a_history) (C := RX3) (T := TX3) (N := 11) hx hb hts inX3 hown hK hP 0 rfl rfl 7 (by decide) fl30 (fun _ h9 => h9) rfl dX3_dropOldest_22 ?_
  refine lv_iload_n hx hb dX3_dropOldest_25 rfl (lv_at hl 0 rfl) ?_
  refine lv_iconst (v := (1 : Int32)) hx hb dX3_dropOldest_26 (by decide) ?_
  refine lv_isub hx hb dX3_dropOldest_27 ?_
  refine lv_aload_n hx hb dX3_dropOldest_28 rfl (lv_at hl 2 rfl) ?_
  refine va_get (D := (dC, dI)) (ci := 3) (v := .ref a_history) (C := RX3) (T := TX3) (N := 11) hx hb hts inX3 hown hK hP 0 rfl rfl 7 (by decide) fl30 (fun _ h9 => h9) rfl dX3_dropOldest_29 ?_
  refine lv_iload_n hx hb dX3_dropOldest_32 rfl (lv_at hl 0 rfl) ?_
  refine va_aldqK hx hb hK hP 1 2 rfl rfl (inK (by decide)) (j := 7) (by decide) (b := ad (v_hr 7) 0) (by first | exact (hh 7 (by decide)).1 | (simp only [va_up]; exact (hh 7 (by decide)).1)) dX3_dropOldest_33 ?_
  refine va_astqK hx hb hK hP hD hS 1 2 _ 1 rfl rfl (plW_getX (X := [(aX, .inr (3, [.ref a_text, .int v_textLength, .int v_faultKind, .int v_faultPlace, .ref d_aC, .ref aS, .ref c_aS, .ref a_history, .int v_undoable, .ref a_images, .ref a_imageKept])), (a_history, .inl (cO, 8, .inr (.inr (.inr (.inr (va_up (va_up (va_up (va_up (va_up (va_up hf 0 (some (ad (v_hr 1) 0))) 1 (some (ad (v_hr 2) 0))) 2 (some (ad (v_hr 3) 0))) 3 (some (ad (v_hr 4) 0))) 4 (some (ad (v_hr 5) 0))) 5 (some (ad (v_hr 6) 0))))))))]) cI ad v_PS (v_hr 7) 10 (hh 7 (by decide)).2) rfl (inK (by decide)) (j := 6) (by decide) dX3_dropOldest_34 (fun H locs hP hD hS => ?_)
  have hP : va_P (dC, dI) vwCl ([(aX, .inr (3, [.ref a_text, .int v_textLength, .int v_faultKind, .int v_faultPlace, .ref d_aC, .ref aS, .ref c_aS, .ref a_history, .int v_undoable, .ref a_images, .ref a_imageKept])), (a_history, .inl (cO, 8, .inr (.inr (.inr (.inr (va_up (va_up (va_up (va_up (va_up (va_up (va_up hf 0 (some (ad (v_hr 1) 0))) 1 (some (ad (v_hr 2) 0))) 2 (some (ad (v_hr 3) 0))) 3 (some (ad (v_hr 4) 0))) 4 (some (ad (v_hr 5) 0))) 5 (some (ad (v_hr 6) 0))) 6 (some (ad (v_hr 7) 0))))))))] ++ plW cI ad v_PS 10) H := hP
  have hD : va_D A ([(aX, .inr (3, [.ref a_text, .int v_textLength, .int v_faultKind, .int v_faultPlace, .ref d_aC, .ref aS, .ref c_aS, .ref a_history, .int v_undoable, .ref a_images, .ref a_imageKept])), (a_history, .inl (cO, 8, .inr (.inr (.inr (.inr (va_up (va_up (va_up (va_up (va_up (va_up (va_up hf 0 (some (ad (v_hr 1) 0))) 1 (some (ad (v_hr 2) 0))) 2 (some (ad (v_hr 3) 0))) 3 (some (ad (v_hr 4) 0))) 4 (some (ad (v_hr 5) 0))) 5 (some (ad (v_hr 6) 0))) 6 (some (ad (v_hr 7) 0))))))))] ++ plW cI ad v_PS 10) := hD
  refine lv_iinc (v := (8 : Int32)) (lv' := [(2, .int (8 : Int32)), (1, .ref (ad (v_hr 0) 0)), (0, .ref aX)]) hx hb dX3_dropOldest_35 hl (k := 0) rfl (by decide) (by decide) rfl (fun ls hl => ?_)
  refine lv_goto (tgt := 12) hx hb dX3_dropOldest_38 (by decide) ?_
  refine lv_iload_n hx hb dX3_dropOldest_12 rfl (lv_at hl 0 rfl) ?_
  refine lv_aload_n hx hb dX3_dropOldest_13 rfl (lv_at hl 2 rfl) ?_
  refine va_get (D := (dC, dI)) (ci := 3) (v := .ref a_history) (C := RX3) (T := TX3) (N := 11) hx hb hts inX3 hown hK hP 0 rfl rfl 7 (by decide) fl30 (fun _ h9 => h9) rfl dX3_dropOldest_14 ?_
  refine va_alen hx hb hK hP 1 2 rfl rfl (v := (8 : Int32)) rfl dX3_dropOldest_17 ?_
  refine lv_icmp_ge (tgt := 41) hx hb dX3_dropOldest_18 (by decide) (fun _ => ?_) (fun c9 => absurd (by decide) c9)
  refine lv_aload_n hx hb dX3_dropOldest_41 rfl (lv_at hl 2 rfl) ?_
  refine va_get (D := (dC, dI)) (ci := 3) (v := .ref a_history) (C := RX3) (T := TX3) (N := 11) hx hb hts inX3 hown hK hP 0 rfl rfl 7 (by decide) fl30 (fun _ h9 => h9) rfl dX3_dropOldest_42 ?_
  refine va_alen hx hb hK hP 1 2 rfl rfl (v := (8 : Int32)) rfl dX3_dropOldest_45 ?_
  refine lv_if_le (tgt := 62) hx hb dX3_dropOldest_46 (by decide) (fun c9 => absurd c9 (by decide)) (fun _ => ?_)
  refine lv_aload_n hx hb dX3_dropOldest_49 rfl (lv_at hl 2 rfl) ?_
  refine va_get (D := (dC, dI)) (ci := 3) (v := .ref a_history) (C := RX3) (T := TX3) (N := 11) hx hb hts inX3 hown hK hP 0 rfl rfl 7 (by decide) fl30 (fun _ h9 => h9) rfl dX3_dropOldest_50 ?_
  refine lv_aload_n hx hb dX3_dropOldest_53 rfl (lv_at hl 2 rfl) ?_
  refine va_get (D := (dC, dI)) (ci := 3) (v := .ref a_history) (C := RX3) (T := TX3) (N := 11) hx hb hts inX3 hown hK hP 0 rfl rfl 7 (by decide) fl30 (fun _ h9 => h9) rfl dX3_dropOldest_54 ?_
  refine va_alen hx hb hK hP 1 2 rfl rfl (v := (8 : Int32)) rfl dX3_dropOldest_57 ?_
  refine lv_iconst (v := (1 : Int32)) hx hb dX3_dropOldest_58 (by decide) ?_
  refine lv_isub hx hb dX3_dropOldest_59 ?_
  refine lv_aload_n hx hb dX3_dropOldest_60 rfl (lv_at hl 1 rfl) ?_
  refine va_astqK hx hb hK hP hD hS 1 2 _ 1 rfl rfl (plW_getX (X := [(aX, .inr (3, [.ref a_text, .int v_textLength, .int v_faultKind, .int v_faultPlace, .ref d_aC, .ref aS, .ref c_aS, .ref a_history, .int v_undoable, .ref a_images, .ref a_imageKept])), (a_history, .inl (cO, 8, .inr (.inr (.inr (.inr (va_up (va_up (va_up (va_up (va_up (va_up (va_up hf 0 (some (ad (v_hr 1) 0))) 1 (some (ad (v_hr 2) 0))) 2 (some (ad (v_hr 3) 0))) 3 (some (ad (v_hr 4) 0))) 4 (some (ad (v_hr 5) 0))) 5 (some (ad (v_hr 6) 0))) 6 (some (ad (v_hr 7) 0))))))))]) cI ad v_PS (v_hr 0) 10 (hh 0 (by decide)).2) rfl (inK (by decide)) (j := 7) (by decide) dX3_dropOldest_61 (fun H locs hP hD hS => ?_)
  have hP : va_P (dC, dI) vwCl ([(aX, .inr (3, [.ref a_text, .int v_textLength, .int v_faultKind, .int v_faultPlace, .ref d_aC, .ref aS, .ref c_aS, .ref a_history, .int v_undoable, .ref a_images, .ref a_imageKept])), (a_history, .inl (cO, 8, .inr (.inr (.inr (.inr (va_up (va_up (va_up (va_up (va_up (va_up (va_up (va_up hf 0 (some (ad (v_hr 1) 0))) 1 (some (ad (v_hr 2) 0))) 2 (some (ad (v_hr 3) 0))) 3 (some (ad (v_hr 4) 0))) 4 (some (ad (v_hr 5) 0))) 5 (some (ad (v_hr 6) 0))) 6 (some (ad (v_hr 7) 0))) 7 (some (ad (v_hr 0) 0))))))))] ++ plW cI ad v_PS 10) H := hP
  have hD : va_D A ([(aX, .inr (3, [.ref a_text, .int v_textLength, .int v_faultKind, .int v_faultPlace, .ref d_aC, .ref aS, .ref c_aS, .ref a_history, .int v_undoable, .ref a_images, .ref a_imageKept])), (a_history, .inl (cO, 8, .inr (.inr (.inr (.inr (va_up (va_up (va_up (va_up (va_up (va_up (va_up (va_up hf 0 (some (ad (v_hr 1) 0))) 1 (some (ad (v_hr 2) 0))) 2 (some (ad (v_hr 3) 0))) 3 (some (ad (v_hr 4) 0))) 4 (some (ad (v_hr 5) 0))) 5 (some (ad (v_hr 6) 0))) 6 (some (ad (v_hr 7) 0))) 7 (some (ad (v_hr 0) 0))))))))] ++ plW cI ad v_PS 10) := hD
  refine lv_aload_n hx hb dX3_dropOldest_62 rfl (lv_at hl 2 rfl) ?_
  refine lv_dup hx hb dX3_dropOldest_63 rfl ?_
  refine va_get (D := (dC, dI)) (ci := 3) (v := .int v_undoable) (C := RX3) (T := TX3) (N := 11) hx hb hts inX3 hown hK hP 0 rfl rfl 8 (by decide) fl121 (fun _ h9 => h9) rfl dX3_dropOldest_64 ?_
  refine lv_iconst (v := (1 : Int32)) hx hb dX3_dropOldest_67 (by decide) ?_
  refine lv_isub hx hb dX3_dropOldest_68 ?_
  refine va_put (D := (dC, dI)) (ci := 3) (v := .int (v_undoable - 1)) (ty := .int) (C := RX3) (T := TX3) (N := 11) hx hb hts inX3 tyX3 tyX3_ok nmX3 hown hK hP hD hS 0 rfl rfl 8 (by decide) fl121 (fun _ h9 => h9) rfl (by decide +kernel) rfl rfl (Nat.le_of_ble_eq_true rfl) dX3_dropOldest_69 (fun H locs hP hD hS => ?_)
  have hP : va_P (dC, dI) vwCl ([(aX, .inr (3, [.ref a_text, .int v_textLength, .int v_faultKind, .int v_faultPlace, .ref d_aC, .ref aS, .ref c_aS, .ref a_history, .int (v_undoable - 1), .ref a_images, .ref a_imageKept])), (a_history, .inl (cO, 8, .inr (.inr (.inr (.inr (va_up (va_up (va_up (va_up (va_up (va_up (va_up (va_up hf 0 (some (ad (v_hr 1) 0))) 1 (some (ad (v_hr 2) 0))) 2 (some (ad (v_hr 3) 0))) 3 (some (ad (v_hr 4) 0))) 4 (some (ad (v_hr 5) 0))) 5 (some (ad (v_hr 6) 0))) 6 (some (ad (v_hr 7) 0))) 7 (some (ad (v_hr 0) 0))))))))] ++ plW cI ad v_PS 10) H := hP
  have hD : va_D A ([(aX, .inr (3, [.ref a_text, .int v_textLength, .int v_faultKind, .int v_faultPlace, .ref d_aC, .ref aS, .ref c_aS, .ref a_history, .int (v_undoable - 1), .ref a_images, .ref a_imageKept])), (a_history, .inl (cO, 8, .inr (.inr (.inr (.inr (va_up (va_up (va_up (va_up (va_up (va_up (va_up (va_up hf 0 (some (ad (v_hr 1) 0))) 1 (some (ad (v_hr 2) 0))) 2 (some (ad (v_hr 3) 0))) 3 (some (ad (v_hr 4) 0))) 4 (some (ad (v_hr 5) 0))) 5 (some (ad (v_hr 6) 0))) 6 (some (ad (v_hr 7) 0))) 7 (some (ad (v_hr 0) 0))))))))] ++ plW cI ad v_PS 10) := hD
  subst hQ
  subst hAe
  refine W.vret hx hb hr (fun t ht hW => ⟨⟨(va_up (va_up (va_up (va_up (va_up (va_up (va_up (va_up hf 0 (some (ad (v_hr 1) 0))) 1 (some (ad (v_hr 2) 0))) 2 (some (ad (v_hr 3) 0))) 3 (some (ad (v_hr 4) 0))) 4 (some (ad (v_hr 5) 0))) 5 (some (ad (v_hr 6) 0))) 6 (some (ad (v_hr 7) 0))) 7 (some (ad (v_hr 0) 0))), rfl, ?_, by rw [ht]; exact hP, hD⟩, hS.F ht⟩) hS.2.2 dX3_dropOldest_72
  intro i hi
  rcases (show i = 0 ∨ i = 1 ∨ i = 2 ∨ i = 3 ∨ i = 4 ∨ i = 5 ∨ i = 6 ∨ i = 7 by omega) with rfl | rfl | rfl | rfl | rfl | rfl | rfl | rfl
  · exact ⟨by simp [va_up, rotN], by simpa [rotN] using (hh 1 (by decide)).2⟩
  · exact ⟨by simp [va_up, rotN], by simpa [rotN] using (hh 2 (by decide)).2⟩
  · exact ⟨by simp [va_up, rotN], by simpa [rotN] using (hh 3 (by decide)).2⟩
  · exact ⟨by simp [va_up, rotN], by simpa [rotN] using (hh 4 (by decide)).2⟩
  · exact ⟨by simp [va_up, rotN], by simpa [rotN] using (hh 5 (by decide)).2⟩
  · exact ⟨by simp [va_up, rotN], by simpa [rotN] using (hh 6 (by decide)).2⟩
  · exact ⟨by simp [va_up, rotN], by simpa [rotN] using (hh 7 (by decide)).2⟩
  · exact ⟨by simp [va_up, rotN], by simpa [rotN] using (hh 0 (by decide)).2⟩
