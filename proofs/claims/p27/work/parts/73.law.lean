/-! the script's cells -/
def celF (L : Nat) (xs : Nat → Int32) (k : Nat) : Int32 := if k < L then xs k else (747796405 : Int32) * (nI k + 1)
def rm_L_cell : Room := { frames := 0, cells := 0, slots := 0, locals := 0 }
theorem fb_X {b L : Nat} {xs : Nat → Int32} {av : List Value} : FrameBlind (va_Pc av (fun U => va_X b L xs U U.heap)) := fun a U g mk q => by
  obtain ⟨q0, q1⟩ := q
  exact ⟨q0, va_X.moved (u := U) (U := U.calling g mk a) (Vm.Alike.refl U.vm) q1⟩
set_option maxHeartbeats 4000000 in
set_option maxRecDepth 100000 in
theorem c_L_cell (l : Launch) (b L : Nat) (xs : Nat → Int32) (k : Nat) (hk : k < 2 ^ 20) (hL : L < 2 ^ 20) : Met l yL_cell wsL_cell rm_L_cell (va_Pc [.ref b, .int (nI k)] (fun U => va_X b L xs U U.heap)) (vp_Si (fun q => celF L xs k = q)) 0 0 (fun _ => False) := by
  refine Met.ofW (cc := cL_cell) (maxL := 2) (ret := (some .int)) (by decide) rfl ?_
  intro p e s m args below meth c s₁ B hml hv
  obtain ⟨rfl, hX⟩ := hv
  have hx := B.exec
  have hb := B.bytes
  have hr := B.returns
  have hts := atoms_spec (ws := wsL_cell) B.pre
  have hown : s.vm.findClass RL = some m.cls := findClass_of_methodNamed B.named
  have hlocks := B.notSynchronized
  have hbl : b < s.heap.size := (Array.getElem?_eq_some_iff.mp hX.choose_spec.1).1
  obtain ⟨Q, hQ⟩ : ∃ Q, Q = MQ below (vp_Si (fun q => celF L xs k = q)) ([.ref b, .int (nI k)] : List Value).toArray s 0 0 (fun _ => False) := ⟨_, rfl⟩
  rw [← hQ]
  have hS : va_S (fun _ => False) s.heap s.heap [] := va_S.rf
  have cn7 := hts (.constant RL 7 (747796405)) (by decide +kernel)
  have hl := lv_entry ([.ref b, .int (nI k)]) (n := 2) (Nat.le_of_ble_eq_true rfl)
  rw [lg_entry_eq]
  generalize (lg_sl ([.ref b, .int (nI k)]) ++ List.replicate (2 - (lg_sl ([.ref b, .int (nI k)])).length) Slot.unset).toArray = ls at hl ⊢
  have hl : lv_has ls 2 [(0, .ref b), (1, .int (nI k))] := hl
  refine lv_iload_n hx hb dL_cell_0 rfl (lv_at hl 1 rfl) ?_
  refine lv_aload_n hx hb dL_cell_1 rfl (lv_at hl 0 rfl) ?_
  refine va_slen hx hb hX hbl (fun q => q) hS dL_cell_2 ?_
  refine lv_icmp_ge (tgt := 12) hx hb dL_cell_3 (by decide) (fun c3 => ?_) (fun c3 => ?_)
  · have h : ¬ k < L := fun q => nI_ge q (by omega) c3
    refine lv_ldc hx hb hown cn7 dL_cell_12 ?_
    refine lv_iload_n hx hb dL_cell_14 rfl (lv_at hl 1 rfl) ?_
    refine lv_iconst (v := (1 : Int32)) hx hb dL_cell_15 (by decide) ?_
    refine lv_iadd hx hb dL_cell_16 ?_
    refine lv_imul hx hb dL_cell_17 ?_
    have e : celF L xs k = (747796405 : Int32) * (nI k + 1) := by unfold celF; rw [if_neg h]
    subst hQ
    exact W.iret hx hb hr (fun t ht hW => ⟨_, rfl, e, ht⟩) (fun q hq => absurd hq List.not_mem_nil) dL_cell_18
  · have h : k < L := Nat.lt_of_not_le (fun q => c3 (nI_le q (by omega)))
    refine lv_aload_n hx hb dL_cell_6 rfl (lv_at hl 0 rfl) ?_
    refine lv_iload_n hx hb dL_cell_7 rfl (lv_at hl 1 rfl) ?_
    refine va_sld hx hb hX hbl (fun q => q) hS (ixN h (by omega)) dL_cell_8 ?_
    refine lv_goto (tgt := 18) hx hb dL_cell_9 (by decide) ?_
    have e : celF L xs k = xs (nI k).toNatClampNeg := by unfold celF; rw [if_pos h, nI_clamp (by omega)]
    subst hQ
    exact W.iret hx hb hr (fun t ht hW => ⟨_, rfl, e, ht⟩) (fun q hq => absurd hq List.not_mem_nil) dL_cell_18
/-! the law: two objects, side by side -/
def stA (nm : String) (t : Nat) (f : Nat → Int32) (A : Nat → Prop) (s : State) : Prop := va_Z "Teleprompter" nm "[I" (.ref t) A s s.heap ∧ va_T .int t 9 (fun j => .int (f j)) A s s.heap
theorem stA_T {nm : String} {t : Nat} {f : Nat → Int32} {A : Nat → Prop} {s U : State} {H : Heap} {locs : List Loc} (h : stA nm t f A s) (hS : va_S A s.heap H locs) (hU : U.heap = H) (hW : s.WarmedH U.vm) : stT nm t f U U.heap := by
  rw [hU]
  exact ⟨((h.1.kept (fun a ha hn => hS.2.1 a ha hn)).narrow (fun _ z => absurd z id)).moved hW.alike, ((h.2.kept (fun a ha hn => hS.2.1 a ha hn)).narrow (fun _ z => absurd z id)).moved hW.alike⟩
theorem stA_W {tL tM : Nat} {A : Nat → Prop} {s U : State} {H : Heap} {locs : List Loc} (h : stA "LEAST" tL F_LEAST A s ∧ stA "MOST" tM F_MOST A s) (hS : va_S A s.heap H locs) (hU : U.heap = H) (hW : s.WarmedH U.vm) : STW tL tM U := ⟨stA_T h.1 hS hU hW, stA_T h.2 hS hU hW⟩
def LW (dC : Nat → ClassId) (dI : Nat → Nat → Nat) (cI cZ cO : ClassId) (aX aQ : Nat) (A : Nat → Prop) (g1 g2 : GS) (H : Heap) : Prop := ∃ wo wq : va_W, OB cI cZ cO aX g1 wo ∧ OB cI cZ cO aQ g2 wq ∧ va_P (dC, dI) vwCl (wo ++ wq) H ∧ va_D A (wo ++ wq)
theorem LW_wk {dC : Nat → ClassId} {dI : Nat → Nat → Nat} {cI cZ cO : ClassId} {aX aQ : Nat} {A : Nat → Prop} {g1 g2 : GS} {H : Heap} (h : LW dC dI cI cZ cO aX aQ A g1 g2 H) : LW dC dI cI cZ cO aX aQ A (clr g1) (clr g2) H := by
  obtain ⟨wo, wq, a, b, c, d⟩ := h
  exact ⟨wo, wq, OB_wk a, OB_wk b, c, d⟩
/-- what holds behind a turn's change -/
def LF (x : Nat) (J : Int32) (g : GS) (M : Nat) : Prop := GI g ∧ gM g ≤ M ∧ (11 ≤ x → x ≤ 14 → (∃ a b, a ≤ b ∧ b ≤ 80000 ∧ J = nI a ∧ g.1 18 = nI b) ∧ ∃ z, MI (gM g) g.1 z ∧ shWn g.1 z)
theorem CHF_LF {x M : Nat} {J : Int32} {g g' : GS} (h : CHF x g g') (hM : gM g ≤ M) (hJ : J = g.1 18 ∨ J = nI 0) : LF x J (clr g') (M + 100) := by
  obtain ⟨h1, h2, h3⟩ := h
  refine ⟨h1, Nat.le_trans h2 (by omega), fun a b => ?_⟩
  obtain ⟨⟨u, v, e1, e2, e3, e4⟩, z, i1, i2⟩ := h3 a b
  refine ⟨?_, z, i1, i2⟩
  rcases hJ with q | q
  · exact ⟨u, v, e1, e2, q.trans e3, e4⟩
  · exact ⟨0, v, Nat.zero_le _, e2, q, e4⟩
theorem isL97 {t : Nat} (h : t < 5) : f_X3_isLetter ((97 : Int32) + nI t) = some 1 := by
  rcases (show t = 0 ∨ t = 1 ∨ t = 2 ∨ t = 3 ∨ t = 4 by omega) with rfl | rfl | rfl | rfl | rfl <;> decide +kernel
set_option maxHeartbeats 4000000 in
theorem law_24 {p : Program} {l : Launch} {e : Env} {s : State} {m : MethodId} {args : Array Value} {below : List Frame} {meth : Method} {c : Code} {cells slots : Nat} {Q : State → Prop} {A : Nat → Prop} {dC : Nat → ClassId} {dI : Nat → Nat → Nat} {cI cZ cO : ClassId} {aX aQ b : Nat} (hx : p.tables.exec = Jvm.exec) (hb : c.code = cL_law) (hml : c.maxLocals = 8) (hown : s.vm.findClass RL = some m.cls) (hts : ∀ w ∈ wsL_law, w.before args s = true) (hA : ∀ q, s.heap.size ≤ q → A q) (hK : va_K (dC, dI) vwCl (tyA cI cZ cO) s) (hN : NW s) (hro : cells ≤ room_1.cells ∧ slots ≤ room_1.slots) {Lx k : Nat} {xs : Nat → Int32} {g : GS} {H : Heap} {locs : List Loc} {ls : Array Slot} (hX : va_X b Lx xs s s.heap) (hbl : b < s.heap.size) (hbA : ¬ A b) (hLx : Lx ≤ 260) (hk : k < 40) (hM : gM g ≤ 80000) (hG : GI g) (hW : LW dC dI cI cZ cO aX aQ A g g H) (hS : va_S A s.heap H locs) (hl : lv_has ls 8 [(3, .int (nI k)), (2, .ref aQ), (1, .ref aX), (0, .ref b)]) (kk : ∀ (v more : Int32) (x : Nat) (ls : Array Slot), x < 24 → f_L_low v 24 = some (nI x) → lv_has ls 8 [(7, .int (g.1 18)), (6, .int (nI x)), (5, .int more), (4, .int v), (3, .int (nI k)), (2, .ref aQ), (1, .ref aX), (0, .ref b)] → W p l e room_1 s m args below meth c H locs cells slots Q (F0 m 61 ls [])) : W p l e room_1 s m args below meth c H locs cells slots Q (F0 m 24 ls []) := by
  refine lv_aload_n hx hb dL_law_24 rfl (lv_at hl 3 rfl) ?_
  refine lv_iconst (v := (2 : Int32)) hx hb dL_law_25 (by decide) ?_
  refine lv_iload_n hx hb dL_law_26 rfl (lv_at hl 0 rfl) ?_
  refine lv_imul hx hb dL_law_27 ?_
  rw [show (2 : Int32) * nI k = nI (2 * k) from nI_mul 2 k]
  refine vp_callSi (va_Run.run (va_runS (As := [.ref b, .int (nI (2 * k))]) (rest := []) ⟨hx, hb, hml, hown, hts⟩ (c_L_cell l b Lx xs (2 * k) (by omega) (by omega)) (cwS 2 hts gL_law_L_cell rfl rfl rfl (by decide +kernel) ⟨Nat.le_of_ble_eq_true rfl, Nat.le_of_ble_eq_true rfl⟩) ⟨fb_X, fun U hU hW => ⟨rfl, by show va_X b Lx xs U U.heap; rw [hU]; exact (hX.kept (hS.2.1 b hbl hbA)).moved hW.alike⟩⟩ rfl rfl hl.1 rfl (lv_room (Nat.le_of_ble_eq_true rfl)) dL_law_28 hro)) (fun z1 hz1 => ?_)
  subst hz1
  refine lv_istore (lv' := [(4, .int (celF Lx xs (2 * k))), (3, .int (nI k)), (2, .ref aQ), (1, .ref aX), (0, .ref b)]) hx hb dL_law_31 hl (by decide) rfl (fun ls hl => ?_)
  generalize celF Lx xs (2 * k) = v at hl ⊢
  refine lv_aload_n hx hb dL_law_33 rfl (lv_at hl 4 rfl) ?_
  refine lv_iconst (v := (2 : Int32)) hx hb dL_law_34 (by decide) ?_
  refine lv_iload_n hx hb dL_law_35 rfl (lv_at hl 1 rfl) ?_
  refine lv_imul hx hb dL_law_36 ?_
  refine lv_iconst (v := (1 : Int32)) hx hb dL_law_37 (by decide) ?_
  refine lv_iadd hx hb dL_law_38 ?_
  rw [show (2 : Int32) * nI k = nI (2 * k) from nI_mul 2 k, nI_1]
  refine vp_callSi (va_Run.run (va_runS (As := [.ref b, .int (nI (2 * k + 1))]) (rest := []) ⟨hx, hb, hml, hown, hts⟩ (c_L_cell l b Lx xs (2 * k + 1) (by omega) (by omega)) (cwS 2 hts gL_law_L_cell rfl rfl rfl (by decide +kernel) ⟨Nat.le_of_ble_eq_true rfl, Nat.le_of_ble_eq_true rfl⟩) ⟨fb_X, fun U hU hW => ⟨rfl, by show va_X b Lx xs U U.heap; rw [hU]; exact (hX.kept (hS.2.1 b hbl hbA)).moved hW.alike⟩⟩ rfl rfl hl.1 rfl (lv_room (Nat.le_of_ble_eq_true rfl)) dL_law_39 hro)) (fun z2 hz2 => ?_)
  subst hz2
  refine lv_istore (lv' := [(5, .int (celF Lx xs (2 * k + 1))), (4, .int v), (3, .int (nI k)), (2, .ref aQ), (1, .ref aX), (0, .ref b)]) hx hb dL_law_42 hl (by decide) rfl (fun ls hl => ?_)
  generalize celF Lx xs (2 * k + 1) = more at hl ⊢
  obtain ⟨x, hx24, hlow⟩ := L_lowK v 24 24 rfl (by omega) (by omega)
  obtain ⟨wo, wq, hO, hO2, hP, hD⟩ := id hW
  obtain ⟨vs, hv⟩ := OB_recv hO
  have hPc := va_P.left hP
  have hPn : va_P (dC, dI) vwCl [] H := hP.sub (ws' := []) [] rfl
  refine lv_iload hx hb dL_law_44 (lv_at hl 1 rfl) ?_
  refine lv_bipush (v := (24 : Int32)) hx hb dL_law_46 (by decide) ?_
  refine vp_callSi (va_Run.run (va_runS (As := [.int v, .int (24 : Int32)]) (rest := []) ⟨hx, hb, hml, hown, hts⟩ (c_L_low l dC dI cI cZ cO v (24 : Int32) (nI x) hlow) (cwS 2 hts gL_law_L_low rfl rfl rfl (by decide +kernel) ⟨Nat.le_of_ble_eq_true rfl, Nat.le_of_ble_eq_true rfl⟩) ⟨fb_rd, pre_rd hPn hK hN⟩ rfl rfl hl.1 rfl (lv_room (Nat.le_of_ble_eq_true rfl)) dL_law_48 hro)) (fun z3 hz3 => ?_)
  subst hz3
  refine lv_istore (lv' := [(6, .int (nI x)), (5, .int more), (4, .int v), (3, .int (nI k)), (2, .ref aQ), (1, .ref aX), (0, .ref b)]) hx hb dL_law_51 hl (by decide) rfl (fun ls hl => ?_)
  obtain ⟨z, hI⟩ := GI_MI hG
  have h13 : g_told 13 g = some (g.1 18) := T_t13 (by omega) hI
  refine lv_aload_n hx hb dL_law_53 rfl (lv_at hl 5 rfl) ?_
  refine lv_bipush (v := (13 : Int32)) hx hb dL_law_54 (by decide) ?_
  refine vp_callSi (va_Run.run (va_runV (As := [.int (13 : Int32)]) (rest := []) ⟨hx, hb, hml, hown, hts⟩ (o_told l dC dI cI cZ cO aX wo g (13 : Int32) (g.1 18) hO h13) (cwV 1 hts gL_law_X3_told rfl rfl rfl (by decide +kernel) ⟨Nat.le_of_ble_eq_true rfl, Nat.le_of_ble_eq_true rfl⟩) ⟨fb_rd, va_recv hK hPc (ci := 3) (q0 := 0) rfl hv, pre_rd hPc hK hN⟩ rfl rfl hl.1 rfl (lv_room (Nat.le_of_ble_eq_true rfl)) dL_law_56 hro)) (fun z4 hz4 => ?_)
  subst hz4
  refine lv_istore (lv' := [(7, .int (g.1 18)), (6, .int (nI x)), (5, .int more), (4, .int v), (3, .int (nI k)), (2, .ref aQ), (1, .ref aX), (0, .ref b)]) hx hb dL_law_59 hl (by decide) rfl (fun ls hl => ?_)
  exact kk v more x ls hx24 hlow hl
set_option maxHeartbeats 4000000 in
theorem law_61 {p : Program} {l : Launch} {e : Env} {s : State} {m : MethodId} {args : Array Value} {below : List Frame} {meth : Method} {c : Code} {cells slots : Nat} {Q : State → Prop} {A : Nat → Prop} {dC : Nat → ClassId} {dI : Nat → Nat → Nat} {cI cZ cO : ClassId} {aX aQ b : Nat} (hx : p.tables.exec = Jvm.exec) (hb : c.code = cL_law) (hml : c.maxLocals = 8) (hown : s.vm.findClass RL = some m.cls) (hts : ∀ w ∈ wsL_law, w.before args s = true) (hA : ∀ q, s.heap.size ≤ q → A q) (hK : va_K (dC, dI) vwCl (tyA cI cZ cO) s) (hN : NW s) (hro : cells ≤ room_1.cells ∧ slots ≤ room_1.slots) {k x : Nat} {J v more : Int32} {g : GS} {H : Heap} {locs : List Loc} {ls : Array Slot} (hk : k < 40) (hM : gM g ≤ 80000) (hG : GI g) (hW : LW dC dI cI cZ cO aX aQ A g g H) (hS : va_S A s.heap H locs) (hl : lv_has ls 8 [(7, .int J), (6, .int (nI x)), (5, .int more), (4, .int v), (3, .int (nI k)), (2, .ref aQ), (1, .ref aX), (0, .ref b)]) (kk : ∀ (g1 : GS) (H : Heap) (locs : List Loc) (ls : Array Slot), (k = 0 ∨ g1 = g) → GI g1 → gM g1 = gM g → LW dC dI cI cZ cO aX aQ A g1 g1 H → va_S A s.heap H locs → lv_has ls 8 [(7, .int J), (6, .int (nI x)), (5, .int more), (4, .int v), (3, .int (nI k)), (2, .ref aQ), (1, .ref aX), (0, .ref b)] → W p l e room_1 s m args below meth c H locs cells slots Q (F0 m 84 ls [])) : W p l e room_1 s m args below meth c H locs cells slots Q (F0 m 61 ls []) := by
  refine lv_iload_n hx hb dL_law_61 rfl (lv_at hl 4 rfl) ?_
  refine lv_if_ne (tgt := 84) hx hb dL_law_62 (by decide) (fun c => ?_) (fun c => ?_)
  · exact kk g H locs ls (Or.inr rfl) hG rfl hW hS hl
  · have k0 : k = 0 := by
      rcases Nat.eq_zero_or_pos k with q | q
      · exact q
      · exact absurd c (nI_ne0 q (by omega))
    obtain ⟨r, g1, e1, e2, e3⟩ := L_load v more hM hG
    refine lv_aload_n hx hb dL_law_65 rfl (lv_at hl 6 rfl) ?_
    refine lv_iload hx hb dL_law_66 (lv_at hl 3 rfl) ?_
    refine lv_iload hx hb dL_law_68 (lv_at hl 2 rfl) ?_
    obtain ⟨wo, wq, hO, hO2, hP, hD⟩ := id hW
    obtain ⟨vs, hv⟩ := OB_recv hO
    have hP0 := hP.perm List.perm_append_comm
    have hD0 := hD.perm List.perm_append_comm
    have hPc := hP0.right
    have hDc := hD0.right
    have hFc := va_free2 hDc hS hA
    refine va_calli (va_runS (As := [.ref aX, .int v, .int more]) (rest := []) ⟨hx, hb, hml, hown, hts⟩ (c_L_load l dC dI cI cZ cO aX H.size wo g v more r g1 hO e1) (cwS 3 hts gL_law_L_load rfl rfl rfl (by decide +kernel) ⟨Nat.le_of_ble_eq_true rfl, Nat.le_of_ble_eq_true rfl⟩) ⟨fb_wr, pre_wr hPc hK hN hDc⟩ rfl rfl hl.1 rfl (lv_room (Nat.le_of_ble_eq_true rfl)) dL_law_70 hro) hS (fun q _ h => hFc q h) hFc (fun z1 wz1 t H1 locs ht hvm hw hB hz1 hk1 hS => ?_)
    obtain ⟨hw, hO⟩ := hw
    subst hw
    obtain ⟨hP1, hD1⟩ := hB
    rw [ht] at hP1
    obtain ⟨hP, hD⟩ := joinPerm hP0 hD0 hk1 hFc hP1 hD1
    have hP := hP.perm List.perm_append_comm
    have hD := hD.perm List.perm_append_comm
    have hW : LW dC dI cI cZ cO aX aQ A g1 g H1 := ⟨wz1, wq, hO, hO2, hP, hD⟩
    generalize H1 = H at hW hS ⊢
    refine lv_aload_n hx hb dL_law_73 rfl (lv_at hl 5 rfl) ?_
    refine lv_iload hx hb dL_law_74 (lv_at hl 3 rfl) ?_
    refine lv_iload hx hb dL_law_76 (lv_at hl 2 rfl) ?_
    obtain ⟨wo, wq, hO, hO2, hP, hD⟩ := id hW
    obtain ⟨vs, hv⟩ := OB_recv hO2
    have hPc := hP.right
    have hDc := hD.right
    have hFc := va_free2 hDc hS hA
    refine va_calli (va_runS (As := [.ref aQ, .int v, .int more]) (rest := [.int r]) ⟨hx, hb, hml, hown, hts⟩ (c_L_load l dC dI cI cZ cO aQ H.size wq g v more r g1 hO2 e1) (cwS 3 hts gL_law_L_load rfl rfl rfl (by decide +kernel) ⟨Nat.le_of_ble_eq_true rfl, Nat.le_of_ble_eq_true rfl⟩) ⟨fb_wr, pre_wr hPc hK hN hDc⟩ rfl rfl hl.1 rfl (lv_room (Nat.le_of_ble_eq_true rfl)) dL_law_78 hro) hS (fun q _ h => hFc q h) hFc (fun z2 wz2 t H1 locs ht hvm hw hB hz1 hk1 hS => ?_)
    obtain ⟨hw, hO2⟩ := hw
    subst hw
    obtain ⟨hP1, hD1⟩ := hB
    rw [ht] at hP1
    obtain ⟨hP, hD⟩ := joinPerm hP hD hk1 hFc hP1 hD1
    have hW : LW dC dI cI cZ cO aX aQ A g1 g1 H1 := ⟨wo, wz2, hO, hO2, hP, hD⟩
    refine lv_icmp_ne (tgt := 110) hx hb dL_law_81 (by decide) (fun c => absurd rfl c) (fun _ => ?_)
    exact kk g1 H1 locs ls (Or.inl k0) e2 e3 hW hS hl
set_option maxHeartbeats 4000000 in
theorem law_84 {p : Program} {l : Launch} {e : Env} {s : State} {m : MethodId} {args : Array Value} {below : List Frame} {meth : Method} {c : Code} {cells slots : Nat} {Q : State → Prop} {A : Nat → Prop} {dC : Nat → ClassId} {dI : Nat → Nat → Nat} {cI cZ cO : ClassId} {aX aQ b : Nat} (hx : p.tables.exec = Jvm.exec) (hb : c.code = cL_law) (hml : c.maxLocals = 8) (hown : s.vm.findClass RL = some m.cls) (hts : ∀ w ∈ wsL_law, w.before args s = true) (hA : ∀ q, s.heap.size ≤ q → A q) (hK : va_K (dC, dI) vwCl (tyA cI cZ cO) s) (hN : NW s) (hro : cells ≤ room_1.cells ∧ slots ≤ room_1.slots) {k x tL tM M : Nat} {J v more : Int32} {g : GS} {H : Heap} {locs : List Loc} {ls : Array Slot} (hST : stA "LEAST" tL F_LEAST A s ∧ stA "MOST" tM F_MOST A s) (hx24 : x < 24) (hlow : f_L_low v 24 = some (nI x)) (hM : gM g + 100 ≤ 80000) (hMM : gM g ≤ M) (hG : GI g) (hJ : J = g.1 18 ∨ J = nI 0) (hW : LW dC dI cI cZ cO aX aQ A g g H) (hS : va_S A s.heap H locs) (hl : lv_has ls 8 [(7, .int J), (6, .int (nI x)), (5, .int more), (4, .int v), (3, .int (nI k)), (2, .ref aQ), (1, .ref aX), (0, .ref b)]) (kk : ∀ (g1 : GS) (H : Heap) (locs : List Loc) (ls : Array Slot), LF x J g1 (M + 100) → LW dC dI cI cZ cO aX aQ A g1 g1 H → va_S A s.heap H locs → lv_has ls 8 [(7, .int J), (6, .int (nI x)), (5, .int more), (4, .int v), (3, .int (nI k)), (2, .ref aQ), (1, .ref aX), (0, .ref b)] → W p l e room_1 s m args below meth c H locs cells slots Q (F0 m 112 ls [])) : W p l e room_1 s m args below meth c H locs cells slots Q (F0 m 84 ls []) := by
  refine lv_iload hx hb dL_law_84 (lv_at hl 1 rfl) ?_
  refine lv_bipush (v := (8 : Int32)) hx hb dL_law_86 (by decide) ?_
  refine lv_icmp_eq (tgt := 112) hx hb dL_law_88 (by decide) (fun c => ?_) (fun c => ?_)
  · have x8 : x = 8 := by
      rcases Nat.lt_trichotomy x 8 with q | q | q
      · exact absurd (show nI 8 ≤ nI x by rw [c]; decide) (nI_ge q (by omega))
      · exact q
      · exact absurd (show nI x ≤ nI 8 by rw [c]; decide) (nI_ge q (by omega))
    exact kk g H locs ls ⟨hG, by omega, fun a b => absurd a (by omega)⟩ hW hS hl
  · have x8 : ¬ x = 8 := fun q => c (by rw [q]; decide)
    obtain ⟨r, g1, e1, e2⟩ := L_change (more := more) hlow x8 hx24 hM hG
    refine lv_aload_n hx hb dL_law_91 rfl (lv_at hl 6 rfl) ?_
    refine lv_iload hx hb dL_law_92 (lv_at hl 3 rfl) ?_
    refine lv_iload hx hb dL_law_94 (lv_at hl 2 rfl) ?_
    obtain ⟨wo, wq, hO, hO2, hP, hD⟩ := id hW
    obtain ⟨vs, hv⟩ := OB_recv hO
    have hP0 := hP.perm List.perm_append_comm
    have hD0 := hD.perm List.perm_append_comm
    have hPc := hP0.right
    have hDc := hD0.right
    have hFc := va_free2 hDc hS hA
    refine va_calli (va_runS (As := [.ref aX, .int v, .int more]) (rest := []) ⟨hx, hb, hml, hown, hts⟩ (c_L_change l dC dI cI cZ cO aX H.size tL tM wo g v more r g1 hO e1) (cwS 3 hts gL_law_L_change rfl rfl rfl (by decide +kernel) ⟨Nat.le_of_ble_eq_true rfl, Nat.le_of_ble_eq_true rfl⟩) ⟨fb_st, fun U hU hW => ⟨rfl, (pre_wr (av := []) hPc hK hN hDc U hU hW).2, stA_W hST hS hU hW⟩⟩ rfl rfl hl.1 rfl (lv_room (Nat.le_of_ble_eq_true rfl)) dL_law_96 hro) hS (fun q _ h => hFc q h) hFc (fun z1 wz1 t H1 locs ht hvm hw hB hz1 hk1 hS => ?_)
    obtain ⟨hw, hO⟩ := hw
    subst hw
    obtain ⟨hP1, hD1⟩ := hB
    rw [ht] at hP1
    obtain ⟨hP, hD⟩ := joinPerm hP0 hD0 hk1 hFc hP1 hD1
    have hP := hP.perm List.perm_append_comm
    have hD := hD.perm List.perm_append_comm
    have hW : LW dC dI cI cZ cO aX aQ A g1 g H1 := ⟨wz1, wq, hO, hO2, hP, hD⟩
    generalize H1 = H at hW hS ⊢
    refine lv_aload_n hx hb dL_law_99 rfl (lv_at hl 5 rfl) ?_
    refine lv_iload hx hb dL_law_100 (lv_at hl 3 rfl) ?_
    refine lv_iload hx hb dL_law_102 (lv_at hl 2 rfl) ?_
    obtain ⟨wo, wq, hO, hO2, hP, hD⟩ := id hW
    obtain ⟨vs, hv⟩ := OB_recv hO2
    have hPc := hP.right
    have hDc := hD.right
    have hFc := va_free2 hDc hS hA
    refine va_calli (va_runS (As := [.ref aQ, .int v, .int more]) (rest := [.int r]) ⟨hx, hb, hml, hown, hts⟩ (c_L_change l dC dI cI cZ cO aQ H.size tL tM wq g v more r g1 hO2 e1) (cwS 3 hts gL_law_L_change rfl rfl rfl (by decide +kernel) ⟨Nat.le_of_ble_eq_true rfl, Nat.le_of_ble_eq_true rfl⟩) ⟨fb_st, fun U hU hW => ⟨rfl, (pre_wr (av := []) hPc hK hN hDc U hU hW).2, stA_W hST hS hU hW⟩⟩ rfl rfl hl.1 rfl (lv_room (Nat.le_of_ble_eq_true rfl)) dL_law_104 hro) hS (fun q _ h => hFc q h) hFc (fun z2 wz2 t H1 locs ht hvm hw hB hz1 hk1 hS => ?_)
    obtain ⟨hw, hO2⟩ := hw
    subst hw
    obtain ⟨hP1, hD1⟩ := hB
    rw [ht] at hP1
    obtain ⟨hP, hD⟩ := joinPerm hP hD hk1 hFc hP1 hD1
    have hW : LW dC dI cI cZ cO aX aQ A g1 g1 H1 := ⟨wo, wz2, hO, hO2, hP, hD⟩
    refine lv_icmp_eq (tgt := 112) hx hb dL_law_107 (by decide) (fun _ => ?_) (fun c => absurd rfl c)
    exact kk (clr g1) H1 locs ls (CHF_LF e2 hMM hJ) (LW_wk hW) hS hl
set_option maxHeartbeats 4000000 in
theorem law_112 {p : Program} {l : Launch} {e : Env} {s : State} {m : MethodId} {args : Array Value} {below : List Frame} {meth : Method} {c : Code} {cells slots : Nat} {Q : State → Prop} {A : Nat → Prop} {dC : Nat → ClassId} {dI : Nat → Nat → Nat} {cI cZ cO : ClassId} {aX aQ b : Nat} (hx : p.tables.exec = Jvm.exec) (hb : c.code = cL_law) (hml : c.maxLocals = 8) (hown : s.vm.findClass RL = some m.cls) (hts : ∀ w ∈ wsL_law, w.before args s = true) (hA : ∀ q, s.heap.size ≤ q → A q) (hK : va_K (dC, dI) vwCl (tyA cI cZ cO) s) (hN : NW s) (hro : cells ≤ room_1.cells ∧ slots ≤ room_1.slots) {k x : Nat} {J v more : Int32} {g : GS} {H : Heap} {locs : List Loc} {ls : Array Slot} (hM : gM g ≤ 80000) (hG : GI g) (hW : LW dC dI cI cZ cO aX aQ A g g H) (hS : va_S A s.heap H locs) (hl : lv_has ls 8 [(7, .int J), (6, .int (nI x)), (5, .int more), (4, .int v), (3, .int (nI k)), (2, .ref aQ), (1, .ref aX), (0, .ref b)]) (kk : ∀ (H : Heap) (locs : List Loc) (ls : Array Slot), LW dC dI cI cZ cO aX aQ A g g H → va_S A s.heap H locs → lv_has ls 8 [(7, .int J), (6, .int (nI x)), (5, .int more), (4, .int v), (3, .int (nI k)), (2, .ref aQ), (1, .ref aX), (0, .ref b)] → W p l e room_1 s m args below meth c H locs cells slots Q (F0 m 154 ls [])) : W p l e room_1 s m args below meth c H locs cells slots Q (F0 m 112 ls []) := by
  obtain ⟨z, hI⟩ := GI_MI hG
  obtain ⟨wo, wq, hO, hO2, hP, hD⟩ := id hW
  obtain ⟨vs, hv⟩ := OB_recv hO
  have hPc := va_P.left hP
  have hPn : va_P (dC, dI) vwCl [] H := hP.sub (ws' := []) [] rfl
  refine lv_aload_n hx hb dL_law_112 rfl (lv_at hl 6 rfl) ?_
  refine vp_callSi (va_Run.run (va_runS (As := [.ref aX]) (rest := []) ⟨hx, hb, hml, hown, hts⟩ (c_L_isEstimate l dC dI cI cZ cO aX wo g (1 : Int32) hO (L_isEst hM hI)) (cwS 1 hts gL_law_L_isEstimate rfl rfl rfl (by decide +kernel) ⟨Nat.le_of_ble_eq_true rfl, Nat.le_of_ble_eq_true rfl⟩) ⟨fb_rd, pre_rd hPc hK hN⟩ rfl rfl hl.1 rfl (lv_room (Nat.le_of_ble_eq_true rfl)) dL_law_113 hro)) (fun z1 hz1 => ?_)
  subst hz1
  refine lv_if_eq (tgt := 152) hx hb dL_law_116 (by decide) (fun c => absurd c (by decide)) (fun _ => ?_)
  refine lv_iload_n hx hb dL_law_119 rfl (lv_at hl 4 rfl) ?_
  refine lv_iconst (v := (3 : Int32)) hx hb dL_law_120 (by decide) ?_
  refine lv_irem hx hb dL_law_121 (by decide) ?_
  refine lv_iconst (v := (2 : Int32)) hx hb dL_law_122 (by decide) ?_
  refine lv_icmp_ne (tgt := 154) hx hb dL_law_123 (by decide) (fun _ => kk H locs ls hW hS hl) (fun _ => ?_)
  refine lv_aload_n hx hb dL_law_126 rfl (lv_at hl 6 rfl) ?_
  refine vp_callSi (va_Run.run (va_runS (As := [.ref aX]) (rest := []) ⟨hx, hb, hml, hown, hts⟩ (c_L_areRows l dC dI cI cZ cO aX wo g (1 : Int32) hO (L_areRows hM hI)) (cwS 1 hts gL_law_L_areRows rfl rfl rfl (by decide +kernel) ⟨Nat.le_of_ble_eq_true rfl, Nat.le_of_ble_eq_true rfl⟩) ⟨fb_rd, pre_rd hPc hK hN⟩ rfl rfl hl.1 rfl (lv_room (Nat.le_of_ble_eq_true rfl)) dL_law_127 hro)) (fun z2 hz2 => ?_)
  subst hz2
  refine lv_if_eq (tgt := 152) hx hb dL_law_130 (by decide) (fun c => absurd c (by decide)) (fun _ => ?_)
  refine lv_aload_n hx hb dL_law_133 rfl (lv_at hl 6 rfl) ?_
  refine lv_bipush (v := (97 : Int32)) hx hb dL_law_134 (by decide) ?_
  refine lv_iload hx hb dL_law_136 (lv_at hl 2 rfl) ?_
  refine lv_bipush (v := (7 : Int32)) hx hb dL_law_138 (by decide) ?_
  refine lv_ishr hx hb dL_law_140 ?_
  refine lv_iconst (v := (5 : Int32)) hx hb dL_law_141 (by decide) ?_
  generalize more >>> ((7 : Int32) &&& 31) = mm
  obtain ⟨y, hy5, hylow⟩ := L_lowK mm 5 5 rfl (by omega) (by omega)
  refine vp_callSi (va_Run.run (va_runS (As := [.int mm, .int (5 : Int32)]) (rest := [.int (97 : Int32), .ref aX]) ⟨hx, hb, hml, hown, hts⟩ (c_L_low l dC dI cI cZ cO mm (5 : Int32) (nI y) hylow) (cwS 2 hts gL_law_L_low rfl rfl rfl (by decide +kernel) ⟨Nat.le_of_ble_eq_true rfl, Nat.le_of_ble_eq_true rfl⟩) ⟨fb_rd, pre_rd hPn hK hN⟩ rfl rfl hl.1 rfl (lv_room (Nat.le_of_ble_eq_true rfl)) dL_law_142 hro)) (fun z3 hz3 => ?_)
  subst hz3
  refine lv_iadd hx hb dL_law_145 ?_
  obtain ⟨wo, wq, hO, hO2, hP, hD⟩ := id hW
  obtain ⟨vs, hv⟩ := OB_recv hO
  have hP0 := hP.perm List.perm_append_comm
  have hD0 := hD.perm List.perm_append_comm
  have hPc := hP0.right
  have hDc := hD0.right
  have hFc := va_free2 hDc hS hA
  refine va_calli (va_runS (As := [.ref aX, .int ((97 : Int32) + nI y)]) (rest := []) ⟨hx, hb, hml, hown, hts⟩ (c_L_isBest l dC dI cI cZ cO aX H.size wo g ((97 : Int32) + nI y) (1 : Int32) g hO (L_isBest hM hG (isL97 hy5))) (cwS 2 hts gL_law_L_isBest rfl rfl rfl (by decide +kernel) ⟨Nat.le_of_ble_eq_true rfl, Nat.le_of_ble_eq_true rfl⟩) ⟨fb_wr, pre_wr hPc hK hN hDc⟩ rfl rfl hl.1 rfl (lv_room (Nat.le_of_ble_eq_true rfl)) dL_law_146 hro) hS (fun q _ h => hFc q h) hFc (fun z4 wz4 t H1 locs ht hvm hw hB hz1 hk1 hS => ?_)
  obtain ⟨hw, hO⟩ := hw
  subst hw
  obtain ⟨hP1, hD1⟩ := hB
  rw [ht] at hP1
  obtain ⟨hP, hD⟩ := joinPerm hP0 hD0 hk1 hFc hP1 hD1
  have hP := hP.perm List.perm_append_comm
  have hD := hD.perm List.perm_append_comm
  have hW : LW dC dI cI cZ cO aX aQ A g g H1 := ⟨wz4, wq, hO, hO2, hP, hD⟩
  refine lv_if_ne (tgt := 154) hx hb dL_law_149 (by decide) (fun _ => ?_) (fun c => absurd c (by decide))
  exact kk H1 locs ls hW hS hl
set_option maxHeartbeats 4000000 in
theorem law_154 {p : Program} {l : Launch} {e : Env} {s : State} {m : MethodId} {args : Array Value} {below : List Frame} {meth : Method} {c : Code} {cells slots : Nat} {Q : State → Prop} {A : Nat → Prop} {dC : Nat → ClassId} {dI : Nat → Nat → Nat} {cI cZ cO : ClassId} {aX aQ b : Nat} (hx : p.tables.exec = Jvm.exec) (hb : c.code = cL_law) (hml : c.maxLocals = 8) (hown : s.vm.findClass RL = some m.cls) (hts : ∀ w ∈ wsL_law, w.before args s = true) (hA : ∀ q, s.heap.size ≤ q → A q) (hK : va_K (dC, dI) vwCl (tyA cI cZ cO) s) (hN : NW s) (hro : cells ≤ room_1.cells ∧ slots ≤ room_1.slots) {k x M : Nat} {J v more : Int32} {g : GS} {H : Heap} {locs : List Loc} {ls : Array Slot} (hx24 : x < 24) (hM : M ≤ 80000) (hF : LF x J g M) (hW : LW dC dI cI cZ cO aX aQ A g g H) (hl : lv_has ls 8 [(7, .int J), (6, .int (nI x)), (5, .int more), (4, .int v), (3, .int (nI k)), (2, .ref aQ), (1, .ref aX), (0, .ref b)]) (kk : W p l e room_1 s m args below meth c H locs cells slots Q (F0 m 196 ls [])) : W p l e room_1 s m args below meth c H locs cells slots Q (F0 m 154 ls []) := by
  obtain ⟨hG, hgM, hF⟩ := hF
  refine lv_iload hx hb dL_law_154 (lv_at hl 1 rfl) ?_
  refine lv_bipush (v := (10 : Int32)) hx hb dL_law_156 (by decide) ?_
  refine lv_icmp_le (tgt := 196) hx hb dL_law_158 (by decide) (fun _ => kk) (fun c1 => ?_)
  refine lv_iload hx hb dL_law_161 (lv_at hl 1 rfl) ?_
  refine lv_bipush (v := (15 : Int32)) hx hb dL_law_163 (by decide) ?_
  refine lv_icmp_ge (tgt := 196) hx hb dL_law_165 (by decide) (fun _ => kk) (fun c2 => ?_)
  have x1 : 11 ≤ x := Nat.lt_of_not_le (fun q => c1 (nI_le (b := 10) q (by omega)))
  have x2 : x ≤ 14 := Nat.le_of_lt_succ (Nat.lt_of_not_le (fun q => c2 (nI_le (a := 15) q (by omega))))
  obtain ⟨⟨a, b2, ab, b8, rfl, e18⟩, z, hI, hsh⟩ := hF x1 x2
  unfold shWn at hsh
  have h7 : g_told 7 g = some (nI (esW g.1 z)) := T_t7 (by omega) hI
  have hw4 : g_word (nI (esW g.1 z)) 4 g = some 1 := by rw [T_w4 hI (esW_f hI).1, if_pos hsh]
  have h13 : g_told 13 g = some (nI b2) := by rw [T_t13 (by omega) hI, e18]
  obtain ⟨wo, wq, hO, hO2, hP, hD⟩ := id hW
  obtain ⟨vs, hv⟩ := OB_recv hO
  have hPc := va_P.left hP
  refine lv_aload_n hx hb dL_law_168 rfl (lv_at hl 6 rfl) ?_
  refine lv_aload_n hx hb dL_law_169 rfl (lv_at hl 6 rfl) ?_
  refine lv_bipush (v := (7 : Int32)) hx hb dL_law_170 (by decide) ?_
  refine vp_callSi (va_Run.run (va_runV (As := [.int (7 : Int32)]) (rest := [.ref aX]) ⟨hx, hb, hml, hown, hts⟩ (o_told l dC dI cI cZ cO aX wo g (7 : Int32) _ hO h7) (cwV 1 hts gL_law_X3_told rfl rfl rfl (by decide +kernel) ⟨Nat.le_of_ble_eq_true rfl, Nat.le_of_ble_eq_true rfl⟩) ⟨fb_rd, va_recv hK hPc (ci := 3) (q0 := 0) rfl hv, pre_rd hPc hK hN⟩ rfl rfl hl.1 rfl (lv_room (Nat.le_of_ble_eq_true rfl)) dL_law_172 hro)) (fun z1 hz1 => ?_)
  subst hz1
  refine lv_iconst (v := (4 : Int32)) hx hb dL_law_175 (by decide) ?_
  refine vp_callSi (va_Run.run (va_runV (As := [.int (nI (esW g.1 z)), .int (4 : Int32)]) (rest := []) ⟨hx, hb, hml, hown, hts⟩ (o_word l dC dI cI cZ cO aX wo g _ (4 : Int32) _ hO hw4) (cwV 2 hts gL_law_X3_word rfl rfl rfl (by decide +kernel) ⟨Nat.le_of_ble_eq_true rfl, Nat.le_of_ble_eq_true rfl⟩) ⟨fb_rd, va_recv hK hPc (ci := 3) (q0 := 0) rfl hv, pre_rd hPc hK hN⟩ rfl rfl hl.1 rfl (lv_room (Nat.le_of_ble_eq_true rfl)) dL_law_176 hro)) (fun z2 hz2 => ?_)
  subst hz2
  refine lv_iconst (v := (1 : Int32)) hx hb dL_law_179 (by decide) ?_
  refine lv_icmp_ne (tgt := 194) hx hb dL_law_180 (by decide) (fun c => absurd rfl c) (fun _ => ?_)
  refine lv_aload_n hx hb dL_law_183 rfl (lv_at hl 6 rfl) ?_
  refine lv_bipush (v := (13 : Int32)) hx hb dL_law_184 (by decide) ?_
  refine vp_callSi (va_Run.run (va_runV (As := [.int (13 : Int32)]) (rest := []) ⟨hx, hb, hml, hown, hts⟩ (o_told l dC dI cI cZ cO aX wo g (13 : Int32) _ hO h13) (cwV 1 hts gL_law_X3_told rfl rfl rfl (by decide +kernel) ⟨Nat.le_of_ble_eq_true rfl, Nat.le_of_ble_eq_true rfl⟩) ⟨fb_rd, va_recv hK hPc (ci := 3) (q0 := 0) rfl hv, pre_rd hPc hK hN⟩ rfl rfl hl.1 rfl (lv_room (Nat.le_of_ble_eq_true rfl)) dL_law_186 hro)) (fun z3 hz3 => ?_)
  subst hz3
  refine lv_iload hx hb dL_law_189 (lv_at hl 0 rfl) ?_
  exact lv_icmp_ge (tgt := 196) hx hb dL_law_191 (by decide) (fun _ => kk) (fun c => absurd (nI_le ab (by omega)) c)
set_option maxHeartbeats 4000000 in
theorem law_loop {p : Program} {l : Launch} {e : Env} {s : State} {m : MethodId} {args : Array Value} {below : List Frame} {meth : Method} {c : Code} {cells slots : Nat} {Q : State → Prop} {A : Nat → Prop} {dC : Nat → ClassId} {dI : Nat → Nat → Nat} {cI cZ cO : ClassId} {aX aQ b : Nat} (hx : p.tables.exec = Jvm.exec) (hb : c.code = cL_law) (hml : c.maxLocals = 8) (hown : s.vm.findClass RL = some m.cls) (hts : ∀ w ∈ wsL_law, w.before args s = true) (hA : ∀ q, s.heap.size ≤ q → A q) (hK : va_K (dC, dI) vwCl (tyA cI cZ cO) s) (hN : NW s) (hro : cells ≤ room_1.cells ∧ slots ≤ room_1.slots) {Lx tL tM : Nat} {xs : Nat → Int32} (hX : va_X b Lx xs s s.heap) (hbl : b < s.heap.size) (hbA : ¬ A b) (hLx : Lx ≤ 260) (hST : stA "LEAST" tL F_LEAST A s ∧ stA "MOST" tM F_MOST A s) (kx : ∀ (H : Heap) (locs : List Loc) (ls : Array Slot), va_S A s.heap H locs → W p l e room_1 s m args below meth c H locs cells slots Q (F0 m 207 ls [.int (1 : Int32)])) : ∀ (n k : Nat), k + n = 40 → ∀ (g : GS) (H : Heap) (locs : List Loc) (ls : Array Slot), GI g → gM g ≤ 100 * k → (k = 0 → g.1 18 = nI 0) → LW dC dI cI cZ cO aX aQ A g g H → va_S A s.heap H locs → lv_has ls 8 [(3, .int (nI k)), (2, .ref aQ), (1, .ref aX), (0, .ref b)] → W p l e room_1 s m args below meth c H locs cells slots Q (F0 m 18 ls []) := by
  intro n
  induction n with
  | zero =>
    intro k hk g H locs ls hG hM h0 hW hS hl
    obtain rfl : k = 40 := by omega
    refine lv_iload_n hx hb dL_law_18 rfl (lv_at hl 0 rfl) ?_
    refine lv_bipush (v := (40 : Int32)) hx hb dL_law_19 (by decide) ?_
    refine lv_icmp_ge (tgt := 202) hx hb dL_law_21 (by decide) (fun _ => ?_) (fun c => absurd (show (40 : Int32) ≤ nI 40 by decide) c)
    refine lv_aload_n hx hb dL_law_202 rfl (lv_at hl 2 rfl) ?_
    refine lv_aload_n hx hb dL_law_203 rfl (lv_at hl 1 rfl) ?_
    obtain ⟨wo, wq, hO, hO2, hP, hD⟩ := hW
    have hFc := va_free2 hD hS hA
    refine va_calli (va_runS (As := [.ref aX, .ref aQ]) (rest := []) ⟨hx, hb, hml, hown, hts⟩ (c_L_areAlike l dC dI cI cZ cO aX aQ H.size wo wq g g (1 : Int32) g g hO hO2 (L_areAlike (by omega) hG)) (cwS 2 hts gL_law_L_areAlike rfl rfl rfl (by decide +kernel) ⟨Nat.le_of_ble_eq_true rfl, Nat.le_of_ble_eq_true rfl⟩) ⟨fb_wr, pre_wr hP hK hN hD⟩ rfl rfl hl.1 rfl (lv_room (Nat.le_of_ble_eq_true rfl)) dL_law_204 hro) hS (fun q _ h => hFc q h) hFc (fun z1 wz1 t H1 locs ht hvm hw hB hz1 hk1 hS => ?_)
    obtain ⟨hw, -⟩ := hw
    subst hw
    exact kx H1 locs ls hS
  | succ n ih =>
    intro k hk g H locs ls hG hM h0 hW hS hl
    refine lv_iload_n hx hb dL_law_18 rfl (lv_at hl 0 rfl) ?_
    refine lv_bipush (v := (40 : Int32)) hx hb dL_law_19 (by decide) ?_
    refine lv_icmp_ge (tgt := 202) hx hb dL_law_21 (by decide) (fun c => absurd c (nI_ge (b := 40) (by omega) (by omega))) (fun _ => ?_)
    refine law_24 hx hb hml hown hts hA hK hN hro hX hbl hbA hLx (show k < 40 by omega) (by omega) hG hW hS hl (fun v more x ls hx24 hlow hl => ?_)
    refine law_61 hx hb hml hown hts hA hK hN hro (show k < 40 by omega) (by omega) hG hW hS hl (fun g1 H locs ls hg1 hG1 hM1 hW hS hl => ?_)
    have hJ : g.1 18 = g1.1 18 ∨ g.1 18 = nI 0 := by
      rcases hg1 with q | q
      · exact Or.inr (h0 q)
      · exact Or.inl (by rw [q])
    refine law_84 hx hb hml hown hts hA hK hN hro (M := 100 * k) hST hx24 hlow (by omega) (by omega) hG1 hJ hW hS hl (fun g2 H locs ls hF hW hS hl => ?_)
    have hM2 := hF.2.1
    refine law_112 hx hb hml hown hts hA hK hN hro (by omega) hF.1 hW hS hl (fun H locs ls hW hS hl => ?_)
    refine law_154 hx hb hml hown hts hA hK hN hro hx24 (by omega) hF hW hl ?_
    have e3 : nI k + Int32.ofInt 1 = nI (k + 1) := by
      rw [show Int32.ofInt 1 = nI 1 by decide]
      exact nI_add k 1
    refine lv_iinc (v := nI (k + 1)) (lv' := [(3, .int (nI (k + 1))), (7, .int (g.1 18)), (6, .int (nI x)), (5, .int more), (4, .int v), (2, .ref aQ), (1, .ref aX), (0, .ref b)]) hx hb dL_law_196 hl (k := 4) rfl e3 (by decide) rfl (fun ls hl => ?_)
    refine lv_goto (tgt := 18) hx hb dL_law_199 (by decide) ?_
    exact ih (k + 1) (by omega) g2 H locs ls hF.1 (by omega) (fun q => absurd q (by omega)) hW hS (lv_sub hl [0, 5, 6, 7] rfl)
