def f_L_areAlike_20 (v_g0 : GS) (v_g1 : GS) : Nat → Int32 → Int32 → Option (Int32 × GS × GS)
  | 0, _, _ => none
  | n + 1, x2, x3 =>
    if (18 : Int32) ≤ x3 then
      if x2 = (0 : Int32) then
        some ((0 : Int32), v_g0, v_g1)
      else
        (g_rehearse (3 : Int32) (0 : Int32) v_g0).bind fun q62 =>
        (g_rehearse (3 : Int32) (0 : Int32) v_g1).bind fun q68 =>
        if q62.1 = q68.1 then
          (g_rehearse (2 : Int32) (3 : Int32) q62.2).bind fun q77 =>
          (g_rehearse (2 : Int32) (3 : Int32) q68.2).bind fun q83 =>
          if q77.1 = q83.1 then
            some ((1 : Int32), q77.2, q83.2)
          else
            some ((0 : Int32), q77.2, q83.2)
        else
          some ((0 : Int32), q62.2, q68.2)
    else
      if x2 = (0 : Int32) then
        f_L_areAlike_20 v_g0 v_g1 n (0 : Int32) (x3 + 1)
      else
        (g_told x3 v_g0).bind fun q32 =>
        (g_told x3 v_g1).bind fun q37 =>
        if q32 = q37 then
          f_L_areAlike_20 v_g0 v_g1 n (1 : Int32) (x3 + 1)
        else
          f_L_areAlike_20 v_g0 v_g1 n (0 : Int32) (x3 + 1)
def f_L_areAlike (v_g0 : GS) (v_g1 : GS) : Option (Int32 × GS × GS) :=
  (g_mean v_g0).bind fun q1 =>
  (g_mean v_g1).bind fun q5 =>
  if (Op.cmpValue (FP.fcmp q1 q5) .l) = (0 : Int32) then
    f_L_areAlike_20 v_g0 v_g1 gas (1 : Int32) (0 : Int32)
  else
    f_L_areAlike_20 v_g0 v_g1 gas (0 : Int32) (0 : Int32)
def rm_L_areAlike : Room := { frames := 7, cells := 0, slots := 0, locals := 160 }
set_option maxHeartbeats 4000000 in
set_option maxRecDepth 100000 in
theorem c_L_areAlike (l : Launch) (dC : Nat → ClassId) (dI : Nat → Nat → Nat) (cI cZ cO : ClassId) (o0 o1 : Nat) (sz : Nat) (w0 w1 : va_W) (v_g0 v_g1 : GS) (r : Int32) (o_g0 o_g1 : GS) (hO0 : OB cI cZ cO o0 v_g0 w0) (hO1 : OB cI cZ cO o1 v_g1 w1) (hF : f_L_areAlike v_g0 v_g1 = some (r, o_g0, o_g1)) : Met l yL_areAlike wsL_areAlike rm_L_areAlike (va_Pc [.ref o0, .ref o1] (wrW dC dI cI cZ cO sz (w0 ++ w1))) (va_Qi (fun (q : Int32) (u : va_W × va_W) => r = q ∧ OB cI cZ cO o0 o_g0 u.1 ∧ OB cI cZ cO o1 o_g1 u.2) (fun u t => va_P (dC, dI) vwCl (u.1 ++ u.2) t.heap ∧ va_D (va_A (w0 ++ w1) sz) (u.1 ++ u.2)) (va_A (w0 ++ w1) sz)) 0 0 (va_A (w0 ++ w1) sz) := by
  refine Met.ofW (cc := cL_areAlike) (maxL := 4) (ret := (some .boolean)) (by decide) rfl ?_
  intro p e s m args below meth c s₁ B hml hv
  obtain ⟨rfl, hsz, hP, hK, hN, hD0⟩ := hv
  have hx := B.exec
  have hb := B.bytes
  have hr := B.returns
  have hts := atoms_spec (ws := wsL_areAlike) B.pre
  have hown : s.vm.findClass RL = some m.cls := findClass_of_methodNamed B.named
  have hlocks := B.notSynchronized
  subst hsz
  have hD := hD0.self (sz := s.heap.size)
  obtain ⟨Q, hQ⟩ : ∃ Q, Q = MQ below (va_Qi (fun (q : Int32) (u : va_W × va_W) => r = q ∧ OB cI cZ cO o0 o_g0 u.1 ∧ OB cI cZ cO o1 o_g1 u.2) (fun u t => va_P (dC, dI) vwCl (u.1 ++ u.2) t.heap ∧ va_D (va_A (w0 ++ w1) s.heap.size) (u.1 ++ u.2)) (va_A (w0 ++ w1) s.heap.size)) ([.ref o0, .ref o1] : List Value).toArray s 0 0 (va_A (w0 ++ w1) s.heap.size) := ⟨_, rfl⟩
  rw [← hQ]
  obtain ⟨A, hAe⟩ : ∃ A, A = va_A (w0 ++ w1) s.heap.size := ⟨_, rfl⟩
  rw [← hAe] at hD
  have hA : ∀ q : Nat, s.heap.size ≤ q → A q := fun q h => by rw [hAe]; exact Or.inr h
  obtain ⟨H, hH⟩ : ∃ H, H = s.heap := ⟨_, rfl⟩
  have hS : va_S A s.heap H [] := by rw [hH]; exact va_S.rf
  rw [← hH] at hP
  rw [← hH]
  have hl := lv_entry ([.ref o0, .ref o1]) (n := 4) (Nat.le_of_ble_eq_true rfl)
  rw [lg_entry_eq]
  generalize (lg_sl ([.ref o0, .ref o1]) ++ List.replicate (4 - (lg_sl ([.ref o0, .ref o1])).length) Slot.unset).toArray = ls at hl ⊢
  have hl : lv_has ls 4 [(0, .ref o0), (1, .ref o1)] := hl
  have B20 : ∀ (n_20 : Nat) (v_g0_20 : GS) (v_g1_20 : GS) (x2_20 : Int32) (x3_20 : Int32), f_L_areAlike_20 v_g0_20 v_g1_20 n_20 x2_20 x3_20 = some (r, o_g0, o_g1) → ∀ (w0_20 w1_20 : va_W), OB cI cZ cO o0 v_g0_20 w0_20 → OB cI cZ cO o1 v_g1_20 w1_20 → ∀ (H : Heap) (locs : List Loc), va_P (dC, dI) vwCl (w0_20 ++ w1_20) H → va_D A (w0_20 ++ w1_20) → va_S A s.heap H locs → ∀ ls : Array Slot, lv_has ls 4 [(0, .ref o0), (1, .ref o1), (2, .int x2_20), (3, .int x3_20)] → W p l e (headSpec wsL_areAlike rm_L_areAlike).room s m ([.ref o0, .ref o1] : List Value).toArray below meth c H locs 0 0 Q (F0 m 20 ls []) := by
    intro n_20
    induction n_20 with
    | zero => intro v_g0_20 v_g1_20 x2_20 x3_20 hF; exact noneE hF
    | succ n_20 ih20 =>
      intro v_g0_20 v_g1_20 x2_20 x3_20 hF w0_20 w1_20 hO0_20 hO1_20 H locs hP hD hS ls hl
      rw [f_L_areAlike_20] at hF
      refine lv_iload_n hx hb dL_areAlike_20 rfl (lv_at hl 3 rfl) ?_
      refine lv_bipush (v := (18 : Int32)) hx hb dL_areAlike_21 (by decide) ?_
      refine lv_icmp_ge (tgt := 55) hx hb dL_areAlike_23 (by decide) (fun c_23 => ?_) (fun c_23 => ?_)
      · have hF := (if_pos c_23).symm.trans hF
        refine lv_iload_n hx hb dL_areAlike_55 rfl (lv_at hl 2 rfl) ?_
        refine lv_if_eq (tgt := 93) hx hb dL_areAlike_56 (by decide) (fun c_56 => ?_) (fun c_56 => ?_)
        · have hF := (if_pos c_56).symm.trans hF
          refine lv_iconst (v := (0 : Int32)) hx hb dL_areAlike_93 (by decide) ?_
          have hF : some ((0 : Int32), v_g0_20, v_g1_20) = some (r, o_g0, o_g1) := hF
          cases hF
          subst hQ
          subst hAe
          exact W.zret (ty := .boolean) hx hb hr rfl (fun t ht hW => ⟨⟨_, (w0_20, w1_20), rfl, ⟨rfl, hO0_20, hO1_20⟩, ⟨by rw [ht]; exact hP, hD⟩⟩, hS.F ht⟩) hS.2.2 dL_areAlike_94
        · have hF := (if_neg c_56).symm.trans hF
          refine lv_aload_n hx hb dL_areAlike_59 rfl (lv_at hl 0 rfl) ?_
          refine lv_iconst (v := (3 : Int32)) hx hb dL_areAlike_60 (by decide) ?_
          refine lv_iconst (v := (0 : Int32)) hx hb dL_areAlike_61 (by decide) ?_
          obtain ⟨q_62, hq_62, hF⟩ := bindE hF
          obtain ⟨r_62, u_62⟩ := q_62
          have hP := hP.perm List.perm_append_comm
          have hD := hD.perm List.perm_append_comm
          have hPc := hP.right
          have hDc := hD.right
          have hFc := va_free2 hDc hS hA
          obtain ⟨vs_62, hv_62⟩ := OB_recv hO0_20
          refine va_calli (va_runV (As := [.int (3 : Int32), .int (0 : Int32)]) (rest := []) ⟨hx, hb, hml, hown, hts⟩ (o_rehearse l dC dI cI cZ cO o0 H.size w0_20 v_g0_20 (3 : Int32) (0 : Int32) r_62 u_62 hO0_20 hq_62) (cwV 2 hts gL_areAlike_X3_rehearse rfl rfl rfl (by decide +kernel) ⟨Nat.le_of_ble_eq_true rfl, Nat.le_of_ble_eq_true rfl⟩) ⟨fb_wr, va_recv hK hPc (ci := 3) (q0 := 0) rfl hv_62, pre_wr hPc hK hN hDc⟩ rfl rfl hl.1 rfl (lv_room (Nat.le_of_ble_eq_true rfl)) dL_areAlike_62 ⟨Nat.zero_le _, Nat.zero_le _⟩) hS (fun q _ h => hFc q h) hFc (fun z_62 x_62 t H1 locs ht hvm hw hB hz1 hk1 hS => ?_)
          obtain ⟨hw, hO_62⟩ := hw
          subst hw
          obtain ⟨hP1, hD1⟩ := hB
          rw [ht] at hP1
          obtain ⟨hP, hD⟩ := joinPerm hP hD hk1 hFc hP1 hD1
          have hP := hP.perm List.perm_append_comm
          have hD := hD.perm List.perm_append_comm
          generalize H1 = H at hP hS ⊢
          refine lv_aload_n hx hb dL_areAlike_65 rfl (lv_at hl 1 rfl) ?_
          refine lv_iconst (v := (3 : Int32)) hx hb dL_areAlike_66 (by decide) ?_
          refine lv_iconst (v := (0 : Int32)) hx hb dL_areAlike_67 (by decide) ?_
          obtain ⟨q_68, hq_68, hF⟩ := bindE hF
          obtain ⟨r_68, u_68⟩ := q_68
          have hPc := hP.right
          have hDc := hD.right
          have hFc := va_free2 hDc hS hA
          obtain ⟨vs_68, hv_68⟩ := OB_recv hO1_20
          refine va_calli (va_runV (As := [.int (3 : Int32), .int (0 : Int32)]) (rest := [.int r_62]) ⟨hx, hb, hml, hown, hts⟩ (o_rehearse l dC dI cI cZ cO o1 H.size w1_20 v_g1_20 (3 : Int32) (0 : Int32) r_68 u_68 hO1_20 hq_68) (cwV 2 hts gL_areAlike_X3_rehearse rfl rfl rfl (by decide +kernel) ⟨Nat.le_of_ble_eq_true rfl, Nat.le_of_ble_eq_true rfl⟩) ⟨fb_wr, va_recv hK hPc (ci := 3) (q0 := 0) rfl hv_68, pre_wr hPc hK hN hDc⟩ rfl rfl hl.1 rfl (lv_room (Nat.le_of_ble_eq_true rfl)) dL_areAlike_68 ⟨Nat.zero_le _, Nat.zero_le _⟩) hS (fun q _ h => hFc q h) hFc (fun z_68 x_68 t H1 locs ht hvm hw hB hz1 hk1 hS => ?_)
          obtain ⟨hw, hO_68⟩ := hw
          subst hw
          obtain ⟨hP1, hD1⟩ := hB
          rw [ht] at hP1
          obtain ⟨hP, hD⟩ := joinPerm hP hD hk1 hFc hP1 hD1
          generalize H1 = H at hP hS ⊢
          refine lv_icmp_ne (tgt := 93) hx hb dL_areAlike_71 (by decide) (fun c_71 => ?_) (fun c_71 => ?_)
          · have hF := (if_neg c_71).symm.trans hF
            refine lv_iconst (v := (0 : Int32)) hx hb dL_areAlike_93 (by decide) ?_
            have hF : some ((0 : Int32), u_62, u_68) = some (r, o_g0, o_g1) := hF
            cases hF
            subst hQ
            subst hAe
            exact W.zret (ty := .boolean) hx hb hr rfl (fun t ht hW => ⟨⟨_, (x_62, x_68), rfl, ⟨rfl, hO_62, hO_68⟩, ⟨by rw [ht]; exact hP, hD⟩⟩, hS.F ht⟩) hS.2.2 dL_areAlike_94
          · have hF := (if_pos c_71).symm.trans hF
            refine lv_aload_n hx hb dL_areAlike_74 rfl (lv_at hl 0 rfl) ?_
            refine lv_iconst (v := (2 : Int32)) hx hb dL_areAlike_75 (by decide) ?_
            refine lv_iconst (v := (3 : Int32)) hx hb dL_areAlike_76 (by decide) ?_
            obtain ⟨q_77, hq_77, hF⟩ := bindE hF
            obtain ⟨r_77, u_77⟩ := q_77
            have hP := hP.perm List.perm_append_comm
            have hD := hD.perm List.perm_append_comm
            have hPc := hP.right
            have hDc := hD.right
            have hFc := va_free2 hDc hS hA
            obtain ⟨vs_77, hv_77⟩ := OB_recv hO_62
            refine va_calli (va_runV (As := [.int (2 : Int32), .int (3 : Int32)]) (rest := []) ⟨hx, hb, hml, hown, hts⟩ (o_rehearse l dC dI cI cZ cO o0 H.size x_62 u_62 (2 : Int32) (3 : Int32) r_77 u_77 hO_62 hq_77) (cwV 2 hts gL_areAlike_X3_rehearse rfl rfl rfl (by decide +kernel) ⟨Nat.le_of_ble_eq_true rfl, Nat.le_of_ble_eq_true rfl⟩) ⟨fb_wr, va_recv hK hPc (ci := 3) (q0 := 0) rfl hv_77, pre_wr hPc hK hN hDc⟩ rfl rfl hl.1 rfl (lv_room (Nat.le_of_ble_eq_true rfl)) dL_areAlike_77 ⟨Nat.zero_le _, Nat.zero_le _⟩) hS (fun q _ h => hFc q h) hFc (fun z_77 x_77 t H1 locs ht hvm hw hB hz1 hk1 hS => ?_)
            obtain ⟨hw, hO_77⟩ := hw
            subst hw
            obtain ⟨hP1, hD1⟩ := hB
            rw [ht] at hP1
            obtain ⟨hP, hD⟩ := joinPerm hP hD hk1 hFc hP1 hD1
            have hP := hP.perm List.perm_append_comm
            have hD := hD.perm List.perm_append_comm
            generalize H1 = H at hP hS ⊢
            refine lv_aload_n hx hb dL_areAlike_80 rfl (lv_at hl 1 rfl) ?_
            refine lv_iconst (v := (2 : Int32)) hx hb dL_areAlike_81 (by decide) ?_
            refine lv_iconst (v := (3 : Int32)) hx hb dL_areAlike_82 (by decide) ?_
            obtain ⟨q_83, hq_83, hF⟩ := bindE hF
            obtain ⟨r_83, u_83⟩ := q_83
            have hPc := hP.right
            have hDc := hD.right
            have hFc := va_free2 hDc hS hA
            obtain ⟨vs_83, hv_83⟩ := OB_recv hO_68
            refine va_calli (va_runV (As := [.int (2 : Int32), .int (3 : Int32)]) (rest := [.int r_77]) ⟨hx, hb, hml, hown, hts⟩ (o_rehearse l dC dI cI cZ cO o1 H.size x_68 u_68 (2 : Int32) (3 : Int32) r_83 u_83 hO_68 hq_83) (cwV 2 hts gL_areAlike_X3_rehearse rfl rfl rfl (by decide +kernel) ⟨Nat.le_of_ble_eq_true rfl, Nat.le_of_ble_eq_true rfl⟩) ⟨fb_wr, va_recv hK hPc (ci := 3) (q0 := 0) rfl hv_83, pre_wr hPc hK hN hDc⟩ rfl rfl hl.1 rfl (lv_room (Nat.le_of_ble_eq_true rfl)) dL_areAlike_83 ⟨Nat.zero_le _, Nat.zero_le _⟩) hS (fun q _ h => hFc q h) hFc (fun z_83 x_83 t H1 locs ht hvm hw hB hz1 hk1 hS => ?_)
            obtain ⟨hw, hO_83⟩ := hw
            subst hw
            obtain ⟨hP1, hD1⟩ := hB
            rw [ht] at hP1
            obtain ⟨hP, hD⟩ := joinPerm hP hD hk1 hFc hP1 hD1
            generalize H1 = H at hP hS ⊢
            refine lv_icmp_ne (tgt := 93) hx hb dL_areAlike_86 (by decide) (fun c_86 => ?_) (fun c_86 => ?_)
            · have hF := (if_neg c_86).symm.trans hF
              refine lv_iconst (v := (0 : Int32)) hx hb dL_areAlike_93 (by decide) ?_
              have hF : some ((0 : Int32), u_77, u_83) = some (r, o_g0, o_g1) := hF
              cases hF
              subst hQ
              subst hAe
              exact W.zret (ty := .boolean) hx hb hr rfl (fun t ht hW => ⟨⟨_, (x_77, x_83), rfl, ⟨rfl, hO_77, hO_83⟩, ⟨by rw [ht]; exact hP, hD⟩⟩, hS.F ht⟩) hS.2.2 dL_areAlike_94
            · have hF := (if_pos c_86).symm.trans hF
              refine lv_iconst (v := (1 : Int32)) hx hb dL_areAlike_89 (by decide) ?_
              refine lv_goto (tgt := 94) hx hb dL_areAlike_90 (by decide) ?_
              have hF : some ((1 : Int32), u_77, u_83) = some (r, o_g0, o_g1) := hF
              cases hF
              subst hQ
              subst hAe
              exact W.zret (ty := .boolean) hx hb hr rfl (fun t ht hW => ⟨⟨_, (x_77, x_83), rfl, ⟨rfl, hO_77, hO_83⟩, ⟨by rw [ht]; exact hP, hD⟩⟩, hS.F ht⟩) hS.2.2 dL_areAlike_94
      · have hF := (if_neg c_23).symm.trans hF
        refine lv_iload_n hx hb dL_areAlike_26 rfl (lv_at hl 2 rfl) ?_
        refine lv_if_eq (tgt := 47) hx hb dL_areAlike_27 (by decide) (fun c_27 => ?_) (fun c_27 => ?_)
        · have hF := (if_pos c_27).symm.trans hF
          refine lv_iconst (v := (0 : Int32)) hx hb dL_areAlike_47 (by decide) ?_
          refine lv_istore_n (lv' := [(2, .int (0 : Int32)), (0, .ref o0), (1, .ref o1), (3, .int x3_20)]) hx hb dL_areAlike_48 rfl hl (by decide) rfl (fun ls hl => ?_)
          refine lv_iinc (v := (x3_20 + 1)) (lv' := [(3, .int (x3_20 + 1)), (2, .int (0 : Int32)), (0, .ref o0), (1, .ref o1)]) hx hb dL_areAlike_49 hl (k := 3) rfl rfl (by decide) rfl (fun ls hl => ?_)
          refine lv_goto (tgt := 20) hx hb dL_areAlike_52 (by decide) ?_
          exact ih20 v_g0_20 v_g1_20 (0 : Int32) (x3_20 + 1) hF _ _ hO0_20 hO1_20 _ _ hP hD hS _ (lv_sub hl [2, 3, 1, 0] rfl)
        · have hF := (if_neg c_27).symm.trans hF
          refine lv_aload_n hx hb dL_areAlike_30 rfl (lv_at hl 0 rfl) ?_
          refine lv_iload_n hx hb dL_areAlike_31 rfl (lv_at hl 3 rfl) ?_
          obtain ⟨q_32, hq_32, hF⟩ := bindE hF
          have hPc := va_P.left hP
          obtain ⟨vs_32, hv_32⟩ := OB_recv hO0_20
          refine vp_callSi (va_Run.run (va_runV (As := [.int x3_20]) (rest := []) ⟨hx, hb, hml, hown, hts⟩ (o_told l dC dI cI cZ cO o0 w0_20 v_g0_20 x3_20 q_32 hO0_20 hq_32) (cwV 1 hts gL_areAlike_X3_told rfl rfl rfl (by decide +kernel) ⟨Nat.le_of_ble_eq_true rfl, Nat.le_of_ble_eq_true rfl⟩) ⟨fb_rd, va_recv hK hPc (ci := 3) (q0 := 0) rfl hv_32, pre_rd hPc hK hN⟩ rfl rfl hl.1 rfl (lv_room (Nat.le_of_ble_eq_true rfl)) dL_areAlike_32 ⟨Nat.zero_le _, Nat.zero_le _⟩)) (fun z_32 hz_32 => ?_)
          subst hz_32
          refine lv_aload_n hx hb dL_areAlike_35 rfl (lv_at hl 1 rfl) ?_
          refine lv_iload_n hx hb dL_areAlike_36 rfl (lv_at hl 3 rfl) ?_
          obtain ⟨q_37, hq_37, hF⟩ := bindE hF
          have hPc := hP.right
          obtain ⟨vs_37, hv_37⟩ := OB_recv hO1_20
          refine vp_callSi (va_Run.run (va_runV (As := [.int x3_20]) (rest := [.int q_32]) ⟨hx, hb, hml, hown, hts⟩ (o_told l dC dI cI cZ cO o1 w1_20 v_g1_20 x3_20 q_37 hO1_20 hq_37) (cwV 1 hts gL_areAlike_X3_told rfl rfl rfl (by decide +kernel) ⟨Nat.le_of_ble_eq_true rfl, Nat.le_of_ble_eq_true rfl⟩) ⟨fb_rd, va_recv hK hPc (ci := 3) (q0 := 0) rfl hv_37, pre_rd hPc hK hN⟩ rfl rfl hl.1 rfl (lv_room (Nat.le_of_ble_eq_true rfl)) dL_areAlike_37 ⟨Nat.zero_le _, Nat.zero_le _⟩)) (fun z_37 hz_37 => ?_)
          subst hz_37
          refine lv_icmp_ne (tgt := 47) hx hb dL_areAlike_40 (by decide) (fun c_40 => ?_) (fun c_40 => ?_)
          · have hF := (if_neg c_40).symm.trans hF
            refine lv_iconst (v := (0 : Int32)) hx hb dL_areAlike_47 (by decide) ?_
            refine lv_istore_n (lv' := [(2, .int (0 : Int32)), (0, .ref o0), (1, .ref o1), (3, .int x3_20)]) hx hb dL_areAlike_48 rfl hl (by decide) rfl (fun ls hl => ?_)
            refine lv_iinc (v := (x3_20 + 1)) (lv' := [(3, .int (x3_20 + 1)), (2, .int (0 : Int32)), (0, .ref o0), (1, .ref o1)]) hx hb dL_areAlike_49 hl (k := 3) rfl rfl (by decide) rfl (fun ls hl => ?_)
            refine lv_goto (tgt := 20) hx hb dL_areAlike_52 (by decide) ?_
            exact ih20 v_g0_20 v_g1_20 (0 : Int32) (x3_20 + 1) hF _ _ hO0_20 hO1_20 _ _ hP hD hS _ (lv_sub hl [2, 3, 1, 0] rfl)
          · have hF := (if_pos c_40).symm.trans hF
            refine lv_iconst (v := (1 : Int32)) hx hb dL_areAlike_43 (by decide) ?_
            refine lv_goto (tgt := 48) hx hb dL_areAlike_44 (by decide) ?_
            refine lv_istore_n (lv' := [(2, .int (1 : Int32)), (0, .ref o0), (1, .ref o1), (3, .int x3_20)]) hx hb dL_areAlike_48 rfl hl (by decide) rfl (fun ls hl => ?_)
            refine lv_iinc (v := (x3_20 + 1)) (lv' := [(3, .int (x3_20 + 1)), (2, .int (1 : Int32)), (0, .ref o0), (1, .ref o1)]) hx hb dL_areAlike_49 hl (k := 3) rfl rfl (by decide) rfl (fun ls hl => ?_)
            refine lv_goto (tgt := 20) hx hb dL_areAlike_52 (by decide) ?_
            exact ih20 v_g0_20 v_g1_20 (1 : Int32) (x3_20 + 1) hF _ _ hO0_20 hO1_20 _ _ hP hD hS _ (lv_sub hl [2, 3, 1, 0] rfl)
  unfold f_L_areAlike at hF
  refine lv_aload_n hx hb dL_areAlike_0 rfl (lv_at hl 0 rfl) ?_
  obtain ⟨q_1, hq_1, hF⟩ := bindE hF
  have hPc := va_P.left hP
  obtain ⟨vs_1, hv_1⟩ := OB_recv hO0
  refine vp_callSf (va_Run.run (va_runV (As := []) (rest := []) ⟨hx, hb, hml, hown, hts⟩ (o_mean l dC dI cI cZ cO o0 w0 v_g0 q_1 hO0 hq_1) (cwV 0 hts gL_areAlike_X3_mean rfl rfl rfl (by decide +kernel) ⟨Nat.le_of_ble_eq_true rfl, Nat.le_of_ble_eq_true rfl⟩) ⟨fb_rd, va_recv hK hPc (ci := 3) (q0 := 0) rfl hv_1, pre_rd hPc hK hN⟩ rfl rfl hl.1 rfl (lv_room (Nat.le_of_ble_eq_true rfl)) dL_areAlike_1 ⟨Nat.zero_le _, Nat.zero_le _⟩)) (fun z_1 hz_1 => ?_)
  subst hz_1
  refine lv_aload_n hx hb dL_areAlike_4 rfl (lv_at hl 1 rfl) ?_
  obtain ⟨q_5, hq_5, hF⟩ := bindE hF
  have hPc := hP.right
  obtain ⟨vs_5, hv_5⟩ := OB_recv hO1
  refine vp_callSf (va_Run.run (va_runV (As := []) (rest := [.float q_1]) ⟨hx, hb, hml, hown, hts⟩ (o_mean l dC dI cI cZ cO o1 w1 v_g1 q_5 hO1 hq_5) (cwV 0 hts gL_areAlike_X3_mean rfl rfl rfl (by decide +kernel) ⟨Nat.le_of_ble_eq_true rfl, Nat.le_of_ble_eq_true rfl⟩) ⟨fb_rd, va_recv hK hPc (ci := 3) (q0 := 0) rfl hv_5, pre_rd hPc hK hN⟩ rfl rfl hl.1 rfl (lv_room (Nat.le_of_ble_eq_true rfl)) dL_areAlike_5 ⟨Nat.zero_le _, Nat.zero_le _⟩)) (fun z_5 hz_5 => ?_)
  subst hz_5
  refine lv_fcmp hx hb dL_areAlike_8 ?_
  refine lv_if_ne (tgt := 16) hx hb dL_areAlike_9 (by decide) (fun c_9 => ?_) (fun c_9 => ?_)
  · have hF := (if_neg c_9).symm.trans hF
    refine lv_iconst (v := (0 : Int32)) hx hb dL_areAlike_16 (by decide) ?_
    refine lv_istore_n (lv' := [(2, .int (0 : Int32)), (0, .ref o0), (1, .ref o1)]) hx hb dL_areAlike_17 rfl hl (by decide) rfl (fun ls hl => ?_)
    refine lv_iconst (v := (0 : Int32)) hx hb dL_areAlike_18 (by decide) ?_
    refine lv_istore_n (lv' := [(3, .int (0 : Int32)), (2, .int (0 : Int32)), (0, .ref o0), (1, .ref o1)]) hx hb dL_areAlike_19 rfl hl (by decide) rfl (fun ls hl => ?_)
    exact B20 gas v_g0 v_g1 (0 : Int32) (0 : Int32) hF _ _ hO0 hO1 _ _ hP hD hS _ (lv_sub hl [2, 3, 1, 0] rfl)
  · have hF := (if_pos c_9).symm.trans hF
    refine lv_iconst (v := (1 : Int32)) hx hb dL_areAlike_12 (by decide) ?_
    refine lv_goto (tgt := 17) hx hb dL_areAlike_13 (by decide) ?_
    refine lv_istore_n (lv' := [(2, .int (1 : Int32)), (0, .ref o0), (1, .ref o1)]) hx hb dL_areAlike_17 rfl hl (by decide) rfl (fun ls hl => ?_)
    refine lv_iconst (v := (0 : Int32)) hx hb dL_areAlike_18 (by decide) ?_
    refine lv_istore_n (lv' := [(3, .int (0 : Int32)), (2, .int (1 : Int32)), (0, .ref o0), (1, .ref o1)]) hx hb dL_areAlike_19 rfl hl (by decide) rfl (fun ls hl => ?_)
    exact B20 gas v_g0 v_g1 (1 : Int32) (0 : Int32) hF _ _ hO0 hO1 _ _ hP hD hS _ (lv_sub hl [2, 3, 1, 0] rfl)
