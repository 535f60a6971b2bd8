def f_L_areRows_300 (v_g0 : GS) (x1 : Int32) (x2 : Int32) (x3 : Int32) (x4 : Int32) (x5 : Int32) (x6 : Int32) (x8 : Int32) (s0 : Int32) : Option Int32 :=
  if x3 = x2 then
      (g_told (2 : Int32) v_g0).bind fun q311 =>
      if x4 = (q311 - (1 : Int32)) then
        (g_told (3 : Int32) v_g0).bind fun q323 =>
        if x5 = q323 then
          (g_told (16 : Int32) v_g0).bind fun q334 =>
          if x6 = q334 then
            if x8 < (0 : Int32) then
              some (0 : Int32)
            else
              if s0 < x8 then
                some (0 : Int32)
              else
                (g_told (9 : Int32) v_g0).bind fun q355 =>
                if q355 < (0 : Int32) then
                  some (0 : Int32)
                else
                  (g_told (9 : Int32) v_g0).bind fun q364 =>
                  if s0 < q364 then
                    some (0 : Int32)
                  else
                    (g_row x1 (0 : Int32) v_g0).bind fun q375 =>
                    if q375 = (-1 : Int32) then
                      some (1 : Int32)
                    else
                      some (0 : Int32)
          else
            some (0 : Int32)
        else
          some (0 : Int32)
      else
        some (0 : Int32)
    else
      some (0 : Int32)
def f_L_areRows_244 (k42 : Int32 → Int32 → Int32 → Int32 → Int32 → Option Int32) (k94 : Int32 → Int32 → Int32 → Int32 → Option Int32) (x4 : Int32) (x6 : Int32) (x12 : Int32) (x14 : Int32) (s0 : Int32) : Option Int32 :=
  if x14 = (1 : Int32) then
      if (0 : Int32) ≤ x6 then
        k94 x4 s0 x6 (x12 + 1)
      else
        k94 x4 s0 x12 (x12 + 1)
    else
      k94 x4 s0 x6 (x12 + 1)
def f_L_areRows_217 (k42 : Int32 → Int32 → Int32 → Int32 → Int32 → Option Int32) (k94 : Int32 → Int32 → Int32 → Int32 → Option Int32) (x5 : Int32) (x6 : Int32) (x12 : Int32) (x13 : Int32) (x14 : Int32) (s0 : Int32) : Option Int32 :=
  if s0 = (0 : Int32) then
      some (0 : Int32)
    else
      if x14 ≤ (0 : Int32) then
        f_L_areRows_244 k42 k94 x13 x6 x12 x14 x5
      else
        f_L_areRows_244 k42 k94 x13 x6 x12 x14 (x5 + (1 : Int32))
def f_L_areRows_216 (k42 : Int32 → Int32 → Int32 → Int32 → Int32 → Option Int32) (k94 : Int32 → Int32 → Int32 → Int32 → Option Int32) (x5 : Int32) (x6 : Int32) (x12 : Int32) (x13 : Int32) (x14 : Int32) : Option Int32 :=
  f_L_areRows_217 k42 k94 x5 x6 x12 x13 x14 (0 : Int32)
def f_L_areRows_209 (k42 : Int32 → Int32 → Int32 → Int32 → Int32 → Option Int32) (k94 : Int32 → Int32 → Int32 → Int32 → Option Int32) (x5 : Int32) (x6 : Int32) (x12 : Int32) (x13 : Int32) (x14 : Int32) (s0 : Int32) (s1 : Int32) : Option Int32 :=
  if s0 = s1 then
      f_L_areRows_217 k42 k94 x5 x6 x12 x13 x14 (1 : Int32)
    else
      f_L_areRows_216 k42 k94 x5 x6 x12 x13 x14
def f_L_areRows_192 (k42 : Int32 → Int32 → Int32 → Int32 → Int32 → Option Int32) (k94 : Int32 → Int32 → Int32 → Int32 → Option Int32) (v_g0 : GS) (x5 : Int32) (x6 : Int32) (x12 : Int32) (x13 : Int32) (x14 : Int32) (x15 : Int32) : Option Int32 :=
  (g_word x12 (4 : Int32) v_g0).bind fun q196 =>
    if x15 = (0 : Int32) then
      f_L_areRows_209 k42 k94 x5 x6 x12 x13 x14 q196 (0 : Int32)
    else
      f_L_areRows_209 k42 k94 x5 x6 x12 x13 x14 q196 (1 : Int32)
def f_L_areRows_155 (k42 : Int32 → Int32 → Int32 → Int32 → Int32 → Option Int32) (k94 : Int32 → Int32 → Int32 → Int32 → Option Int32) (v_g0 : GS) (x4 : Int32) (x5 : Int32) (x6 : Int32) (x9 : Int32) (x10 : Int32) (x12 : Int32) (x13 : Int32) (x14 : Int32) (s0 : Int32) : Option Int32 :=
  (g_word x12 (1 : Int32) v_g0).bind fun q161 =>
    if q161 = x9 then
      if x13 = x4 then
        f_L_areRows_192 k42 k94 v_g0 x5 x6 x12 x13 x14 s0
      else
        if x13 = (x4 + (1 : Int32)) then
          if x12 = x10 then
            f_L_areRows_192 k42 k94 v_g0 x5 x6 x12 x13 x14 s0
          else
            f_L_areRows_216 k42 k94 x5 x6 x12 x13 x14
        else
          f_L_areRows_216 k42 k94 x5 x6 x12 x13 x14
    else
      f_L_areRows_216 k42 k94 x5 x6 x12 x13 x14
def f_L_areRows_154 (k42 : Int32 → Int32 → Int32 → Int32 → Int32 → Option Int32) (k94 : Int32 → Int32 → Int32 → Int32 → Option Int32) (v_g0 : GS) (x4 : Int32) (x5 : Int32) (x6 : Int32) (x9 : Int32) (x10 : Int32) (x12 : Int32) (x13 : Int32) (x14 : Int32) : Option Int32 :=
  f_L_areRows_155 k42 k94 v_g0 x4 x5 x6 x9 x10 x12 x13 x14 (0 : Int32)
def f_L_areRows_94 (k42 : Int32 → Int32 → Int32 → Int32 → Int32 → Option Int32) (v_g0 : GS) (x3 : Int32) (x7 : Int32) (x8 : Int32) (x9 : Int32) (x10 : Int32) (x11 : Int32) : Nat → Int32 → Int32 → Int32 → Int32 → Option Int32
  | 0, _, _, _, _ => none
  | n + 1, x4, x5, x6, x12 =>
    if (x10 + x11) ≤ x12 then
      k42 (x3 + x11) x4 x5 x6 (x9 + 1)
    else
      (g_word x12 (2 : Int32) v_g0).bind fun q108 =>
      (g_word x12 (3 : Int32) v_g0).bind fun q117 =>
      if ((100 : Int32) * x9) < x8 then
        f_L_areRows_154 k42 (f_L_areRows_94 k42 v_g0 x3 x7 x8 x9 x10 x11 n) v_g0 x4 x5 x6 x9 x10 x12 q108 q117
      else
        if (x8 + ((100 : Int32) * (x7 - (1 : Int32)))) < ((100 : Int32) * x9) then
          f_L_areRows_154 k42 (f_L_areRows_94 k42 v_g0 x3 x7 x8 x9 x10 x11 n) v_g0 x4 x5 x6 x9 x10 x12 q108 q117
        else
          f_L_areRows_155 k42 (f_L_areRows_94 k42 v_g0 x3 x7 x8 x9 x10 x11 n) v_g0 x4 x5 x6 x9 x10 x12 q108 q117 (1 : Int32)
def f_L_areRows_42 (v_g0 : GS) (x1 : Int32) (x2 : Int32) (x7 : Int32) (x8 : Int32) : Nat → Int32 → Int32 → Int32 → Int32 → Int32 → Option Int32
  | 0, _, _, _, _, _ => none
  | n + 1, x3, x4, x5, x6, x9 =>
    if x1 ≤ x9 then
      if x7 ≤ x1 then
        f_L_areRows_300 v_g0 x1 x2 x3 x4 x5 x6 x8 ((100 : Int32) * (x1 - x7))
      else
        f_L_areRows_300 v_g0 x1 x2 x3 x4 x5 x6 x8 (0 : Int32)
    else
      (g_row x9 (0 : Int32) v_g0).bind fun q52 =>
      (g_row x9 (1 : Int32) v_g0).bind fun q61 =>
      if q52 = x3 then
        if q61 < (1 : Int32) then
          some (0 : Int32)
        else
          (g_setting (0 : Int32) v_g0).bind fun q82 =>
          if q61 ≤ q82 then
            f_L_areRows_94 (f_L_areRows_42 v_g0 x1 x2 x7 x8 n) v_g0 x3 x7 x8 x9 q52 q61 gas x4 x5 x6 q52
          else
            some (0 : Int32)
      else
        some (0 : Int32)
def f_L_areRows (v_g0 : GS) : Option Int32 :=
  (g_told (1 : Int32) v_g0).bind fun q2 =>
  (g_told (0 : Int32) v_g0).bind fun q8 =>
  (g_setting (1 : Int32) v_g0).bind fun q26 =>
  (g_told (8 : Int32) v_g0).bind fun q34 =>
  f_L_areRows_42 v_g0 q2 q8 q26 q34 gas (0 : Int32) (0 : Int32) (0 : Int32) (-9 : Int32) (0 : Int32)
def rm_L_areRows : Room := { frames := 5, cells := 0, slots := 0, locals := 104 }
set_option maxHeartbeats 4000000 in
set_option maxRecDepth 100000 in
theorem c_L_areRows (l : Launch) (dC : Nat → ClassId) (dI : Nat → Nat → Nat) (cI cZ cO : ClassId) (o0 : Nat) (w0 : va_W) (v_g0 : GS) (r : Int32) (hO0 : OB cI cZ cO o0 v_g0 w0) (hF : f_L_areRows v_g0 = some r) : Met l yL_areRows wsL_areRows rm_L_areRows (va_Pc [.ref o0] (rdW dC dI cI cZ cO w0)) (vp_Si (fun q => r = q)) 0 0 (fun _ => False) := by
  refine Met.ofW (cc := cL_areRows) (maxL := 17) (ret := (some .boolean)) (by decide) rfl ?_
  intro p e s m args below meth c s₁ B hml hv
  obtain ⟨rfl, hP, hK, hN⟩ := hv
  have hx := B.exec
  have hb := B.bytes
  have hr := B.returns
  have hts := atoms_spec (ws := wsL_areRows) B.pre
  have hown : s.vm.findClass RL = some m.cls := findClass_of_methodNamed B.named
  have hlocks := B.notSynchronized
  obtain ⟨Q, hQ⟩ : ∃ Q, Q = MQ below (vp_Si (fun q => r = q)) ([.ref o0] : List Value).toArray s 0 0 (fun _ => False) := ⟨_, rfl⟩
  rw [← hQ]
  have hS : va_S (fun _ => False) s.heap s.heap [] := va_S.rf
  have hl := lv_entry ([.ref o0]) (n := 17) (Nat.le_of_ble_eq_true rfl)
  rw [lg_entry_eq]
  generalize (lg_sl ([.ref o0]) ++ List.replicate (17 - (lg_sl ([.ref o0])).length) Slot.unset).toArray = ls at hl ⊢
  have hl : lv_has ls 17 [(0, .ref o0)] := hl
  have B300 : ∀ (x1_300 : Int32) (x2_300 : Int32) (x3_300 : Int32) (x4_300 : Int32) (x5_300 : Int32) (x6_300 : Int32) (x8_300 : Int32) (s0_300 : Int32), f_L_areRows_300 v_g0 x1_300 x2_300 x3_300 x4_300 x5_300 x6_300 x8_300 s0_300 = some r → ∀ ls : Array Slot, lv_has ls 17 [(0, .ref o0), (1, .int x1_300), (2, .int x2_300), (3, .int x3_300), (4, .int x4_300), (5, .int x5_300), (6, .int x6_300), (8, .int x8_300)] → W p l e (headSpec wsL_areRows rm_L_areRows).room s m ([.ref o0] : List Value).toArray below meth c s.heap [] 0 0 Q (F0 m 300 ls [.int s0_300]) := by
    intro x1_300 x2_300 x3_300 x4_300 x5_300 x6_300 x8_300 s0_300 hF ls hl
    unfold f_L_areRows_300 at hF
    refine lv_istore (lv' := [(9, .int s0_300), (0, .ref o0), (1, .int x1_300), (2, .int x2_300), (3, .int x3_300), (4, .int x4_300), (5, .int x5_300), (6, .int x6_300), (8, .int x8_300)]) hx hb dL_areRows_300 hl (by decide) rfl (fun ls hl => ?_)
    refine lv_iload_n hx hb dL_areRows_302 rfl (lv_at hl 4 rfl) ?_
    refine lv_iload_n hx hb dL_areRows_303 rfl (lv_at hl 3 rfl) ?_
    refine lv_icmp_ne (tgt := 386) hx hb dL_areRows_304 (by decide) (fun c_304 => ?_) (fun c_304 => ?_)
    · have hF := (if_neg c_304).symm.trans hF
      refine lv_iconst (v := (0 : Int32)) hx hb dL_areRows_386 (by decide) ?_
      have hF : some (0 : Int32) = some r := hF
      cases hF
      subst hQ
      exact W.zret (ty := .boolean) hx hb hr rfl (fun t ht hW => ⟨_, rfl, rfl, ht⟩) (fun q hq => absurd hq List.not_mem_nil) dL_areRows_387
    · have hF := (if_pos c_304).symm.trans hF
      refine lv_iload hx hb dL_areRows_307 (lv_at hl 5 rfl) ?_
      refine lv_aload_n hx hb dL_areRows_309 rfl (lv_at hl 1 rfl) ?_
      refine lv_iconst (v := (2 : Int32)) hx hb dL_areRows_310 (by decide) ?_
      obtain ⟨q_311, hq_311, hF⟩ := bindE hF
      have hPc := hP
      obtain ⟨vs_311, hv_311⟩ := OB_recv hO0
      refine vp_callSi (va_Run.run (va_runV (As := [.int (2 : Int32)]) (rest := [.int x4_300]) ⟨hx, hb, hml, hown, hts⟩ (o_told l dC dI cI cZ cO o0 w0 v_g0 (2 : Int32) q_311 hO0 hq_311) (cwV 1 hts gL_areRows_X3_told rfl rfl rfl (by decide +kernel) ⟨Nat.le_of_ble_eq_true rfl, Nat.le_of_ble_eq_true rfl⟩) ⟨fb_rd, va_recv hK hPc (ci := 3) (q0 := 0) rfl hv_311, pre_rd hPc hK hN⟩ rfl rfl hl.1 rfl (lv_room (Nat.le_of_ble_eq_true rfl)) dL_areRows_311 ⟨Nat.zero_le _, Nat.zero_le _⟩)) (fun z_311 hz_311 => ?_)
      subst hz_311
      refine lv_iconst (v := (1 : Int32)) hx hb dL_areRows_314 (by decide) ?_
      refine lv_isub hx hb dL_areRows_315 ?_
      refine lv_icmp_ne (tgt := 386) hx hb dL_areRows_316 (by decide) (fun c_316 => ?_) (fun c_316 => ?_)
      · have hF := (if_neg c_316).symm.trans hF
        refine lv_iconst (v := (0 : Int32)) hx hb dL_areRows_386 (by decide) ?_
        have hF : some (0 : Int32) = some r := hF
        cases hF
        subst hQ
        exact W.zret (ty := .boolean) hx hb hr rfl (fun t ht hW => ⟨_, rfl, rfl, ht⟩) (fun q hq => absurd hq List.not_mem_nil) dL_areRows_387
      · have hF := (if_pos c_316).symm.trans hF
        refine lv_iload hx hb dL_areRows_319 (lv_at hl 6 rfl) ?_
        refine lv_aload_n hx hb dL_areRows_321 rfl (lv_at hl 1 rfl) ?_
        refine lv_iconst (v := (3 : Int32)) hx hb dL_areRows_322 (by decide) ?_
        obtain ⟨q_323, hq_323, hF⟩ := bindE hF
        have hPc := hP
        obtain ⟨vs_323, hv_323⟩ := OB_recv hO0
        refine vp_callSi (va_Run.run (va_runV (As := [.int (3 : Int32)]) (rest := [.int x5_300]) ⟨hx, hb, hml, hown, hts⟩ (o_told l dC dI cI cZ cO o0 w0 v_g0 (3 : Int32) q_323 hO0 hq_323) (cwV 1 hts gL_areRows_X3_told rfl rfl rfl (by decide +kernel) ⟨Nat.le_of_ble_eq_true rfl, Nat.le_of_ble_eq_true rfl⟩) ⟨fb_rd, va_recv hK hPc (ci := 3) (q0 := 0) rfl hv_323, pre_rd hPc hK hN⟩ rfl rfl hl.1 rfl (lv_room (Nat.le_of_ble_eq_true rfl)) dL_areRows_323 ⟨Nat.zero_le _, Nat.zero_le _⟩)) (fun z_323 hz_323 => ?_)
        subst hz_323
        refine lv_icmp_ne (tgt := 386) hx hb dL_areRows_326 (by decide) (fun c_326 => ?_) (fun c_326 => ?_)
        · have hF := (if_neg c_326).symm.trans hF
          refine lv_iconst (v := (0 : Int32)) hx hb dL_areRows_386 (by decide) ?_
          have hF : some (0 : Int32) = some r := hF
          cases hF
          subst hQ
          exact W.zret (ty := .boolean) hx hb hr rfl (fun t ht hW => ⟨_, rfl, rfl, ht⟩) (fun q hq => absurd hq List.not_mem_nil) dL_areRows_387
        · have hF := (if_pos c_326).symm.trans hF
          refine lv_iload hx hb dL_areRows_329 (lv_at hl 7 rfl) ?_
          refine lv_aload_n hx hb dL_areRows_331 rfl (lv_at hl 1 rfl) ?_
          refine lv_bipush (v := (16 : Int32)) hx hb dL_areRows_332 (by decide) ?_
          obtain ⟨q_334, hq_334, hF⟩ := bindE hF
          have hPc := hP
          obtain ⟨vs_334, hv_334⟩ := OB_recv hO0
          refine vp_callSi (va_Run.run (va_runV (As := [.int (16 : Int32)]) (rest := [.int x6_300]) ⟨hx, hb, hml, hown, hts⟩ (o_told l dC dI cI cZ cO o0 w0 v_g0 (16 : Int32) q_334 hO0 hq_334) (cwV 1 hts gL_areRows_X3_told rfl rfl rfl (by decide +kernel) ⟨Nat.le_of_ble_eq_true rfl, Nat.le_of_ble_eq_true rfl⟩) ⟨fb_rd, va_recv hK hPc (ci := 3) (q0 := 0) rfl hv_334, pre_rd hPc hK hN⟩ rfl rfl hl.1 rfl (lv_room (Nat.le_of_ble_eq_true rfl)) dL_areRows_334 ⟨Nat.zero_le _, Nat.zero_le _⟩)) (fun z_334 hz_334 => ?_)
          subst hz_334
          refine lv_icmp_ne (tgt := 386) hx hb dL_areRows_337 (by decide) (fun c_337 => ?_) (fun c_337 => ?_)
          · have hF := (if_neg c_337).symm.trans hF
            refine lv_iconst (v := (0 : Int32)) hx hb dL_areRows_386 (by decide) ?_
            have hF : some (0 : Int32) = some r := hF
            cases hF
            subst hQ
            exact W.zret (ty := .boolean) hx hb hr rfl (fun t ht hW => ⟨_, rfl, rfl, ht⟩) (fun q hq => absurd hq List.not_mem_nil) dL_areRows_387
          · have hF := (if_pos c_337).symm.trans hF
            refine lv_iload hx hb dL_areRows_340 (lv_at hl 8 rfl) ?_
            refine lv_if_lt (tgt := 386) hx hb dL_areRows_342 (by decide) (fun c_342 => ?_) (fun c_342 => ?_)
            · have hF := (if_pos c_342).symm.trans hF
              refine lv_iconst (v := (0 : Int32)) hx hb dL_areRows_386 (by decide) ?_
              have hF : some (0 : Int32) = some r := hF
              cases hF
              subst hQ
              exact W.zret (ty := .boolean) hx hb hr rfl (fun t ht hW => ⟨_, rfl, rfl, ht⟩) (fun q hq => absurd hq List.not_mem_nil) dL_areRows_387
            · have hF := (if_neg c_342).symm.trans hF
              refine lv_iload hx hb dL_areRows_345 (lv_at hl 8 rfl) ?_
              refine lv_iload hx hb dL_areRows_347 (lv_at hl 0 rfl) ?_
              refine lv_icmp_gt (tgt := 386) hx hb dL_areRows_349 (by decide) (fun c_349 => ?_) (fun c_349 => ?_)
              · have hF := (if_pos c_349).symm.trans hF
                refine lv_iconst (v := (0 : Int32)) hx hb dL_areRows_386 (by decide) ?_
                have hF : some (0 : Int32) = some r := hF
                cases hF
                subst hQ
                exact W.zret (ty := .boolean) hx hb hr rfl (fun t ht hW => ⟨_, rfl, rfl, ht⟩) (fun q hq => absurd hq List.not_mem_nil) dL_areRows_387
              · have hF := (if_neg c_349).symm.trans hF
                refine lv_aload_n hx hb dL_areRows_352 rfl (lv_at hl 1 rfl) ?_
                refine lv_bipush (v := (9 : Int32)) hx hb dL_areRows_353 (by decide) ?_
                obtain ⟨q_355, hq_355, hF⟩ := bindE hF
                have hPc := hP
                obtain ⟨vs_355, hv_355⟩ := OB_recv hO0
                refine vp_callSi (va_Run.run (va_runV (As := [.int (9 : Int32)]) (rest := []) ⟨hx, hb, hml, hown, hts⟩ (o_told l dC dI cI cZ cO o0 w0 v_g0 (9 : Int32) q_355 hO0 hq_355) (cwV 1 hts gL_areRows_X3_told rfl rfl rfl (by decide +kernel) ⟨Nat.le_of_ble_eq_true rfl, Nat.le_of_ble_eq_true rfl⟩) ⟨fb_rd, va_recv hK hPc (ci := 3) (q0 := 0) rfl hv_355, pre_rd hPc hK hN⟩ rfl rfl hl.1 rfl (lv_room (Nat.le_of_ble_eq_true rfl)) dL_areRows_355 ⟨Nat.zero_le _, Nat.zero_le _⟩)) (fun z_355 hz_355 => ?_)
                subst hz_355
                refine lv_if_lt (tgt := 386) hx hb dL_areRows_358 (by decide) (fun c_358 => ?_) (fun c_358 => ?_)
                · have hF := (if_pos c_358).symm.trans hF
                  refine lv_iconst (v := (0 : Int32)) hx hb dL_areRows_386 (by decide) ?_
                  have hF : some (0 : Int32) = some r := hF
                  cases hF
                  subst hQ
                  exact W.zret (ty := .boolean) hx hb hr rfl (fun t ht hW => ⟨_, rfl, rfl, ht⟩) (fun q hq => absurd hq List.not_mem_nil) dL_areRows_387
                · have hF := (if_neg c_358).symm.trans hF
                  refine lv_aload_n hx hb dL_areRows_361 rfl (lv_at hl 1 rfl) ?_
                  refine lv_bipush (v := (9 : Int32)) hx hb dL_areRows_362 (by decide) ?_
                  obtain ⟨q_364, hq_364, hF⟩ := bindE hF
                  have hPc := hP
                  obtain ⟨vs_364, hv_364⟩ := OB_recv hO0
                  refine vp_callSi (va_Run.run (va_runV (As := [.int (9 : Int32)]) (rest := []) ⟨hx, hb, hml, hown, hts⟩ (o_told l dC dI cI cZ cO o0 w0 v_g0 (9 : Int32) q_364 hO0 hq_364) (cwV 1 hts gL_areRows_X3_told rfl rfl rfl (by decide +kernel) ⟨Nat.le_of_ble_eq_true rfl, Nat.le_of_ble_eq_true rfl⟩) ⟨fb_rd, va_recv hK hPc (ci := 3) (q0 := 0) rfl hv_364, pre_rd hPc hK hN⟩ rfl rfl hl.1 rfl (lv_room (Nat.le_of_ble_eq_true rfl)) dL_areRows_364 ⟨Nat.zero_le _, Nat.zero_le _⟩)) (fun z_364 hz_364 => ?_)
                  subst hz_364
                  refine lv_iload hx hb dL_areRows_367 (lv_at hl 0 rfl) ?_
                  refine lv_icmp_gt (tgt := 386) hx hb dL_areRows_369 (by decide) (fun c_369 => ?_) (fun c_369 => ?_)
                  · have hF := (if_pos c_369).symm.trans hF
                    refine lv_iconst (v := (0 : Int32)) hx hb dL_areRows_386 (by decide) ?_
                    have hF : some (0 : Int32) = some r := hF
                    cases hF
                    subst hQ
                    exact W.zret (ty := .boolean) hx hb hr rfl (fun t ht hW => ⟨_, rfl, rfl, ht⟩) (fun q hq => absurd hq List.not_mem_nil) dL_areRows_387
                  · have hF := (if_neg c_369).symm.trans hF
                    refine lv_aload_n hx hb dL_areRows_372 rfl (lv_at hl 1 rfl) ?_
                    refine lv_iload_n hx hb dL_areRows_373 rfl (lv_at hl 2 rfl) ?_
                    refine lv_iconst (v := (0 : Int32)) hx hb dL_areRows_374 (by decide) ?_
                    obtain ⟨q_375, hq_375, hF⟩ := bindE hF
                    have hPc := hP
                    obtain ⟨vs_375, hv_375⟩ := OB_recv hO0
                    refine vp_callSi (va_Run.run (va_runV (As := [.int x1_300, .int (0 : Int32)]) (rest := []) ⟨hx, hb, hml, hown, hts⟩ (o_row l dC dI cI cZ cO o0 w0 v_g0 x1_300 (0 : Int32) q_375 hO0 hq_375) (cwV 2 hts gL_areRows_X3_row rfl rfl rfl (by decide +kernel) ⟨Nat.le_of_ble_eq_true rfl, Nat.le_of_ble_eq_true rfl⟩) ⟨fb_rd, va_recv hK hPc (ci := 3) (q0 := 0) rfl hv_375, pre_rd hPc hK hN⟩ rfl rfl hl.1 rfl (lv_room (Nat.le_of_ble_eq_true rfl)) dL_areRows_375 ⟨Nat.zero_le _, Nat.zero_le _⟩)) (fun z_375 hz_375 => ?_)
                    subst hz_375
                    refine lv_iconst (v := (-1 : Int32)) hx hb dL_areRows_378 (by decide) ?_
                    refine lv_icmp_ne (tgt := 386) hx hb dL_areRows_379 (by decide) (fun c_379 => ?_) (fun c_379 => ?_)
                    · have hF := (if_neg c_379).symm.trans hF
                      refine lv_iconst (v := (0 : Int32)) hx hb dL_areRows_386 (by decide) ?_
                      have hF : some (0 : Int32) = some r := hF
                      cases hF
                      subst hQ
                      exact W.zret (ty := .boolean) hx hb hr rfl (fun t ht hW => ⟨_, rfl, rfl, ht⟩) (fun q hq => absurd hq List.not_mem_nil) dL_areRows_387
                    · have hF := (if_pos c_379).symm.trans hF
                      refine lv_iconst (v := (1 : Int32)) hx hb dL_areRows_382 (by decide) ?_
                      refine lv_goto (tgt := 387) hx hb dL_areRows_383 (by decide) ?_
                      have hF : some (1 : Int32) = some r := hF
                      cases hF
                      subst hQ
                      exact W.zret (ty := .boolean) hx hb hr rfl (fun t ht hW => ⟨_, rfl, rfl, ht⟩) (fun q hq => absurd hq List.not_mem_nil) dL_areRows_387
  have B42 : ∀ (n_42 : Nat) (x1_42 : Int32) (x2_42 : Int32) (x7_42 : Int32) (x8_42 : Int32) (x3_42 : Int32) (x4_42 : Int32) (x5_42 : Int32) (x6_42 : Int32) (x9_42 : Int32), f_L_areRows_42 v_g0 x1_42 x2_42 x7_42 x8_42 n_42 x3_42 x4_42 x5_42 x6_42 x9_42 = some r → ∀ ls : Array Slot, lv_has ls 17 [(0, .ref o0), (1, .int x1_42), (2, .int x2_42), (3, .int x3_42), (4, .int x4_42), (5, .int x5_42), (6, .int x6_42), (7, .int x7_42), (8, .int x8_42), (9, .int x9_42)] → W p l e (headSpec wsL_areRows rm_L_areRows).room s m ([.ref o0] : List Value).toArray below meth c s.heap [] 0 0 Q (F0 m 42 ls []) := by
    intro n_42
    induction n_42 with
    | zero => intro x1_42 x2_42 x7_42 x8_42 x3_42 x4_42 x5_42 x6_42 x9_42 hF; exact noneE hF
    | succ n_42 ih42 =>
      intro x1_42 x2_42 x7_42 x8_42 x3_42 x4_42 x5_42 x6_42 x9_42 hF ls hl
      have B94 : ∀ (n_94 : Nat) (x3_94 : Int32) (x9_94 : Int32) (x10_94 : Int32) (x11_94 : Int32) (x4_94 : Int32) (x5_94 : Int32) (x6_94 : Int32) (x12_94 : Int32), f_L_areRows_94 (f_L_areRows_42 v_g0 x1_42 x2_42 x7_42 x8_42 n_42) v_g0 x3_94 x7_42 x8_42 x9_94 x10_94 x11_94 n_94 x4_94 x5_94 x6_94 x12_94 = some r → ∀ ls : Array Slot, lv_has ls 17 [(0, .ref o0), (1, .int x1_42), (2, .int x2_42), (3, .int x3_94), (4, .int x4_94), (5, .int x5_94), (6, .int x6_94), (7, .int x7_42), (8, .int x8_42), (9, .int x9_94), (10, .int x10_94), (11, .int x11_94), (12, .int x12_94)] → W p l e (headSpec wsL_areRows rm_L_areRows).room s m ([.ref o0] : List Value).toArray below meth c s.heap [] 0 0 Q (F0 m 94 ls []) := by
        intro n_94
        induction n_94 with
        | zero => intro x3_94 x9_94 x10_94 x11_94 x4_94 x5_94 x6_94 x12_94 hF; exact noneE hF
        | succ n_94 ih94 =>
          intro x3_94 x9_94 x10_94 x11_94 x4_94 x5_94 x6_94 x12_94 hF ls hl
          have B244 : ∀ (x4_244 : Int32) (x6_244 : Int32) (x12_244 : Int32) (x14_244 : Int32) (s0_244 : Int32), f_L_areRows_244 (f_L_areRows_42 v_g0 x1_42 x2_42 x7_42 x8_42 n_42) (f_L_areRows_94 (f_L_areRows_42 v_g0 x1_42 x2_42 x7_42 x8_42 n_42) v_g0 x3_94 x7_42 x8_42 x9_94 x10_94 x11_94 n_94) x4_244 x6_244 x12_244 x14_244 s0_244 = some r → ∀ ls : Array Slot, lv_has ls 17 [(0, .ref o0), (1, .int x1_42), (2, .int x2_42), (3, .int x3_94), (4, .int x4_244), (6, .int x6_244), (7, .int x7_42), (8, .int x8_42), (9, .int x9_94), (10, .int x10_94), (11, .int x11_94), (12, .int x12_244), (14, .int x14_244)] → W p l e (headSpec wsL_areRows rm_L_areRows).room s m ([.ref o0] : List Value).toArray below meth c s.heap [] 0 0 Q (F0 m 244 ls [.int s0_244]) := by
            intro x4_244 x6_244 x12_244 x14_244 s0_244 hF ls hl
            unfold f_L_areRows_244 at hF
            refine lv_istore (lv' := [(5, .int s0_244), (0, .ref o0), (1, .int x1_42), (2, .int x2_42), (3, .int x3_94), (4, .int x4_244), (6, .int x6_244), (7, .int x7_42), (8, .int x8_42), (9, .int x9_94), (10, .int x10_94), (11, .int x11_94), (12, .int x12_244), (14, .int x14_244)]) hx hb dL_areRows_244 hl (by decide) rfl (fun ls hl => ?_)
            refine lv_iload hx hb dL_areRows_246 (lv_at hl 13 rfl) ?_
            refine lv_iconst (v := (1 : Int32)) hx hb dL_areRows_248 (by decide) ?_
            refine lv_icmp_ne (tgt := 262) hx hb dL_areRows_249 (by decide) (fun c_249 => ?_) (fun c_249 => ?_)
            · have hF := (if_neg c_249).symm.trans hF
              refine lv_iload hx hb dL_areRows_262 (lv_at hl 6 rfl) ?_
              refine lv_istore (lv' := [(6, .int x6_244), (5, .int s0_244), (0, .ref o0), (1, .int x1_42), (2, .int x2_42), (3, .int x3_94), (4, .int x4_244), (7, .int x7_42), (8, .int x8_42), (9, .int x9_94), (10, .int x10_94), (11, .int x11_94), (12, .int x12_244), (14, .int x14_244)]) hx hb dL_areRows_264 hl (by decide) rfl (fun ls hl => ?_)
              refine lv_iinc (v := (x12_244 + 1)) (lv' := [(12, .int (x12_244 + 1)), (6, .int x6_244), (5, .int s0_244), (0, .ref o0), (1, .int x1_42), (2, .int x2_42), (3, .int x3_94), (4, .int x4_244), (7, .int x7_42), (8, .int x8_42), (9, .int x9_94), (10, .int x10_94), (11, .int x11_94), (14, .int x14_244)]) hx hb dL_areRows_266 hl (k := 12) rfl rfl (by decide) rfl (fun ls hl => ?_)
              refine lv_goto (tgt := 94) hx hb dL_areRows_269 (by decide) ?_
              exact ih94 x3_94 x9_94 x10_94 x11_94 x4_244 s0_244 x6_244 (x12_244 + 1) hF _ (lv_sub hl [3, 4, 5, 6, 7, 2, 1, 8, 9, 10, 11, 12, 0] rfl)
            · have hF := (if_pos c_249).symm.trans hF
              refine lv_iload hx hb dL_areRows_252 (lv_at hl 6 rfl) ?_
              refine lv_if_ge (tgt := 262) hx hb dL_areRows_254 (by decide) (fun c_254 => ?_) (fun c_254 => ?_)
              · have hF := (if_pos c_254).symm.trans hF
                refine lv_iload hx hb dL_areRows_262 (lv_at hl 6 rfl) ?_
                refine lv_istore (lv' := [(6, .int x6_244), (5, .int s0_244), (0, .ref o0), (1, .int x1_42), (2, .int x2_42), (3, .int x3_94), (4, .int x4_244), (7, .int x7_42), (8, .int x8_42), (9, .int x9_94), (10, .int x10_94), (11, .int x11_94), (12, .int x12_244), (14, .int x14_244)]) hx hb dL_areRows_264 hl (by decide) rfl (fun ls hl => ?_)
                refine lv_iinc (v := (x12_244 + 1)) (lv' := [(12, .int (x12_244 + 1)), (6, .int x6_244), (5, .int s0_244), (0, .ref o0), (1, .int x1_42), (2, .int x2_42), (3, .int x3_94), (4, .int x4_244), (7, .int x7_42), (8, .int x8_42), (9, .int x9_94), (10, .int x10_94), (11, .int x11_94), (14, .int x14_244)]) hx hb dL_areRows_266 hl (k := 12) rfl rfl (by decide) rfl (fun ls hl => ?_)
                refine lv_goto (tgt := 94) hx hb dL_areRows_269 (by decide) ?_
                exact ih94 x3_94 x9_94 x10_94 x11_94 x4_244 s0_244 x6_244 (x12_244 + 1) hF _ (lv_sub hl [3, 4, 5, 6, 7, 2, 1, 8, 9, 10, 11, 12, 0] rfl)
              · have hF := (if_neg c_254).symm.trans hF
                refine lv_iload hx hb dL_areRows_257 (lv_at hl 12 rfl) ?_
                refine lv_goto (tgt := 264) hx hb dL_areRows_259 (by decide) ?_
                refine lv_istore (lv' := [(6, .int x12_244), (5, .int s0_244), (0, .ref o0), (1, .int x1_42), (2, .int x2_42), (3, .int x3_94), (4, .int x4_244), (7, .int x7_42), (8, .int x8_42), (9, .int x9_94), (10, .int x10_94), (11, .int x11_94), (12, .int x12_244), (14, .int x14_244)]) hx hb dL_areRows_264 hl (by decide) rfl (fun ls hl => ?_)
                refine lv_iinc (v := (x12_244 + 1)) (lv' := [(12, .int (x12_244 + 1)), (6, .int x12_244), (5, .int s0_244), (0, .ref o0), (1, .int x1_42), (2, .int x2_42), (3, .int x3_94), (4, .int x4_244), (7, .int x7_42), (8, .int x8_42), (9, .int x9_94), (10, .int x10_94), (11, .int x11_94), (14, .int x14_244)]) hx hb dL_areRows_266 hl (k := 12) rfl rfl (by decide) rfl (fun ls hl => ?_)
                refine lv_goto (tgt := 94) hx hb dL_areRows_269 (by decide) ?_
                exact ih94 x3_94 x9_94 x10_94 x11_94 x4_244 s0_244 x12_244 (x12_244 + 1) hF _ (lv_sub hl [3, 4, 5, 6, 7, 2, 1, 8, 9, 10, 11, 12, 0] rfl)
          have B217 : ∀ (x5_217 : Int32) (x6_217 : Int32) (x12_217 : Int32) (x13_217 : Int32) (x14_217 : Int32) (s0_217 : Int32), f_L_areRows_217 (f_L_areRows_42 v_g0 x1_42 x2_42 x7_42 x8_42 n_42) (f_L_areRows_94 (f_L_areRows_42 v_g0 x1_42 x2_42 x7_42 x8_42 n_42) v_g0 x3_94 x7_42 x8_42 x9_94 x10_94 x11_94 n_94) x5_217 x6_217 x12_217 x13_217 x14_217 s0_217 = some r → ∀ ls : Array Slot, lv_has ls 17 [(0, .ref o0), (1, .int x1_42), (2, .int x2_42), (3, .int x3_94), (5, .int x5_217), (6, .int x6_217), (7, .int x7_42), (8, .int x8_42), (9, .int x9_94), (10, .int x10_94), (11, .int x11_94), (12, .int x12_217), (13, .int x13_217), (14, .int x14_217)] → W p l e (headSpec wsL_areRows rm_L_areRows).room s m ([.ref o0] : List Value).toArray below meth c s.heap [] 0 0 Q (F0 m 217 ls [.int s0_217]) := by
            intro x5_217 x6_217 x12_217 x13_217 x14_217 s0_217 hF ls hl
            unfold f_L_areRows_217 at hF
            refine lv_istore (lv' := [(16, .int s0_217), (0, .ref o0), (1, .int x1_42), (2, .int x2_42), (3, .int x3_94), (5, .int x5_217), (6, .int x6_217), (7, .int x7_42), (8, .int x8_42), (9, .int x9_94), (10, .int x10_94), (11, .int x11_94), (12, .int x12_217), (13, .int x13_217), (14, .int x14_217)]) hx hb dL_areRows_217 hl (by decide) rfl (fun ls hl => ?_)
            refine lv_iload hx hb dL_areRows_219 (lv_at hl 0 rfl) ?_
            refine lv_if_ne (tgt := 226) hx hb dL_areRows_221 (by decide) (fun c_221 => ?_) (fun c_221 => ?_)
            · have hF := (if_neg c_221).symm.trans hF
              refine lv_iload hx hb dL_areRows_226 (lv_at hl 13 rfl) ?_
              refine lv_istore (lv' := [(4, .int x13_217), (16, .int s0_217), (0, .ref o0), (1, .int x1_42), (2, .int x2_42), (3, .int x3_94), (5, .int x5_217), (6, .int x6_217), (7, .int x7_42), (8, .int x8_42), (9, .int x9_94), (10, .int x10_94), (11, .int x11_94), (12, .int x12_217), (13, .int x13_217), (14, .int x14_217)]) hx hb dL_areRows_228 hl (by decide) rfl (fun ls hl => ?_)
              refine lv_iload hx hb dL_areRows_230 (lv_at hl 15 rfl) ?_
              refine lv_if_le (tgt := 242) hx hb dL_areRows_232 (by decide) (fun c_232 => ?_) (fun c_232 => ?_)
              · have hF := (if_pos c_232).symm.trans hF
                refine lv_iload hx hb dL_areRows_242 (lv_at hl 6 rfl) ?_
                exact B244 x13_217 x6_217 x12_217 x14_217 x5_217 hF _ (lv_sub hl [2, 3, 4, 5, 0, 7, 8, 9, 10, 11, 12, 13, 15] rfl)
              · have hF := (if_neg c_232).symm.trans hF
                refine lv_iload hx hb dL_areRows_235 (lv_at hl 6 rfl) ?_
                refine lv_iconst (v := (1 : Int32)) hx hb dL_areRows_237 (by decide) ?_
                refine lv_iadd hx hb dL_areRows_238 ?_
                refine lv_goto (tgt := 244) hx hb dL_areRows_239 (by decide) ?_
                exact B244 x13_217 x6_217 x12_217 x14_217 (x5_217 + (1 : Int32)) hF _ (lv_sub hl [2, 3, 4, 5, 0, 7, 8, 9, 10, 11, 12, 13, 15] rfl)
            · have hF := (if_pos c_221).symm.trans hF
              refine lv_iconst (v := (0 : Int32)) hx hb dL_areRows_224 (by decide) ?_
              have hF : some (0 : Int32) = some r := hF
              cases hF
              subst hQ
              exact W.zret (ty := .boolean) hx hb hr rfl (fun t ht hW => ⟨_, rfl, rfl, ht⟩) (fun q hq => absurd hq List.not_mem_nil) dL_areRows_225
          have B216 : ∀ (x5_216 : Int32) (x6_216 : Int32) (x12_216 : Int32) (x13_216 : Int32) (x14_216 : Int32), f_L_areRows_216 (f_L_areRows_42 v_g0 x1_42 x2_42 x7_42 x8_42 n_42) (f_L_areRows_94 (f_L_areRows_42 v_g0 x1_42 x2_42 x7_42 x8_42 n_42) v_g0 x3_94 x7_42 x8_42 x9_94 x10_94 x11_94 n_94) x5_216 x6_216 x12_216 x13_216 x14_216 = some r → ∀ ls : Array Slot, lv_has ls 17 [(0, .ref o0), (1, .int x1_42), (2, .int x2_42), (3, .int x3_94), (5, .int x5_216), (6, .int x6_216), (7, .int x7_42), (8, .int x8_42), (9, .int x9_94), (10, .int x10_94), (11, .int x11_94), (12, .int x12_216), (13, .int x13_216), (14, .int x14_216)] → W p l e (headSpec wsL_areRows rm_L_areRows).room s m ([.ref o0] : List Value).toArray below meth c s.heap [] 0 0 Q (F0 m 216 ls []) := by
            intro x5_216 x6_216 x12_216 x13_216 x14_216 hF ls hl
            unfold f_L_areRows_216 at hF
            refine lv_iconst (v := (0 : Int32)) hx hb dL_areRows_216 (by decide) ?_
            exact B217 x5_216 x6_216 x12_216 x13_216 x14_216 (0 : Int32) hF _ (lv_sub hl [0, 1, 2, 3, 4, 5, 6, 7, 8, 9, 10, 11, 12, 13] rfl)
          have B209 : ∀ (x5_209 : Int32) (x6_209 : Int32) (x12_209 : Int32) (x13_209 : Int32) (x14_209 : Int32) (s0_209 : Int32) (s1_209 : Int32), f_L_areRows_209 (f_L_areRows_42 v_g0 x1_42 x2_42 x7_42 x8_42 n_42) (f_L_areRows_94 (f_L_areRows_42 v_g0 x1_42 x2_42 x7_42 x8_42 n_42) v_g0 x3_94 x7_42 x8_42 x9_94 x10_94 x11_94 n_94) x5_209 x6_209 x12_209 x13_209 x14_209 s0_209 s1_209 = some r → ∀ ls : Array Slot, lv_has ls 17 [(0, .ref o0), (1, .int x1_42), (2, .int x2_42), (3, .int x3_94), (5, .int x5_209), (6, .int x6_209), (7, .int x7_42), (8, .int x8_42), (9, .int x9_94), (10, .int x10_94), (11, .int x11_94), (12, .int x12_209), (13, .int x13_209), (14, .int x14_209)] → W p l e (headSpec wsL_areRows rm_L_areRows).room s m ([.ref o0] : List Value).toArray below meth c s.heap [] 0 0 Q (F0 m 209 ls [.int s1_209, .int s0_209]) := by
            intro x5_209 x6_209 x12_209 x13_209 x14_209 s0_209 s1_209 hF ls hl
            unfold f_L_areRows_209 at hF
            refine lv_icmp_ne (tgt := 216) hx hb dL_areRows_209 (by decide) (fun c_209 => ?_) (fun c_209 => ?_)
            · have hF := (if_neg c_209).symm.trans hF
              exact B216 x5_209 x6_209 x12_209 x13_209 x14_209 hF _ (lv_sub hl [0, 1, 2, 3, 4, 5, 6, 7, 8, 9, 10, 11, 12, 13] rfl)
            · have hF := (if_pos c_209).symm.trans hF
              refine lv_iconst (v := (1 : Int32)) hx hb dL_areRows_212 (by decide) ?_
              refine lv_goto (tgt := 217) hx hb dL_areRows_213 (by decide) ?_
              exact B217 x5_209 x6_209 x12_209 x13_209 x14_209 (1 : Int32) hF _ (lv_sub hl [0, 1, 2, 3, 4, 5, 6, 7, 8, 9, 10, 11, 12, 13] rfl)
          have B192 : ∀ (x5_192 : Int32) (x6_192 : Int32) (x12_192 : Int32) (x13_192 : Int32) (x14_192 : Int32) (x15_192 : Int32), f_L_areRows_192 (f_L_areRows_42 v_g0 x1_42 x2_42 x7_42 x8_42 n_42) (f_L_areRows_94 (f_L_areRows_42 v_g0 x1_42 x2_42 x7_42 x8_42 n_42) v_g0 x3_94 x7_42 x8_42 x9_94 x10_94 x11_94 n_94) v_g0 x5_192 x6_192 x12_192 x13_192 x14_192 x15_192 = some r → ∀ ls : Array Slot, lv_has ls 17 [(0, .ref o0), (1, .int x1_42), (2, .int x2_42), (3, .int x3_94), (5, .int x5_192), (6, .int x6_192), (7, .int x7_42), (8, .int x8_42), (9, .int x9_94), (10, .int x10_94), (11, .int x11_94), (12, .int x12_192), (13, .int x13_192), (14, .int x14_192), (15, .int x15_192)] → W p l e (headSpec wsL_areRows rm_L_areRows).room s m ([.ref o0] : List Value).toArray below meth c s.heap [] 0 0 Q (F0 m 192 ls []) := by
            intro x5_192 x6_192 x12_192 x13_192 x14_192 x15_192 hF ls hl
            unfold f_L_areRows_192 at hF
            refine lv_aload_n hx hb dL_areRows_192 rfl (lv_at hl 0 rfl) ?_
            refine lv_iload hx hb dL_areRows_193 (lv_at hl 11 rfl) ?_
            refine lv_iconst (v := (4 : Int32)) hx hb dL_areRows_195 (by decide) ?_
            obtain ⟨q_196, hq_196, hF⟩ := bindE hF
            have hPc := hP
            obtain ⟨vs_196, hv_196⟩ := OB_recv hO0
            refine vp_callSi (va_Run.run (va_runV (As := [.int x12_192, .int (4 : Int32)]) (rest := []) ⟨hx, hb, hml, hown, hts⟩ (o_word l dC dI cI cZ cO o0 w0 v_g0 x12_192 (4 : Int32) q_196 hO0 hq_196) (cwV 2 hts gL_areRows_X3_word rfl rfl rfl (by decide +kernel) ⟨Nat.le_of_ble_eq_true rfl, Nat.le_of_ble_eq_true rfl⟩) ⟨fb_rd, va_recv hK hPc (ci := 3) (q0 := 0) rfl hv_196, pre_rd hPc hK hN⟩ rfl rfl hl.1 rfl (lv_room (Nat.le_of_ble_eq_true rfl)) dL_areRows_196 ⟨Nat.zero_le _, Nat.zero_le _⟩)) (fun z_196 hz_196 => ?_)
            subst hz_196
            refine lv_iload hx hb dL_areRows_199 (lv_at hl 14 rfl) ?_
            refine lv_if_eq (tgt := 208) hx hb dL_areRows_201 (by decide) (fun c_201 => ?_) (fun c_201 => ?_)
            · have hF := (if_pos c_201).symm.trans hF
              refine lv_iconst (v := (0 : Int32)) hx hb dL_areRows_208 (by decide) ?_
              exact B209 x5_192 x6_192 x12_192 x13_192 x14_192 q_196 (0 : Int32) hF _ (lv_sub hl [0, 1, 2, 3, 4, 5, 6, 7, 8, 9, 10, 11, 12, 13] rfl)
            · have hF := (if_neg c_201).symm.trans hF
              refine lv_iconst (v := (1 : Int32)) hx hb dL_areRows_204 (by decide) ?_
              refine lv_goto (tgt := 209) hx hb dL_areRows_205 (by decide) ?_
              exact B209 x5_192 x6_192 x12_192 x13_192 x14_192 q_196 (1 : Int32) hF _ (lv_sub hl [0, 1, 2, 3, 4, 5, 6, 7, 8, 9, 10, 11, 12, 13] rfl)
          have B155 : ∀ (x4_155 : Int32) (x5_155 : Int32) (x6_155 : Int32) (x12_155 : Int32) (x13_155 : Int32) (x14_155 : Int32) (s0_155 : Int32), f_L_areRows_155 (f_L_areRows_42 v_g0 x1_42 x2_42 x7_42 x8_42 n_42) (f_L_areRows_94 (f_L_areRows_42 v_g0 x1_42 x2_42 x7_42 x8_42 n_42) v_g0 x3_94 x7_42 x8_42 x9_94 x10_94 x11_94 n_94) v_g0 x4_155 x5_155 x6_155 x9_94 x10_94 x12_155 x13_155 x14_155 s0_155 = some r → ∀ ls : Array Slot, lv_has ls 17 [(0, .ref o0), (1, .int x1_42), (2, .int x2_42), (3, .int x3_94), (4, .int x4_155), (5, .int x5_155), (6, .int x6_155), (7, .int x7_42), (8, .int x8_42), (9, .int x9_94), (10, .int x10_94), (11, .int x11_94), (12, .int x12_155), (13, .int x13_155), (14, .int x14_155)] → W p l e (headSpec wsL_areRows rm_L_areRows).room s m ([.ref o0] : List Value).toArray below meth c s.heap [] 0 0 Q (F0 m 155 ls [.int s0_155]) := by
            intro x4_155 x5_155 x6_155 x12_155 x13_155 x14_155 s0_155 hF ls hl
            unfold f_L_areRows_155 at hF
            refine lv_istore (lv' := [(15, .int s0_155), (0, .ref o0), (1, .int x1_42), (2, .int x2_42), (3, .int x3_94), (4, .int x4_155), (5, .int x5_155), (6, .int x6_155), (7, .int x7_42), (8, .int x8_42), (9, .int x9_94), (10, .int x10_94), (11, .int x11_94), (12, .int x12_155), (13, .int x13_155), (14, .int x14_155)]) hx hb dL_areRows_155 hl (by decide) rfl (fun ls hl => ?_)
            refine lv_aload_n hx hb dL_areRows_157 rfl (lv_at hl 1 rfl) ?_
            refine lv_iload hx hb dL_areRows_158 (lv_at hl 13 rfl) ?_
            refine lv_iconst (v := (1 : Int32)) hx hb dL_areRows_160 (by decide) ?_
            obtain ⟨q_161, hq_161, hF⟩ := bindE hF
            have hPc := hP
            obtain ⟨vs_161, hv_161⟩ := OB_recv hO0
            refine vp_callSi (va_Run.run (va_runV (As := [.int x12_155, .int (1 : Int32)]) (rest := []) ⟨hx, hb, hml, hown, hts⟩ (o_word l dC dI cI cZ cO o0 w0 v_g0 x12_155 (1 : Int32) q_161 hO0 hq_161) (cwV 2 hts gL_areRows_X3_word rfl rfl rfl (by decide +kernel) ⟨Nat.le_of_ble_eq_true rfl, Nat.le_of_ble_eq_true rfl⟩) ⟨fb_rd, va_recv hK hPc (ci := 3) (q0 := 0) rfl hv_161, pre_rd hPc hK hN⟩ rfl rfl hl.1 rfl (lv_room (Nat.le_of_ble_eq_true rfl)) dL_areRows_161 ⟨Nat.zero_le _, Nat.zero_le _⟩)) (fun z_161 hz_161 => ?_)
            subst hz_161
            refine lv_iload hx hb dL_areRows_164 (lv_at hl 10 rfl) ?_
            refine lv_icmp_ne (tgt := 216) hx hb dL_areRows_166 (by decide) (fun c_166 => ?_) (fun c_166 => ?_)
            · have hF := (if_neg c_166).symm.trans hF
              exact B216 x5_155 x6_155 x12_155 x13_155 x14_155 hF _ (lv_sub hl [1, 2, 3, 4, 6, 7, 8, 9, 10, 11, 12, 13, 14, 15] rfl)
            · have hF := (if_pos c_166).symm.trans hF
              refine lv_iload hx hb dL_areRows_169 (lv_at hl 14 rfl) ?_
              refine lv_iload hx hb dL_areRows_171 (lv_at hl 5 rfl) ?_
              refine lv_icmp_eq (tgt := 192) hx hb dL_areRows_173 (by decide) (fun c_173 => ?_) (fun c_173 => ?_)
              · have hF := (if_pos c_173).symm.trans hF
                exact B192 x5_155 x6_155 x12_155 x13_155 x14_155 s0_155 hF _ (lv_sub hl [1, 2, 3, 4, 6, 7, 8, 9, 10, 11, 12, 13, 14, 15, 0] rfl)
              · have hF := (if_neg c_173).symm.trans hF
                refine lv_iload hx hb dL_areRows_176 (lv_at hl 14 rfl) ?_
                refine lv_iload hx hb dL_areRows_178 (lv_at hl 5 rfl) ?_
                refine lv_iconst (v := (1 : Int32)) hx hb dL_areRows_180 (by decide) ?_
                refine lv_iadd hx hb dL_areRows_181 ?_
                refine lv_icmp_ne (tgt := 216) hx hb dL_areRows_182 (by decide) (fun c_182 => ?_) (fun c_182 => ?_)
                · have hF := (if_neg c_182).symm.trans hF
                  exact B216 x5_155 x6_155 x12_155 x13_155 x14_155 hF _ (lv_sub hl [1, 2, 3, 4, 6, 7, 8, 9, 10, 11, 12, 13, 14, 15] rfl)
                · have hF := (if_pos c_182).symm.trans hF
                  refine lv_iload hx hb dL_areRows_185 (lv_at hl 13 rfl) ?_
                  refine lv_iload hx hb dL_areRows_187 (lv_at hl 11 rfl) ?_
                  refine lv_icmp_ne (tgt := 216) hx hb dL_areRows_189 (by decide) (fun c_189 => ?_) (fun c_189 => ?_)
                  · have hF := (if_neg c_189).symm.trans hF
                    exact B216 x5_155 x6_155 x12_155 x13_155 x14_155 hF _ (lv_sub hl [1, 2, 3, 4, 6, 7, 8, 9, 10, 11, 12, 13, 14, 15] rfl)
                  · have hF := (if_pos c_189).symm.trans hF
                    exact B192 x5_155 x6_155 x12_155 x13_155 x14_155 s0_155 hF _ (lv_sub hl [1, 2, 3, 4, 6, 7, 8, 9, 10, 11, 12, 13, 14, 15, 0] rfl)
          have B154 : ∀ (x4_154 : Int32) (x5_154 : Int32) (x6_154 : Int32) (x12_154 : Int32) (x13_154 : Int32) (x14_154 : Int32), f_L_areRows_154 (f_L_areRows_42 v_g0 x1_42 x2_42 x7_42 x8_42 n_42) (f_L_areRows_94 (f_L_areRows_42 v_g0 x1_42 x2_42 x7_42 x8_42 n_42) v_g0 x3_94 x7_42 x8_42 x9_94 x10_94 x11_94 n_94) v_g0 x4_154 x5_154 x6_154 x9_94 x10_94 x12_154 x13_154 x14_154 = some r → ∀ ls : Array Slot, lv_has ls 17 [(0, .ref o0), (1, .int x1_42), (2, .int x2_42), (3, .int x3_94), (4, .int x4_154), (5, .int x5_154), (6, .int x6_154), (7, .int x7_42), (8, .int x8_42), (9, .int x9_94), (10, .int x10_94), (11, .int x11_94), (12, .int x12_154), (13, .int x13_154), (14, .int x14_154)] → W p l e (headSpec wsL_areRows rm_L_areRows).room s m ([.ref o0] : List Value).toArray below meth c s.heap [] 0 0 Q (F0 m 154 ls []) := by
            intro x4_154 x5_154 x6_154 x12_154 x13_154 x14_154 hF ls hl
            unfold f_L_areRows_154 at hF
            refine lv_iconst (v := (0 : Int32)) hx hb dL_areRows_154 (by decide) ?_
            exact B155 x4_154 x5_154 x6_154 x12_154 x13_154 x14_154 (0 : Int32) hF _ (lv_sub hl [0, 1, 2, 3, 4, 5, 6, 7, 8, 9, 10, 11, 12, 13, 14] rfl)
          rw [f_L_areRows_94] at hF
          refine lv_iload hx hb dL_areRows_94 (lv_at hl 12 rfl) ?_
          refine lv_iload hx hb dL_areRows_96 (lv_at hl 10 rfl) ?_
          refine lv_iload hx hb dL_areRows_98 (lv_at hl 11 rfl) ?_
          refine lv_iadd hx hb dL_areRows_100 ?_
          refine lv_icmp_ge (tgt := 272) hx hb dL_areRows_101 (by decide) (fun c_101 => ?_) (fun c_101 => ?_)
          · have hF := (if_pos c_101).symm.trans hF
            refine lv_iload_n hx hb dL_areRows_272 rfl (lv_at hl 3 rfl) ?_
            refine lv_iload hx hb dL_areRows_273 (lv_at hl 11 rfl) ?_
            refine lv_iadd hx hb dL_areRows_275 ?_
            refine lv_istore_n (lv' := [(3, .int (x3_94 + x11_94)), (0, .ref o0), (1, .int x1_42), (2, .int x2_42), (4, .int x4_94), (5, .int x5_94), (6, .int x6_94), (7, .int x7_42), (8, .int x8_42), (9, .int x9_94), (10, .int x10_94), (11, .int x11_94), (12, .int x12_94)]) hx hb dL_areRows_276 rfl hl (by decide) rfl (fun ls hl => ?_)
            refine lv_iinc (v := (x9_94 + 1)) (lv' := [(9, .int (x9_94 + 1)), (3, .int (x3_94 + x11_94)), (0, .ref o0), (1, .int x1_42), (2, .int x2_42), (4, .int x4_94), (5, .int x5_94), (6, .int x6_94), (7, .int x7_42), (8, .int x8_42), (10, .int x10_94), (11, .int x11_94), (12, .int x12_94)]) hx hb dL_areRows_277 hl (k := 9) rfl rfl (by decide) rfl (fun ls hl => ?_)
            refine lv_goto (tgt := 42) hx hb dL_areRows_280 (by decide) ?_
            exact ih42 x1_42 x2_42 x7_42 x8_42 (x3_94 + x11_94) x4_94 x5_94 x6_94 (x9_94 + 1) hF _ (lv_sub hl [2, 3, 4, 1, 5, 6, 7, 8, 9, 0] rfl)
          · have hF := (if_neg c_101).symm.trans hF
            refine lv_aload_n hx hb dL_areRows_104 rfl (lv_at hl 0 rfl) ?_
            refine lv_iload hx hb dL_areRows_105 (lv_at hl 12 rfl) ?_
            refine lv_iconst (v := (2 : Int32)) hx hb dL_areRows_107 (by decide) ?_
            obtain ⟨q_108, hq_108, hF⟩ := bindE hF
            have hPc := hP
            obtain ⟨vs_108, hv_108⟩ := OB_recv hO0
            refine vp_callSi (va_Run.run (va_runV (As := [.int x12_94, .int (2 : Int32)]) (rest := []) ⟨hx, hb, hml, hown, hts⟩ (o_word l dC dI cI cZ cO o0 w0 v_g0 x12_94 (2 : Int32) q_108 hO0 hq_108) (cwV 2 hts gL_areRows_X3_word rfl rfl rfl (by decide +kernel) ⟨Nat.le_of_ble_eq_true rfl, Nat.le_of_ble_eq_true rfl⟩) ⟨fb_rd, va_recv hK hPc (ci := 3) (q0 := 0) rfl hv_108, pre_rd hPc hK hN⟩ rfl rfl hl.1 rfl (lv_room (Nat.le_of_ble_eq_true rfl)) dL_areRows_108 ⟨Nat.zero_le _, Nat.zero_le _⟩)) (fun z_108 hz_108 => ?_)
            subst hz_108
            refine lv_istore (lv' := [(13, .int q_108), (0, .ref o0), (1, .int x1_42), (2, .int x2_42), (3, .int x3_94), (4, .int x4_94), (5, .int x5_94), (6, .int x6_94), (7, .int x7_42), (8, .int x8_42), (9, .int x9_94), (10, .int x10_94), (11, .int x11_94), (12, .int x12_94)]) hx hb dL_areRows_111 hl (by decide) rfl (fun ls hl => ?_)
            refine lv_aload_n hx hb dL_areRows_113 rfl (lv_at hl 1 rfl) ?_
            refine lv_iload hx hb dL_areRows_114 (lv_at hl 13 rfl) ?_
            refine lv_iconst (v := (3 : Int32)) hx hb dL_areRows_116 (by decide) ?_
            obtain ⟨q_117, hq_117, hF⟩ := bindE hF
            have hPc := hP
            obtain ⟨vs_117, hv_117⟩ := OB_recv hO0
            refine vp_callSi (va_Run.run (va_runV (As := [.int x12_94, .int (3 : Int32)]) (rest := []) ⟨hx, hb, hml, hown, hts⟩ (o_word l dC dI cI cZ cO o0 w0 v_g0 x12_94 (3 : Int32) q_117 hO0 hq_117) (cwV 2 hts gL_areRows_X3_word rfl rfl rfl (by decide +kernel) ⟨Nat.le_of_ble_eq_true rfl, Nat.le_of_ble_eq_true rfl⟩) ⟨fb_rd, va_recv hK hPc (ci := 3) (q0 := 0) rfl hv_117, pre_rd hPc hK hN⟩ rfl rfl hl.1 rfl (lv_room (Nat.le_of_ble_eq_true rfl)) dL_areRows_117 ⟨Nat.zero_le _, Nat.zero_le _⟩)) (fun z_117 hz_117 => ?_)
            subst hz_117
            refine lv_istore (lv' := [(14, .int q_117), (13, .int q_108), (0, .ref o0), (1, .int x1_42), (2, .int x2_42), (3, .int x3_94), (4, .int x4_94), (5, .int x5_94), (6, .int x6_94), (7, .int x7_42), (8, .int x8_42), (9, .int x9_94), (10, .int x10_94), (11, .int x11_94), (12, .int x12_94)]) hx hb dL_areRows_120 hl (by decide) rfl (fun ls hl => ?_)
            refine lv_bipush (v := (100 : Int32)) hx hb dL_areRows_122 (by decide) ?_
            refine lv_iload hx hb dL_areRows_124 (lv_at hl 11 rfl) ?_
            refine lv_imul hx hb dL_areRows_126 ?_
            refine lv_iload hx hb dL_areRows_127 (lv_at hl 10 rfl) ?_
            refine lv_icmp_lt (tgt := 154) hx hb dL_areRows_129 (by decide) (fun c_129 => ?_) (fun c_129 => ?_)
            · have hF := (if_pos c_129).symm.trans hF
              exact B154 x4_94 x5_94 x6_94 x12_94 q_108 q_117 hF _ (lv_sub hl [2, 3, 4, 5, 6, 7, 8, 9, 10, 11, 12, 13, 14, 1, 0] rfl)
            · have hF := (if_neg c_129).symm.trans hF
              refine lv_bipush (v := (100 : Int32)) hx hb dL_areRows_132 (by decide) ?_
              refine lv_iload hx hb dL_areRows_134 (lv_at hl 11 rfl) ?_
              refine lv_imul hx hb dL_areRows_136 ?_
              refine lv_iload hx hb dL_areRows_137 (lv_at hl 10 rfl) ?_
              refine lv_bipush (v := (100 : Int32)) hx hb dL_areRows_139 (by decide) ?_
              refine lv_iload hx hb dL_areRows_141 (lv_at hl 9 rfl) ?_
              refine lv_iconst (v := (1 : Int32)) hx hb dL_areRows_143 (by decide) ?_
              refine lv_isub hx hb dL_areRows_144 ?_
              refine lv_imul hx hb dL_areRows_145 ?_
              refine lv_iadd hx hb dL_areRows_146 ?_
              refine lv_icmp_gt (tgt := 154) hx hb dL_areRows_147 (by decide) (fun c_147 => ?_) (fun c_147 => ?_)
              · have hF := (if_pos c_147).symm.trans hF
                exact B154 x4_94 x5_94 x6_94 x12_94 q_108 q_117 hF _ (lv_sub hl [2, 3, 4, 5, 6, 7, 8, 9, 10, 11, 12, 13, 14, 1, 0] rfl)
              · have hF := (if_neg c_147).symm.trans hF
                refine lv_iconst (v := (1 : Int32)) hx hb dL_areRows_150 (by decide) ?_
                refine lv_goto (tgt := 155) hx hb dL_areRows_151 (by decide) ?_
                exact B155 x4_94 x5_94 x6_94 x12_94 q_108 q_117 (1 : Int32) hF _ (lv_sub hl [2, 3, 4, 5, 6, 7, 8, 9, 10, 11, 12, 13, 14, 1, 0] rfl)
      rw [f_L_areRows_42] at hF
      refine lv_iload hx hb dL_areRows_42 (lv_at hl 9 rfl) ?_
      refine lv_iload_n hx hb dL_areRows_44 rfl (lv_at hl 1 rfl) ?_
      refine lv_icmp_ge (tgt := 283) hx hb dL_areRows_45 (by decide) (fun c_45 => ?_) (fun c_45 => ?_)
      · have hF := (if_pos c_45).symm.trans hF
        refine lv_iload_n hx hb dL_areRows_283 rfl (lv_at hl 1 rfl) ?_
        refine lv_iload hx hb dL_areRows_284 (lv_at hl 7 rfl) ?_
        refine lv_icmp_ge (tgt := 293) hx hb dL_areRows_286 (by decide) (fun c_286 => ?_) (fun c_286 => ?_)
        · have hF := (if_pos c_286).symm.trans hF
          refine lv_bipush (v := (100 : Int32)) hx hb dL_areRows_293 (by decide) ?_
          refine lv_iload_n hx hb dL_areRows_295 rfl (lv_at hl 1 rfl) ?_
          refine lv_iload hx hb dL_areRows_296 (lv_at hl 7 rfl) ?_
          refine lv_isub hx hb dL_areRows_298 ?_
          refine lv_imul hx hb dL_areRows_299 ?_
          exact B300 x1_42 x2_42 x3_42 x4_42 x5_42 x6_42 x8_42 ((100 : Int32) * (x1_42 - x7_42)) hF _ (lv_sub hl [0, 1, 2, 3, 4, 5, 6, 8] rfl)
        · have hF := (if_neg c_286).symm.trans hF
          refine lv_iconst (v := (0 : Int32)) hx hb dL_areRows_289 (by decide) ?_
          refine lv_goto (tgt := 300) hx hb dL_areRows_290 (by decide) ?_
          exact B300 x1_42 x2_42 x3_42 x4_42 x5_42 x6_42 x8_42 (0 : Int32) hF _ (lv_sub hl [0, 1, 2, 3, 4, 5, 6, 8] rfl)
      · have hF := (if_neg c_45).symm.trans hF
        refine lv_aload_n hx hb dL_areRows_48 rfl (lv_at hl 0 rfl) ?_
        refine lv_iload hx hb dL_areRows_49 (lv_at hl 9 rfl) ?_
        refine lv_iconst (v := (0 : Int32)) hx hb dL_areRows_51 (by decide) ?_
        obtain ⟨q_52, hq_52, hF⟩ := bindE hF
        have hPc := hP
        obtain ⟨vs_52, hv_52⟩ := OB_recv hO0
        refine vp_callSi (va_Run.run (va_runV (As := [.int x9_42, .int (0 : Int32)]) (rest := []) ⟨hx, hb, hml, hown, hts⟩ (o_row l dC dI cI cZ cO o0 w0 v_g0 x9_42 (0 : Int32) q_52 hO0 hq_52) (cwV 2 hts gL_areRows_X3_row rfl rfl rfl (by decide +kernel) ⟨Nat.le_of_ble_eq_true rfl, Nat.le_of_ble_eq_true rfl⟩) ⟨fb_rd, va_recv hK hPc (ci := 3) (q0 := 0) rfl hv_52, pre_rd hPc hK hN⟩ rfl rfl hl.1 rfl (lv_room (Nat.le_of_ble_eq_true rfl)) dL_areRows_52 ⟨Nat.zero_le _, Nat.zero_le _⟩)) (fun z_52 hz_52 => ?_)
        subst hz_52
        refine lv_istore (lv' := [(10, .int q_52), (0, .ref o0), (1, .int x1_42), (2, .int x2_42), (3, .int x3_42), (4, .int x4_42), (5, .int x5_42), (6, .int x6_42), (7, .int x7_42), (8, .int x8_42), (9, .int x9_42)]) hx hb dL_areRows_55 hl (by decide) rfl (fun ls hl => ?_)
        refine lv_aload_n hx hb dL_areRows_57 rfl (lv_at hl 1 rfl) ?_
        refine lv_iload hx hb dL_areRows_58 (lv_at hl 10 rfl) ?_
        refine lv_iconst (v := (1 : Int32)) hx hb dL_areRows_60 (by decide) ?_
        obtain ⟨q_61, hq_61, hF⟩ := bindE hF
        have hPc := hP
        obtain ⟨vs_61, hv_61⟩ := OB_recv hO0
        refine vp_callSi (va_Run.run (va_runV (As := [.int x9_42, .int (1 : Int32)]) (rest := []) ⟨hx, hb, hml, hown, hts⟩ (o_row l dC dI cI cZ cO o0 w0 v_g0 x9_42 (1 : Int32) q_61 hO0 hq_61) (cwV 2 hts gL_areRows_X3_row rfl rfl rfl (by decide +kernel) ⟨Nat.le_of_ble_eq_true rfl, Nat.le_of_ble_eq_true rfl⟩) ⟨fb_rd, va_recv hK hPc (ci := 3) (q0 := 0) rfl hv_61, pre_rd hPc hK hN⟩ rfl rfl hl.1 rfl (lv_room (Nat.le_of_ble_eq_true rfl)) dL_areRows_61 ⟨Nat.zero_le _, Nat.zero_le _⟩)) (fun z_61 hz_61 => ?_)
        subst hz_61
        refine lv_istore (lv' := [(11, .int q_61), (10, .int q_52), (0, .ref o0), (1, .int x1_42), (2, .int x2_42), (3, .int x3_42), (4, .int x4_42), (5, .int x5_42), (6, .int x6_42), (7, .int x7_42), (8, .int x8_42), (9, .int x9_42)]) hx hb dL_areRows_64 hl (by decide) rfl (fun ls hl => ?_)
        refine lv_iload hx hb dL_areRows_66 (lv_at hl 1 rfl) ?_
        refine lv_iload_n hx hb dL_areRows_68 rfl (lv_at hl 5 rfl) ?_
        refine lv_icmp_ne (tgt := 88) hx hb dL_areRows_69 (by decide) (fun c_69 => ?_) (fun c_69 => ?_)
        · have hF := (if_neg c_69).symm.trans hF
          refine lv_iconst (v := (0 : Int32)) hx hb dL_areRows_88 (by decide) ?_
          have hF : some (0 : Int32) = some r := hF
          cases hF
          subst hQ
          exact W.zret (ty := .boolean) hx hb hr rfl (fun t ht hW => ⟨_, rfl, rfl, ht⟩) (fun q hq => absurd hq List.not_mem_nil) dL_areRows_89
        · have hF := (if_pos c_69).symm.trans hF
          refine lv_iload hx hb dL_areRows_72 (lv_at hl 0 rfl) ?_
          refine lv_iconst (v := (1 : Int32)) hx hb dL_areRows_74 (by decide) ?_
          refine lv_icmp_lt (tgt := 88) hx hb dL_areRows_75 (by decide) (fun c_75 => ?_) (fun c_75 => ?_)
          · have hF := (if_pos c_75).symm.trans hF
            refine lv_iconst (v := (0 : Int32)) hx hb dL_areRows_88 (by decide) ?_
            have hF : some (0 : Int32) = some r := hF
            cases hF
            subst hQ
            exact W.zret (ty := .boolean) hx hb hr rfl (fun t ht hW => ⟨_, rfl, rfl, ht⟩) (fun q hq => absurd hq List.not_mem_nil) dL_areRows_89
          · have hF := (if_neg c_75).symm.trans hF
            refine lv_iload hx hb dL_areRows_78 (lv_at hl 0 rfl) ?_
            refine lv_aload_n hx hb dL_areRows_80 rfl (lv_at hl 2 rfl) ?_
            refine lv_iconst (v := (0 : Int32)) hx hb dL_areRows_81 (by decide) ?_
            obtain ⟨q_82, hq_82, hF⟩ := bindE hF
            have hPc := hP
            obtain ⟨vs_82, hv_82⟩ := OB_recv hO0
            refine vp_callSi (va_Run.run (va_runV (As := [.int (0 : Int32)]) (rest := [.int q_61]) ⟨hx, hb, hml, hown, hts⟩ (o_setting l dC dI cI cZ cO o0 w0 v_g0 (0 : Int32) q_82 hO0 hq_82) (cwV 1 hts gL_areRows_X3_setting rfl rfl rfl (by decide +kernel) ⟨Nat.le_of_ble_eq_true rfl, Nat.le_of_ble_eq_true rfl⟩) ⟨fb_rd, va_recv hK hPc (ci := 3) (q0 := 0) rfl hv_82, pre_rd hPc hK hN⟩ rfl rfl hl.1 rfl (lv_room (Nat.le_of_ble_eq_true rfl)) dL_areRows_82 ⟨Nat.zero_le _, Nat.zero_le _⟩)) (fun z_82 hz_82 => ?_)
            subst hz_82
            refine lv_icmp_le (tgt := 90) hx hb dL_areRows_85 (by decide) (fun c_85 => ?_) (fun c_85 => ?_)
            · have hF := (if_pos c_85).symm.trans hF
              refine lv_iload hx hb dL_areRows_90 (lv_at hl 1 rfl) ?_
              refine lv_istore (lv' := [(12, .int q_52), (11, .int q_61), (10, .int q_52), (0, .ref o0), (1, .int x1_42), (2, .int x2_42), (3, .int x3_42), (4, .int x4_42), (5, .int x5_42), (6, .int x6_42), (7, .int x7_42), (8, .int x8_42), (9, .int x9_42)]) hx hb dL_areRows_92 hl (by decide) rfl (fun ls hl => ?_)
              exact B94 gas x3_42 x9_42 q_52 q_61 x4_42 x5_42 x6_42 q_52 hF _ (lv_sub hl [3, 4, 5, 6, 7, 8, 9, 10, 11, 12, 2, 1, 0] rfl)
            · have hF := (if_neg c_85).symm.trans hF
              refine lv_iconst (v := (0 : Int32)) hx hb dL_areRows_88 (by decide) ?_
              have hF : some (0 : Int32) = some r := hF
              cases hF
              subst hQ
              exact W.zret (ty := .boolean) hx hb hr rfl (fun t ht hW => ⟨_, rfl, rfl, ht⟩) (fun q hq => absurd hq List.not_mem_nil) dL_areRows_89
  unfold f_L_areRows at hF
  refine lv_aload_n hx hb dL_areRows_0 rfl (lv_at hl 0 rfl) ?_
  refine lv_iconst (v := (1 : Int32)) hx hb dL_areRows_1 (by decide) ?_
  obtain ⟨q_2, hq_2, hF⟩ := bindE hF
  have hPc := hP
  obtain ⟨vs_2, hv_2⟩ := OB_recv hO0
  refine vp_callSi (va_Run.run (va_runV (As := [.int (1 : Int32)]) (rest := []) ⟨hx, hb, hml, hown, hts⟩ (o_told l dC dI cI cZ cO o0 w0 v_g0 (1 : Int32) q_2 hO0 hq_2) (cwV 1 hts gL_areRows_X3_told rfl rfl rfl (by decide +kernel) ⟨Nat.le_of_ble_eq_true rfl, Nat.le_of_ble_eq_true rfl⟩) ⟨fb_rd, va_recv hK hPc (ci := 3) (q0 := 0) rfl hv_2, pre_rd hPc hK hN⟩ rfl rfl hl.1 rfl (lv_room (Nat.le_of_ble_eq_true rfl)) dL_areRows_2 ⟨Nat.zero_le _, Nat.zero_le _⟩)) (fun z_2 hz_2 => ?_)
  subst hz_2
  refine lv_istore_n (lv' := [(1, .int q_2), (0, .ref o0)]) hx hb dL_areRows_5 rfl hl (by decide) rfl (fun ls hl => ?_)
  refine lv_aload_n hx hb dL_areRows_6 rfl (lv_at hl 1 rfl) ?_
  refine lv_iconst (v := (0 : Int32)) hx hb dL_areRows_7 (by decide) ?_
  obtain ⟨q_8, hq_8, hF⟩ := bindE hF
  have hPc := hP
  obtain ⟨vs_8, hv_8⟩ := OB_recv hO0
  refine vp_callSi (va_Run.run (va_runV (As := [.int (0 : Int32)]) (rest := []) ⟨hx, hb, hml, hown, hts⟩ (o_told l dC dI cI cZ cO o0 w0 v_g0 (0 : Int32) q_8 hO0 hq_8) (cwV 1 hts gL_areRows_X3_told rfl rfl rfl (by decide +kernel) ⟨Nat.le_of_ble_eq_true rfl, Nat.le_of_ble_eq_true rfl⟩) ⟨fb_rd, va_recv hK hPc (ci := 3) (q0 := 0) rfl hv_8, pre_rd hPc hK hN⟩ rfl rfl hl.1 rfl (lv_room (Nat.le_of_ble_eq_true rfl)) dL_areRows_8 ⟨Nat.zero_le _, Nat.zero_le _⟩)) (fun z_8 hz_8 => ?_)
  subst hz_8
  refine lv_istore_n (lv' := [(2, .int q_8), (1, .int q_2), (0, .ref o0)]) hx hb dL_areRows_11 rfl hl (by decide) rfl (fun ls hl => ?_)
  refine lv_iconst (v := (0 : Int32)) hx hb dL_areRows_12 (by decide) ?_
  refine lv_istore_n (lv' := [(3, .int (0 : Int32)), (2, .int q_8), (1, .int q_2), (0, .ref o0)]) hx hb dL_areRows_13 rfl hl (by decide) rfl (fun ls hl => ?_)
  refine lv_iconst (v := (0 : Int32)) hx hb dL_areRows_14 (by decide) ?_
  refine lv_istore (lv' := [(4, .int (0 : Int32)), (3, .int (0 : Int32)), (2, .int q_8), (1, .int q_2), (0, .ref o0)]) hx hb dL_areRows_15 hl (by decide) rfl (fun ls hl => ?_)
  refine lv_iconst (v := (0 : Int32)) hx hb dL_areRows_17 (by decide) ?_
  refine lv_istore (lv' := [(5, .int (0 : Int32)), (4, .int (0 : Int32)), (3, .int (0 : Int32)), (2, .int q_8), (1, .int q_2), (0, .ref o0)]) hx hb dL_areRows_18 hl (by decide) rfl (fun ls hl => ?_)
  refine lv_bipush (v := (-9 : Int32)) hx hb dL_areRows_20 (by decide) ?_
  refine lv_istore (lv' := [(6, .int (-9 : Int32)), (5, .int (0 : Int32)), (4, .int (0 : Int32)), (3, .int (0 : Int32)), (2, .int q_8), (1, .int q_2), (0, .ref o0)]) hx hb dL_areRows_22 hl (by decide) rfl (fun ls hl => ?_)
  refine lv_aload_n hx hb dL_areRows_24 rfl (lv_at hl 6 rfl) ?_
  refine lv_iconst (v := (1 : Int32)) hx hb dL_areRows_25 (by decide) ?_
  obtain ⟨q_26, hq_26, hF⟩ := bindE hF
  have hPc := hP
  obtain ⟨vs_26, hv_26⟩ := OB_recv hO0
  refine vp_callSi (va_Run.run (va_runV (As := [.int (1 : Int32)]) (rest := []) ⟨hx, hb, hml, hown, hts⟩ (o_setting l dC dI cI cZ cO o0 w0 v_g0 (1 : Int32) q_26 hO0 hq_26) (cwV 1 hts gL_areRows_X3_setting rfl rfl rfl (by decide +kernel) ⟨Nat.le_of_ble_eq_true rfl, Nat.le_of_ble_eq_true rfl⟩) ⟨fb_rd, va_recv hK hPc (ci := 3) (q0 := 0) rfl hv_26, pre_rd hPc hK hN⟩ rfl rfl hl.1 rfl (lv_room (Nat.le_of_ble_eq_true rfl)) dL_areRows_26 ⟨Nat.zero_le _, Nat.zero_le _⟩)) (fun z_26 hz_26 => ?_)
  subst hz_26
  refine lv_istore (lv' := [(7, .int q_26), (6, .int (-9 : Int32)), (5, .int (0 : Int32)), (4, .int (0 : Int32)), (3, .int (0 : Int32)), (2, .int q_8), (1, .int q_2), (0, .ref o0)]) hx hb dL_areRows_29 hl (by decide) rfl (fun ls hl => ?_)
  refine lv_aload_n hx hb dL_areRows_31 rfl (lv_at hl 7 rfl) ?_
  refine lv_bipush (v := (8 : Int32)) hx hb dL_areRows_32 (by decide) ?_
  obtain ⟨q_34, hq_34, hF⟩ := bindE hF
  have hPc := hP
  obtain ⟨vs_34, hv_34⟩ := OB_recv hO0
  refine vp_callSi (va_Run.run (va_runV (As := [.int (8 : Int32)]) (rest := []) ⟨hx, hb, hml, hown, hts⟩ (o_told l dC dI cI cZ cO o0 w0 v_g0 (8 : Int32) q_34 hO0 hq_34) (cwV 1 hts gL_areRows_X3_told rfl rfl rfl (by decide +kernel) ⟨Nat.le_of_ble_eq_true rfl, Nat.le_of_ble_eq_true rfl⟩) ⟨fb_rd, va_recv hK hPc (ci := 3) (q0 := 0) rfl hv_34, pre_rd hPc hK hN⟩ rfl rfl hl.1 rfl (lv_room (Nat.le_of_ble_eq_true rfl)) dL_areRows_34 ⟨Nat.zero_le _, Nat.zero_le _⟩)) (fun z_34 hz_34 => ?_)
  subst hz_34
  refine lv_istore (lv' := [(8, .int q_34), (7, .int q_26), (6, .int (-9 : Int32)), (5, .int (0 : Int32)), (4, .int (0 : Int32)), (3, .int (0 : Int32)), (2, .int q_8), (1, .int q_2), (0, .ref o0)]) hx hb dL_areRows_37 hl (by decide) rfl (fun ls hl => ?_)
  refine lv_iconst (v := (0 : Int32)) hx hb dL_areRows_39 (by decide) ?_
  refine lv_istore (lv' := [(9, .int (0 : Int32)), (8, .int q_34), (7, .int q_26), (6, .int (-9 : Int32)), (5, .int (0 : Int32)), (4, .int (0 : Int32)), (3, .int (0 : Int32)), (2, .int q_8), (1, .int q_2), (0, .ref o0)]) hx hb dL_areRows_40 hl (by decide) rfl (fun ls hl => ?_)
  exact B42 gas q_2 q_8 q_26 q_34 (0 : Int32) (0 : Int32) (0 : Int32) (-9 : Int32) (0 : Int32) hF _ (lv_sub hl [9, 8, 7, 6, 5, 4, 3, 2, 1, 0] rfl)
