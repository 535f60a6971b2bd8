def f_L_isEstimate_261 (v_g0 : GS) (x3 : Int32) (x5 : Int32) (x7 : Int32) (s0 : Int32) : Option Int32 :=
  if s0 = (0 : Int32) then
      some (0 : Int32)
    else
      if x5 < (2 : Int32) then
        some (1 : Int32)
      else
        (g_told (6 : Int32) v_g0).bind fun q277 =>
        (g_trail (0 : Int32) (1 : Int32) v_g0).bind fun q286 =>
        (g_trail (0 : Int32) (0 : Int32) v_g0).bind fun q296 =>
        if (x7 - q296) = (0 : Int32) then none else
        if q277 = (((100 : Int32) * (x3 - q286)) / (x7 - q296)) then
          some (1 : Int32)
        else
          some (0 : Int32)
def f_L_isEstimate_260 (v_g0 : GS) (x3 : Int32) (x5 : Int32) (x7 : Int32) : Option Int32 :=
  f_L_isEstimate_261 v_g0 x3 x5 x7 (0 : Int32)
def f_L_isEstimate_219 (v_g0 : GS) (x3 : Int32) (x5 : Int32) (x7 : Int32) : Option Int32 :=
  (g_trail x5 (0 : Int32) v_g0).bind fun q223 =>
    if q223 = (-9 : Int32) then
      (g_told (17 : Int32) v_g0).bind fun q235 =>
      (g_heard q235 v_g0).bind fun q238 =>
      if q238 = (-9 : Int32) then
        (g_told (17 : Int32) v_g0).bind fun q249 =>
        if (4 : Int32) < q249 then
          f_L_isEstimate_260 v_g0 x3 x5 x7
        else
          f_L_isEstimate_261 v_g0 x3 x5 x7 (1 : Int32)
      else
        f_L_isEstimate_260 v_g0 x3 x5 x7
    else
      f_L_isEstimate_260 v_g0 x3 x5 x7
def f_L_isEstimate_177 (k121 : Int32 → Int32 → Int32 → Int32 → Option Int32) (v_g0 : GS) (x9 : Int32) (s0 : Int32) : Option Int32 :=
  (g_trail x9 (0 : Int32) v_g0).bind fun q183 =>
    (g_trail x9 (1 : Int32) v_g0).bind fun q192 =>
    k121 s0 q183 q192 (x9 + 1)
def f_L_isEstimate_176 (k121 : Int32 → Int32 → Int32 → Int32 → Option Int32) (v_g0 : GS) (x9 : Int32) : Option Int32 :=
  f_L_isEstimate_177 k121 v_g0 x9 (0 : Int32)
def f_L_isEstimate_121 (v_g0 : GS) (x3 : Int32) (x5 : Int32) : Nat → Int32 → Int32 → Int32 → Int32 → Option Int32
  | 0, _, _, _, _ => none
  | n + 1, x6, x7, x8, x9 =>
    if x5 ≤ x9 then
      if x6 = (0 : Int32) then
        f_L_isEstimate_260 v_g0 x3 x5 x7
      else
        if x5 = (0 : Int32) then
          f_L_isEstimate_219 v_g0 x3 x5 x7
        else
          if x8 = x3 then
            f_L_isEstimate_219 v_g0 x3 x5 x7
          else
            f_L_isEstimate_260 v_g0 x3 x5 x7
    else
      if x6 = (0 : Int32) then
        f_L_isEstimate_176 (f_L_isEstimate_121 v_g0 x3 x5 n) v_g0 x9
      else
        (g_trail x9 (0 : Int32) v_g0).bind fun q137 =>
        if q137 ≤ x7 then
          f_L_isEstimate_176 (f_L_isEstimate_121 v_g0 x3 x5 n) v_g0 x9
        else
          (g_trail x9 (1 : Int32) v_g0).bind fun q149 =>
          if q149 ≤ x8 then
            f_L_isEstimate_176 (f_L_isEstimate_121 v_g0 x3 x5 n) v_g0 x9
          else
            (g_trail x9 (0 : Int32) v_g0).bind fun q161 =>
            (g_told (4 : Int32) v_g0).bind fun q166 =>
            if q166 < q161 then
              f_L_isEstimate_176 (f_L_isEstimate_121 v_g0 x3 x5 n) v_g0 x9
            else
              f_L_isEstimate_177 (f_L_isEstimate_121 v_g0 x3 x5 n) v_g0 x9 (1 : Int32)
def f_L_isEstimate_80 (v_g0 : GS) (x1 : Int32) (x2 : Int32) (x3 : Int32) (x4 : Int32) (x5 : Int32) (s0 : Int32) : Option Int32 :=
  if s0 = (0 : Int32) then
      f_L_isEstimate_121 v_g0 x3 x5 gas (0 : Int32) (-1 : Int32) (-1 : Int32) (0 : Int32)
    else
      if x3 ≤ x1 then
        f_L_isEstimate_121 v_g0 x3 x5 gas (1 : Int32) (-1 : Int32) (-1 : Int32) (0 : Int32)
      else
        if x1 = (x2 - (1 : Int32)) then
          f_L_isEstimate_121 v_g0 x3 x5 gas (1 : Int32) (-1 : Int32) (-1 : Int32) (0 : Int32)
        else
          if x1 = x4 then
            f_L_isEstimate_121 v_g0 x3 x5 gas (1 : Int32) (-1 : Int32) (-1 : Int32) (0 : Int32)
          else
            f_L_isEstimate_121 v_g0 x3 x5 gas (0 : Int32) (-1 : Int32) (-1 : Int32) (0 : Int32)
def f_L_isEstimate_79 (v_g0 : GS) (x1 : Int32) (x2 : Int32) (x3 : Int32) (x4 : Int32) (x5 : Int32) : Option Int32 :=
  f_L_isEstimate_80 v_g0 x1 x2 x3 x4 x5 (0 : Int32)
def f_L_isEstimate_66 (v_g0 : GS) (x1 : Int32) (x2 : Int32) (x3 : Int32) (x4 : Int32) (x5 : Int32) : Option Int32 :=
  (g_told (6 : Int32) v_g0).bind fun q69 =>
    if q69 < (0 : Int32) then
      f_L_isEstimate_79 v_g0 x1 x2 x3 x4 x5
    else
      f_L_isEstimate_80 v_g0 x1 x2 x3 x4 x5 (1 : Int32)
def f_L_isEstimate (v_g0 : GS) : Option Int32 :=
  (g_told (7 : Int32) v_g0).bind fun q3 =>
  (g_told (0 : Int32) v_g0).bind fun q9 =>
  (g_told (5 : Int32) v_g0).bind fun q15 =>
  (g_told (16 : Int32) v_g0).bind fun q22 =>
  (g_told (15 : Int32) v_g0).bind fun q30 =>
  if q15 < (0 : Int32) then
    f_L_isEstimate_79 v_g0 q3 q9 q15 q22 q30
  else
    if q9 < q15 then
      f_L_isEstimate_79 v_g0 q3 q9 q15 q22 q30
    else
      if q3 < (0 : Int32) then
        f_L_isEstimate_79 v_g0 q3 q9 q15 q22 q30
      else
        if q9 ≤ q3 then
          f_L_isEstimate_79 v_g0 q3 q9 q15 q22 q30
        else
          if q22 = (-9 : Int32) then
            f_L_isEstimate_66 v_g0 q3 q9 q15 q22 q30
          else
            if q22 < q3 then
              f_L_isEstimate_79 v_g0 q3 q9 q15 q22 q30
            else
              f_L_isEstimate_66 v_g0 q3 q9 q15 q22 q30
def rm_L_isEstimate : Room := { frames := 5, cells := 0, slots := 0, locals := 104 }
set_option maxHeartbeats 4000000 in
set_option maxRecDepth 100000 in
theorem c_L_isEstimate (l : Launch) (dC : Nat → ClassId) (dI : Nat → Nat → Nat) (cI cZ cO : ClassId) (o0 : Nat) (w0 : va_W) (v_g0 : GS) (r : Int32) (hO0 : OB cI cZ cO o0 v_g0 w0) (hF : f_L_isEstimate v_g0 = some r) : Met l yL_isEstimate wsL_isEstimate rm_L_isEstimate (va_Pc [.ref o0] (rdW dC dI cI cZ cO w0)) (vp_Si (fun q => r = q)) 0 0 (fun _ => False) := by
  refine Met.ofW (cc := cL_isEstimate) (maxL := 10) (ret := (some .boolean)) (by decide) rfl ?_
  intro p e s m args below meth c s₁ B hml hv
  obtain ⟨rfl, hP, hK, hN⟩ := hv
  have hx := B.exec
  have hb := B.bytes
  have hr := B.returns
  have hts := atoms_spec (ws := wsL_isEstimate) B.pre
  have hown : s.vm.findClass RL = some m.cls := findClass_of_methodNamed B.named
  have hlocks := B.notSynchronized
  obtain ⟨Q, hQ⟩ : ∃ Q, Q = MQ below (vp_Si (fun q => r = q)) ([.ref o0] : List Value).toArray s 0 0 (fun _ => False) := ⟨_, rfl⟩
  rw [← hQ]
  have hS : va_S (fun _ => False) s.heap s.heap [] := va_S.rf
  have hl := lv_entry ([.ref o0]) (n := 10) (Nat.le_of_ble_eq_true rfl)
  rw [lg_entry_eq]
  generalize (lg_sl ([.ref o0]) ++ List.replicate (10 - (lg_sl ([.ref o0])).length) Slot.unset).toArray = ls at hl ⊢
  have hl : lv_has ls 10 [(0, .ref o0)] := hl
  have B261 : ∀ (x3_261 : Int32) (x5_261 : Int32) (x7_261 : Int32) (s0_261 : Int32), f_L_isEstimate_261 v_g0 x3_261 x5_261 x7_261 s0_261 = some r → ∀ ls : Array Slot, lv_has ls 10 [(0, .ref o0), (3, .int x3_261), (5, .int x5_261), (7, .int x7_261)] → W p l e (headSpec wsL_isEstimate rm_L_isEstimate).room s m ([.ref o0] : List Value).toArray below meth c s.heap [] 0 0 Q (F0 m 261 ls [.int s0_261]) := by
    intro x3_261 x5_261 x7_261 s0_261 hF ls hl
    unfold f_L_isEstimate_261 at hF
    refine lv_istore (lv' := [(6, .int s0_261), (0, .ref o0), (3, .int x3_261), (5, .int x5_261), (7, .int x7_261)]) hx hb dL_isEstimate_261 hl (by decide) rfl (fun ls hl => ?_)
    refine lv_iload hx hb dL_isEstimate_263 (lv_at hl 0 rfl) ?_
    refine lv_if_eq (tgt := 308) hx hb dL_isEstimate_265 (by decide) (fun c_265 => ?_) (fun c_265 => ?_)
    · have hF := (if_pos c_265).symm.trans hF
      refine lv_iconst (v := (0 : Int32)) hx hb dL_isEstimate_308 (by decide) ?_
      have hF : some (0 : Int32) = some r := hF
      cases hF
      subst hQ
      exact W.zret (ty := .boolean) hx hb hr rfl (fun t ht hW => ⟨_, rfl, rfl, ht⟩) (fun q hq => absurd hq List.not_mem_nil) dL_isEstimate_309
    · have hF := (if_neg c_265).symm.trans hF
      refine lv_iload hx hb dL_isEstimate_268 (lv_at hl 3 rfl) ?_
      refine lv_iconst (v := (2 : Int32)) hx hb dL_isEstimate_270 (by decide) ?_
      refine lv_icmp_lt (tgt := 304) hx hb dL_isEstimate_271 (by decide) (fun c_271 => ?_) (fun c_271 => ?_)
      · have hF := (if_pos c_271).symm.trans hF
        refine lv_iconst (v := (1 : Int32)) hx hb dL_isEstimate_304 (by decide) ?_
        refine lv_goto (tgt := 309) hx hb dL_isEstimate_305 (by decide) ?_
        have hF : some (1 : Int32) = some r := hF
        cases hF
        subst hQ
        exact W.zret (ty := .boolean) hx hb hr rfl (fun t ht hW => ⟨_, rfl, rfl, ht⟩) (fun q hq => absurd hq List.not_mem_nil) dL_isEstimate_309
      · have hF := (if_neg c_271).symm.trans hF
        refine lv_aload_n hx hb dL_isEstimate_274 rfl (lv_at hl 1 rfl) ?_
        refine lv_bipush (v := (6 : Int32)) hx hb dL_isEstimate_275 (by decide) ?_
        obtain ⟨q_277, hq_277, hF⟩ := bindE hF
        have hPc := hP
        obtain ⟨vs_277, hv_277⟩ := OB_recv hO0
        refine vp_callSi (va_Run.run (va_runV (As := [.int (6 : Int32)]) (rest := []) ⟨hx, hb, hml, hown, hts⟩ (o_told l dC dI cI cZ cO o0 w0 v_g0 (6 : Int32) q_277 hO0 hq_277) (cwV 1 hts gL_isEstimate_X3_told rfl rfl rfl (by decide +kernel) ⟨Nat.le_of_ble_eq_true rfl, Nat.le_of_ble_eq_true rfl⟩) ⟨fb_rd, va_recv hK hPc (ci := 3) (q0 := 0) rfl hv_277, pre_rd hPc hK hN⟩ rfl rfl hl.1 rfl (lv_room (Nat.le_of_ble_eq_true rfl)) dL_isEstimate_277 ⟨Nat.zero_le _, Nat.zero_le _⟩)) (fun z_277 hz_277 => ?_)
        subst hz_277
        refine lv_bipush (v := (100 : Int32)) hx hb dL_isEstimate_280 (by decide) ?_
        refine lv_iload_n hx hb dL_isEstimate_282 rfl (lv_at hl 2 rfl) ?_
        refine lv_aload_n hx hb dL_isEstimate_283 rfl (lv_at hl 1 rfl) ?_
        refine lv_iconst (v := (0 : Int32)) hx hb dL_isEstimate_284 (by decide) ?_
        refine lv_iconst (v := (1 : Int32)) hx hb dL_isEstimate_285 (by decide) ?_
        obtain ⟨q_286, hq_286, hF⟩ := bindE hF
        have hPc := hP
        obtain ⟨vs_286, hv_286⟩ := OB_recv hO0
        refine vp_callSi (va_Run.run (va_runV (As := [.int (0 : Int32), .int (1 : Int32)]) (rest := [.int x3_261, .int (100 : Int32), .int q_277]) ⟨hx, hb, hml, hown, hts⟩ (o_trail l dC dI cI cZ cO o0 w0 v_g0 (0 : Int32) (1 : Int32) q_286 hO0 hq_286) (cwV 2 hts gL_isEstimate_X3_trail rfl rfl rfl (by decide +kernel) ⟨Nat.le_of_ble_eq_true rfl, Nat.le_of_ble_eq_true rfl⟩) ⟨fb_rd, va_recv hK hPc (ci := 3) (q0 := 0) rfl hv_286, pre_rd hPc hK hN⟩ rfl rfl hl.1 rfl (lv_room (Nat.le_of_ble_eq_true rfl)) dL_isEstimate_286 ⟨Nat.zero_le _, Nat.zero_le _⟩)) (fun z_286 hz_286 => ?_)
        subst hz_286
        refine lv_isub hx hb dL_isEstimate_289 ?_
        refine lv_imul hx hb dL_isEstimate_290 ?_
        refine lv_iload hx hb dL_isEstimate_291 (lv_at hl 4 rfl) ?_
        refine lv_aload_n hx hb dL_isEstimate_293 rfl (lv_at hl 1 rfl) ?_
        refine lv_iconst (v := (0 : Int32)) hx hb dL_isEstimate_294 (by decide) ?_
        refine lv_iconst (v := (0 : Int32)) hx hb dL_isEstimate_295 (by decide) ?_
        obtain ⟨q_296, hq_296, hF⟩ := bindE hF
        have hPc := hP
        obtain ⟨vs_296, hv_296⟩ := OB_recv hO0
        refine vp_callSi (va_Run.run (va_runV (As := [.int (0 : Int32), .int (0 : Int32)]) (rest := [.int x7_261, .int ((100 : Int32) * (x3_261 - q_286)), .int q_277]) ⟨hx, hb, hml, hown, hts⟩ (o_trail l dC dI cI cZ cO o0 w0 v_g0 (0 : Int32) (0 : Int32) q_296 hO0 hq_296) (cwV 2 hts gL_isEstimate_X3_trail rfl rfl rfl (by decide +kernel) ⟨Nat.le_of_ble_eq_true rfl, Nat.le_of_ble_eq_true rfl⟩) ⟨fb_rd, va_recv hK hPc (ci := 3) (q0 := 0) rfl hv_296, pre_rd hPc hK hN⟩ rfl rfl hl.1 rfl (lv_room (Nat.le_of_ble_eq_true rfl)) dL_isEstimate_296 ⟨Nat.zero_le _, Nat.zero_le _⟩)) (fun z_296 hz_296 => ?_)
        subst hz_296
        refine lv_isub hx hb dL_isEstimate_299 ?_
        by_cases b_300 : ((x7_261 - q_296) = (0 : Int32))
        · exact noneE ((if_pos b_300).symm.trans hF)
        have hF := (if_neg b_300).symm.trans hF
        refine lv_idiv hx hb dL_isEstimate_300 b_300 ?_
        refine lv_icmp_ne (tgt := 308) hx hb dL_isEstimate_301 (by decide) (fun c_301 => ?_) (fun c_301 => ?_)
        · have hF := (if_neg c_301).symm.trans hF
          refine lv_iconst (v := (0 : Int32)) hx hb dL_isEstimate_308 (by decide) ?_
          have hF : some (0 : Int32) = some r := hF
          cases hF
          subst hQ
          exact W.zret (ty := .boolean) hx hb hr rfl (fun t ht hW => ⟨_, rfl, rfl, ht⟩) (fun q hq => absurd hq List.not_mem_nil) dL_isEstimate_309
        · have hF := (if_pos c_301).symm.trans hF
          refine lv_iconst (v := (1 : Int32)) hx hb dL_isEstimate_304 (by decide) ?_
          refine lv_goto (tgt := 309) hx hb dL_isEstimate_305 (by decide) ?_
          have hF : some (1 : Int32) = some r := hF
          cases hF
          subst hQ
          exact W.zret (ty := .boolean) hx hb hr rfl (fun t ht hW => ⟨_, rfl, rfl, ht⟩) (fun q hq => absurd hq List.not_mem_nil) dL_isEstimate_309
  have B260 : ∀ (x3_260 : Int32) (x5_260 : Int32) (x7_260 : Int32), f_L_isEstimate_260 v_g0 x3_260 x5_260 x7_260 = some r → ∀ ls : Array Slot, lv_has ls 10 [(0, .ref o0), (3, .int x3_260), (5, .int x5_260), (7, .int x7_260)] → W p l e (headSpec wsL_isEstimate rm_L_isEstimate).room s m ([.ref o0] : List Value).toArray below meth c s.heap [] 0 0 Q (F0 m 260 ls []) := by
    intro x3_260 x5_260 x7_260 hF ls hl
    unfold f_L_isEstimate_260 at hF
    refine lv_iconst (v := (0 : Int32)) hx hb dL_isEstimate_260 (by decide) ?_
    exact B261 x3_260 x5_260 x7_260 (0 : Int32) hF _ (lv_sub hl [0, 1, 2, 3] rfl)
  have B219 : ∀ (x3_219 : Int32) (x5_219 : Int32) (x7_219 : Int32), f_L_isEstimate_219 v_g0 x3_219 x5_219 x7_219 = some r → ∀ ls : Array Slot, lv_has ls 10 [(0, .ref o0), (3, .int x3_219), (5, .int x5_219), (7, .int x7_219)] → W p l e (headSpec wsL_isEstimate rm_L_isEstimate).room s m ([.ref o0] : List Value).toArray below meth c s.heap [] 0 0 Q (F0 m 219 ls []) := by
    intro x3_219 x5_219 x7_219 hF ls hl
    unfold f_L_isEstimate_219 at hF
    refine lv_aload_n hx hb dL_isEstimate_219 rfl (lv_at hl 0 rfl) ?_
    refine lv_iload hx hb dL_isEstimate_220 (lv_at hl 2 rfl) ?_
    refine lv_iconst (v := (0 : Int32)) hx hb dL_isEstimate_222 (by decide) ?_
    obtain ⟨q_223, hq_223, hF⟩ := bindE hF
    have hPc := hP
    obtain ⟨vs_223, hv_223⟩ := OB_recv hO0
    refine vp_callSi (va_Run.run (va_runV (As := [.int x5_219, .int (0 : Int32)]) (rest := []) ⟨hx, hb, hml, hown, hts⟩ (o_trail l dC dI cI cZ cO o0 w0 v_g0 x5_219 (0 : Int32) q_223 hO0 hq_223) (cwV 2 hts gL_isEstimate_X3_trail rfl rfl rfl (by decide +kernel) ⟨Nat.le_of_ble_eq_true rfl, Nat.le_of_ble_eq_true rfl⟩) ⟨fb_rd, va_recv hK hPc (ci := 3) (q0 := 0) rfl hv_223, pre_rd hPc hK hN⟩ rfl rfl hl.1 rfl (lv_room (Nat.le_of_ble_eq_true rfl)) dL_isEstimate_223 ⟨Nat.zero_le _, Nat.zero_le _⟩)) (fun z_223 hz_223 => ?_)
    subst hz_223
    refine lv_bipush (v := (-9 : Int32)) hx hb dL_isEstimate_226 (by decide) ?_
    refine lv_icmp_ne (tgt := 260) hx hb dL_isEstimate_228 (by decide) (fun c_228 => ?_) (fun c_228 => ?_)
    · have hF := (if_neg c_228).symm.trans hF
      exact B260 x3_219 x5_219 x7_219 hF _ (lv_sub hl [0, 1, 2, 3] rfl)
    · have hF := (if_pos c_228).symm.trans hF
      refine lv_aload_n hx hb dL_isEstimate_231 rfl (lv_at hl 0 rfl) ?_
      refine lv_aload_n hx hb dL_isEstimate_232 rfl (lv_at hl 0 rfl) ?_
      refine lv_bipush (v := (17 : Int32)) hx hb dL_isEstimate_233 (by decide) ?_
      obtain ⟨q_235, hq_235, hF⟩ := bindE hF
      have hPc := hP
      obtain ⟨vs_235, hv_235⟩ := OB_recv hO0
      refine vp_callSi (va_Run.run (va_runV (As := [.int (17 : Int32)]) (rest := [.ref o0]) ⟨hx, hb, hml, hown, hts⟩ (o_told l dC dI cI cZ cO o0 w0 v_g0 (17 : Int32) q_235 hO0 hq_235) (cwV 1 hts gL_isEstimate_X3_told rfl rfl rfl (by decide +kernel) ⟨Nat.le_of_ble_eq_true rfl, Nat.le_of_ble_eq_true rfl⟩) ⟨fb_rd, va_recv hK hPc (ci := 3) (q0 := 0) rfl hv_235, pre_rd hPc hK hN⟩ rfl rfl hl.1 rfl (lv_room (Nat.le_of_ble_eq_true rfl)) dL_isEstimate_235 ⟨Nat.zero_le _, Nat.zero_le _⟩)) (fun z_235 hz_235 => ?_)
      subst hz_235
      obtain ⟨q_238, hq_238, hF⟩ := bindE hF
      have hPc := hP
      obtain ⟨vs_238, hv_238⟩ := OB_recv hO0
      refine vp_callSi (va_Run.run (va_runV (As := [.int q_235]) (rest := []) ⟨hx, hb, hml, hown, hts⟩ (o_heard l dC dI cI cZ cO o0 w0 v_g0 q_235 q_238 hO0 hq_238) (cwV 1 hts gL_isEstimate_X3_heard rfl rfl rfl (by decide +kernel) ⟨Nat.le_of_ble_eq_true rfl, Nat.le_of_ble_eq_true rfl⟩) ⟨fb_rd, va_recv hK hPc (ci := 3) (q0 := 0) rfl hv_238, pre_rd hPc hK hN⟩ rfl rfl hl.1 rfl (lv_room (Nat.le_of_ble_eq_true rfl)) dL_isEstimate_238 ⟨Nat.zero_le _, Nat.zero_le _⟩)) (fun z_238 hz_238 => ?_)
      subst hz_238
      refine lv_bipush (v := (-9 : Int32)) hx hb dL_isEstimate_241 (by decide) ?_
      refine lv_icmp_ne (tgt := 260) hx hb dL_isEstimate_243 (by decide) (fun c_243 => ?_) (fun c_243 => ?_)
      · have hF := (if_neg c_243).symm.trans hF
        exact B260 x3_219 x5_219 x7_219 hF _ (lv_sub hl [0, 1, 2, 3] rfl)
      · have hF := (if_pos c_243).symm.trans hF
        refine lv_aload_n hx hb dL_isEstimate_246 rfl (lv_at hl 0 rfl) ?_
        refine lv_bipush (v := (17 : Int32)) hx hb dL_isEstimate_247 (by decide) ?_
        obtain ⟨q_249, hq_249, hF⟩ := bindE hF
        have hPc := hP
        obtain ⟨vs_249, hv_249⟩ := OB_recv hO0
        refine vp_callSi (va_Run.run (va_runV (As := [.int (17 : Int32)]) (rest := []) ⟨hx, hb, hml, hown, hts⟩ (o_told l dC dI cI cZ cO o0 w0 v_g0 (17 : Int32) q_249 hO0 hq_249) (cwV 1 hts gL_isEstimate_X3_told rfl rfl rfl (by decide +kernel) ⟨Nat.le_of_ble_eq_true rfl, Nat.le_of_ble_eq_true rfl⟩) ⟨fb_rd, va_recv hK hPc (ci := 3) (q0 := 0) rfl hv_249, pre_rd hPc hK hN⟩ rfl rfl hl.1 rfl (lv_room (Nat.le_of_ble_eq_true rfl)) dL_isEstimate_249 ⟨Nat.zero_le _, Nat.zero_le _⟩)) (fun z_249 hz_249 => ?_)
        subst hz_249
        refine lv_iconst (v := (4 : Int32)) hx hb dL_isEstimate_252 (by decide) ?_
        refine lv_icmp_gt (tgt := 260) hx hb dL_isEstimate_253 (by decide) (fun c_253 => ?_) (fun c_253 => ?_)
        · have hF := (if_pos c_253).symm.trans hF
          exact B260 x3_219 x5_219 x7_219 hF _ (lv_sub hl [0, 1, 2, 3] rfl)
        · have hF := (if_neg c_253).symm.trans hF
          refine lv_iconst (v := (1 : Int32)) hx hb dL_isEstimate_256 (by decide) ?_
          refine lv_goto (tgt := 261) hx hb dL_isEstimate_257 (by decide) ?_
          exact B261 x3_219 x5_219 x7_219 (1 : Int32) hF _ (lv_sub hl [0, 1, 2, 3] rfl)
  have B121 : ∀ (n_121 : Nat) (x3_121 : Int32) (x5_121 : Int32) (x6_121 : Int32) (x7_121 : Int32) (x8_121 : Int32) (x9_121 : Int32), f_L_isEstimate_121 v_g0 x3_121 x5_121 n_121 x6_121 x7_121 x8_121 x9_121 = some r → ∀ ls : Array Slot, lv_has ls 10 [(0, .ref o0), (3, .int x3_121), (5, .int x5_121), (6, .int x6_121), (7, .int x7_121), (8, .int x8_121), (9, .int x9_121)] → W p l e (headSpec wsL_isEstimate rm_L_isEstimate).room s m ([.ref o0] : List Value).toArray below meth c s.heap [] 0 0 Q (F0 m 121 ls []) := by
    intro n_121
    induction n_121 with
    | zero => intro x3_121 x5_121 x6_121 x7_121 x8_121 x9_121 hF; exact noneE hF
    | succ n_121 ih121 =>
      intro x3_121 x5_121 x6_121 x7_121 x8_121 x9_121 hF ls hl
      have B177 : ∀ (x9_177 : Int32) (s0_177 : Int32), f_L_isEstimate_177 (f_L_isEstimate_121 v_g0 x3_121 x5_121 n_121) v_g0 x9_177 s0_177 = some r → ∀ ls : Array Slot, lv_has ls 10 [(0, .ref o0), (3, .int x3_121), (5, .int x5_121), (9, .int x9_177)] → W p l e (headSpec wsL_isEstimate rm_L_isEstimate).room s m ([.ref o0] : List Value).toArray below meth c s.heap [] 0 0 Q (F0 m 177 ls [.int s0_177]) := by
        intro x9_177 s0_177 hF ls hl
        unfold f_L_isEstimate_177 at hF
        refine lv_istore (lv' := [(6, .int s0_177), (0, .ref o0), (3, .int x3_121), (5, .int x5_121), (9, .int x9_177)]) hx hb dL_isEstimate_177 hl (by decide) rfl (fun ls hl => ?_)
        refine lv_aload_n hx hb dL_isEstimate_179 rfl (lv_at hl 1 rfl) ?_
        refine lv_iload hx hb dL_isEstimate_180 (lv_at hl 4 rfl) ?_
        refine lv_iconst (v := (0 : Int32)) hx hb dL_isEstimate_182 (by decide) ?_
        obtain ⟨q_183, hq_183, hF⟩ := bindE hF
        have hPc := hP
        obtain ⟨vs_183, hv_183⟩ := OB_recv hO0
        refine vp_callSi (va_Run.run (va_runV (As := [.int x9_177, .int (0 : Int32)]) (rest := []) ⟨hx, hb, hml, hown, hts⟩ (o_trail l dC dI cI cZ cO o0 w0 v_g0 x9_177 (0 : Int32) q_183 hO0 hq_183) (cwV 2 hts gL_isEstimate_X3_trail rfl rfl rfl (by decide +kernel) ⟨Nat.le_of_ble_eq_true rfl, Nat.le_of_ble_eq_true rfl⟩) ⟨fb_rd, va_recv hK hPc (ci := 3) (q0 := 0) rfl hv_183, pre_rd hPc hK hN⟩ rfl rfl hl.1 rfl (lv_room (Nat.le_of_ble_eq_true rfl)) dL_isEstimate_183 ⟨Nat.zero_le _, Nat.zero_le _⟩)) (fun z_183 hz_183 => ?_)
        subst hz_183
        refine lv_istore (lv' := [(7, .int q_183), (6, .int s0_177), (0, .ref o0), (3, .int x3_121), (5, .int x5_121), (9, .int x9_177)]) hx hb dL_isEstimate_186 hl (by decide) rfl (fun ls hl => ?_)
        refine lv_aload_n hx hb dL_isEstimate_188 rfl (lv_at hl 2 rfl) ?_
        refine lv_iload hx hb dL_isEstimate_189 (lv_at hl 5 rfl) ?_
        refine lv_iconst (v := (1 : Int32)) hx hb dL_isEstimate_191 (by decide) ?_
        obtain ⟨q_192, hq_192, hF⟩ := bindE hF
        have hPc := hP
        obtain ⟨vs_192, hv_192⟩ := OB_recv hO0
        refine vp_callSi (va_Run.run (va_runV (As := [.int x9_177, .int (1 : Int32)]) (rest := []) ⟨hx, hb, hml, hown, hts⟩ (o_trail l dC dI cI cZ cO o0 w0 v_g0 x9_177 (1 : Int32) q_192 hO0 hq_192) (cwV 2 hts gL_isEstimate_X3_trail rfl rfl rfl (by decide +kernel) ⟨Nat.le_of_ble_eq_true rfl, Nat.le_of_ble_eq_true rfl⟩) ⟨fb_rd, va_recv hK hPc (ci := 3) (q0 := 0) rfl hv_192, pre_rd hPc hK hN⟩ rfl rfl hl.1 rfl (lv_room (Nat.le_of_ble_eq_true rfl)) dL_isEstimate_192 ⟨Nat.zero_le _, Nat.zero_le _⟩)) (fun z_192 hz_192 => ?_)
        subst hz_192
        refine lv_istore (lv' := [(8, .int q_192), (7, .int q_183), (6, .int s0_177), (0, .ref o0), (3, .int x3_121), (5, .int x5_121), (9, .int x9_177)]) hx hb dL_isEstimate_195 hl (by decide) rfl (fun ls hl => ?_)
        refine lv_iinc (v := (x9_177 + 1)) (lv' := [(9, .int (x9_177 + 1)), (8, .int q_192), (7, .int q_183), (6, .int s0_177), (0, .ref o0), (3, .int x3_121), (5, .int x5_121)]) hx hb dL_isEstimate_197 hl (k := 6) rfl rfl (by decide) rfl (fun ls hl => ?_)
        refine lv_goto (tgt := 121) hx hb dL_isEstimate_200 (by decide) ?_
        exact ih121 x3_121 x5_121 s0_177 q_183 q_192 (x9_177 + 1) hF _ (lv_sub hl [4, 5, 6, 3, 2, 1, 0] rfl)
      have B176 : ∀ (x9_176 : Int32), f_L_isEstimate_176 (f_L_isEstimate_121 v_g0 x3_121 x5_121 n_121) v_g0 x9_176 = some r → ∀ ls : Array Slot, lv_has ls 10 [(0, .ref o0), (3, .int x3_121), (5, .int x5_121), (9, .int x9_176)] → W p l e (headSpec wsL_isEstimate rm_L_isEstimate).room s m ([.ref o0] : List Value).toArray below meth c s.heap [] 0 0 Q (F0 m 176 ls []) := by
        intro x9_176 hF ls hl
        unfold f_L_isEstimate_176 at hF
        refine lv_iconst (v := (0 : Int32)) hx hb dL_isEstimate_176 (by decide) ?_
        exact B177 x9_176 (0 : Int32) hF _ (lv_sub hl [0, 1, 2, 3] rfl)
      rw [f_L_isEstimate_121] at hF
      refine lv_iload hx hb dL_isEstimate_121 (lv_at hl 6 rfl) ?_
      refine lv_iload hx hb dL_isEstimate_123 (lv_at hl 2 rfl) ?_
      refine lv_icmp_ge (tgt := 203) hx hb dL_isEstimate_125 (by decide) (fun c_125 => ?_) (fun c_125 => ?_)
      · have hF := (if_pos c_125).symm.trans hF
        refine lv_iload hx hb dL_isEstimate_203 (lv_at hl 3 rfl) ?_
        refine lv_if_eq (tgt := 260) hx hb dL_isEstimate_205 (by decide) (fun c_205 => ?_) (fun c_205 => ?_)
        · have hF := (if_pos c_205).symm.trans hF
          exact B260 x3_121 x5_121 x7_121 hF _ (lv_sub hl [0, 1, 2, 4] rfl)
        · have hF := (if_neg c_205).symm.trans hF
          refine lv_iload hx hb dL_isEstimate_208 (lv_at hl 2 rfl) ?_
          refine lv_if_eq (tgt := 219) hx hb dL_isEstimate_210 (by decide) (fun c_210 => ?_) (fun c_210 => ?_)
          · have hF := (if_pos c_210).symm.trans hF
            exact B219 x3_121 x5_121 x7_121 hF _ (lv_sub hl [0, 1, 2, 4] rfl)
          · have hF := (if_neg c_210).symm.trans hF
            refine lv_iload hx hb dL_isEstimate_213 (lv_at hl 5 rfl) ?_
            refine lv_iload_n hx hb dL_isEstimate_215 rfl (lv_at hl 1 rfl) ?_
            refine lv_icmp_ne (tgt := 260) hx hb dL_isEstimate_216 (by decide) (fun c_216 => ?_) (fun c_216 => ?_)
            · have hF := (if_neg c_216).symm.trans hF
              exact B260 x3_121 x5_121 x7_121 hF _ (lv_sub hl [0, 1, 2, 4] rfl)
            · have hF := (if_pos c_216).symm.trans hF
              exact B219 x3_121 x5_121 x7_121 hF _ (lv_sub hl [0, 1, 2, 4] rfl)
      · have hF := (if_neg c_125).symm.trans hF
        refine lv_iload hx hb dL_isEstimate_128 (lv_at hl 3 rfl) ?_
        refine lv_if_eq (tgt := 176) hx hb dL_isEstimate_130 (by decide) (fun c_130 => ?_) (fun c_130 => ?_)
        · have hF := (if_pos c_130).symm.trans hF
          exact B176 x9_121 hF _ (lv_sub hl [0, 1, 2, 6] rfl)
        · have hF := (if_neg c_130).symm.trans hF
          refine lv_aload_n hx hb dL_isEstimate_133 rfl (lv_at hl 0 rfl) ?_
          refine lv_iload hx hb dL_isEstimate_134 (lv_at hl 6 rfl) ?_
          refine lv_iconst (v := (0 : Int32)) hx hb dL_isEstimate_136 (by decide) ?_
          obtain ⟨q_137, hq_137, hF⟩ := bindE hF
          have hPc := hP
          obtain ⟨vs_137, hv_137⟩ := OB_recv hO0
          refine vp_callSi (va_Run.run (va_runV (As := [.int x9_121, .int (0 : Int32)]) (rest := []) ⟨hx, hb, hml, hown, hts⟩ (o_trail l dC dI cI cZ cO o0 w0 v_g0 x9_121 (0 : Int32) q_137 hO0 hq_137) (cwV 2 hts gL_isEstimate_X3_trail rfl rfl rfl (by decide +kernel) ⟨Nat.le_of_ble_eq_true rfl, Nat.le_of_ble_eq_true rfl⟩) ⟨fb_rd, va_recv hK hPc (ci := 3) (q0 := 0) rfl hv_137, pre_rd hPc hK hN⟩ rfl rfl hl.1 rfl (lv_room (Nat.le_of_ble_eq_true rfl)) dL_isEstimate_137 ⟨Nat.zero_le _, Nat.zero_le _⟩)) (fun z_137 hz_137 => ?_)
          subst hz_137
          refine lv_iload hx hb dL_isEstimate_140 (lv_at hl 4 rfl) ?_
          refine lv_icmp_le (tgt := 176) hx hb dL_isEstimate_142 (by decide) (fun c_142 => ?_) (fun c_142 => ?_)
          · have hF := (if_pos c_142).symm.trans hF
            exact B176 x9_121 hF _ (lv_sub hl [0, 1, 2, 6] rfl)
          · have hF := (if_neg c_142).symm.trans hF
            refine lv_aload_n hx hb dL_isEstimate_145 rfl (lv_at hl 0 rfl) ?_
            refine lv_iload hx hb dL_isEstimate_146 (lv_at hl 6 rfl) ?_
            refine lv_iconst (v := (1 : Int32)) hx hb dL_isEstimate_148 (by decide) ?_
            obtain ⟨q_149, hq_149, hF⟩ := bindE hF
            have hPc := hP
            obtain ⟨vs_149, hv_149⟩ := OB_recv hO0
            refine vp_callSi (va_Run.run (va_runV (As := [.int x9_121, .int (1 : Int32)]) (rest := []) ⟨hx, hb, hml, hown, hts⟩ (o_trail l dC dI cI cZ cO o0 w0 v_g0 x9_121 (1 : Int32) q_149 hO0 hq_149) (cwV 2 hts gL_isEstimate_X3_trail rfl rfl rfl (by decide +kernel) ⟨Nat.le_of_ble_eq_true rfl, Nat.le_of_ble_eq_true rfl⟩) ⟨fb_rd, va_recv hK hPc (ci := 3) (q0 := 0) rfl hv_149, pre_rd hPc hK hN⟩ rfl rfl hl.1 rfl (lv_room (Nat.le_of_ble_eq_true rfl)) dL_isEstimate_149 ⟨Nat.zero_le _, Nat.zero_le _⟩)) (fun z_149 hz_149 => ?_)
            subst hz_149
            refine lv_iload hx hb dL_isEstimate_152 (lv_at hl 5 rfl) ?_
            refine lv_icmp_le (tgt := 176) hx hb dL_isEstimate_154 (by decide) (fun c_154 => ?_) (fun c_154 => ?_)
            · have hF := (if_pos c_154).symm.trans hF
              exact B176 x9_121 hF _ (lv_sub hl [0, 1, 2, 6] rfl)
            · have hF := (if_neg c_154).symm.trans hF
              refine lv_aload_n hx hb dL_isEstimate_157 rfl (lv_at hl 0 rfl) ?_
              refine lv_iload hx hb dL_isEstimate_158 (lv_at hl 6 rfl) ?_
              refine lv_iconst (v := (0 : Int32)) hx hb dL_isEstimate_160 (by decide) ?_
              obtain ⟨q_161, hq_161, hF⟩ := bindE hF
              have hPc := hP
              obtain ⟨vs_161, hv_161⟩ := OB_recv hO0
              refine vp_callSi (va_Run.run (va_runV (As := [.int x9_121, .int (0 : Int32)]) (rest := []) ⟨hx, hb, hml, hown, hts⟩ (o_trail l dC dI cI cZ cO o0 w0 v_g0 x9_121 (0 : Int32) q_161 hO0 hq_161) (cwV 2 hts gL_isEstimate_X3_trail rfl rfl rfl (by decide +kernel) ⟨Nat.le_of_ble_eq_true rfl, Nat.le_of_ble_eq_true rfl⟩) ⟨fb_rd, va_recv hK hPc (ci := 3) (q0 := 0) rfl hv_161, pre_rd hPc hK hN⟩ rfl rfl hl.1 rfl (lv_room (Nat.le_of_ble_eq_true rfl)) dL_isEstimate_161 ⟨Nat.zero_le _, Nat.zero_le _⟩)) (fun z_161 hz_161 => ?_)
              subst hz_161
              refine lv_aload_n hx hb dL_isEstimate_164 rfl (lv_at hl 0 rfl) ?_
              refine lv_iconst (v := (4 : Int32)) hx hb dL_isEstimate_165 (by decide) ?_
              obtain ⟨q_166, hq_166, hF⟩ := bindE hF
              have hPc := hP
              obtain ⟨vs_166, hv_166⟩ := OB_recv hO0
              refine vp_callSi (va_Run.run (va_runV (As := [.int (4 : Int32)]) (rest := [.int q_161]) ⟨hx, hb, hml, hown, hts⟩ (o_told l dC dI cI cZ cO o0 w0 v_g0 (4 : Int32) q_166 hO0 hq_166) (cwV 1 hts gL_isEstimate_X3_told rfl rfl rfl (by decide +kernel) ⟨Nat.le_of_ble_eq_true rfl, Nat.le_of_ble_eq_true rfl⟩) ⟨fb_rd, va_recv hK hPc (ci := 3) (q0 := 0) rfl hv_166, pre_rd hPc hK hN⟩ rfl rfl hl.1 rfl (lv_room (Nat.le_of_ble_eq_true rfl)) dL_isEstimate_166 ⟨Nat.zero_le _, Nat.zero_le _⟩)) (fun z_166 hz_166 => ?_)
              subst hz_166
              refine lv_icmp_gt (tgt := 176) hx hb dL_isEstimate_169 (by decide) (fun c_169 => ?_) (fun c_169 => ?_)
              · have hF := (if_pos c_169).symm.trans hF
                exact B176 x9_121 hF _ (lv_sub hl [0, 1, 2, 6] rfl)
              · have hF := (if_neg c_169).symm.trans hF
                refine lv_iconst (v := (1 : Int32)) hx hb dL_isEstimate_172 (by decide) ?_
                refine lv_goto (tgt := 177) hx hb dL_isEstimate_173 (by decide) ?_
                exact B177 x9_121 (1 : Int32) hF _ (lv_sub hl [0, 1, 2, 6] rfl)
  have B80 : ∀ (x1_80 : Int32) (x2_80 : Int32) (x3_80 : Int32) (x4_80 : Int32) (x5_80 : Int32) (s0_80 : Int32), f_L_isEstimate_80 v_g0 x1_80 x2_80 x3_80 x4_80 x5_80 s0_80 = some r → ∀ ls : Array Slot, lv_has ls 10 [(0, .ref o0), (1, .int x1_80), (2, .int x2_80), (3, .int x3_80), (4, .int x4_80), (5, .int x5_80)] → W p l e (headSpec wsL_isEstimate rm_L_isEstimate).room s m ([.ref o0] : List Value).toArray below meth c s.heap [] 0 0 Q (F0 m 80 ls [.int s0_80]) := by
    intro x1_80 x2_80 x3_80 x4_80 x5_80 s0_80 hF ls hl
    unfold f_L_isEstimate_80 at hF
    refine lv_istore (lv' := [(6, .int s0_80), (0, .ref o0), (1, .int x1_80), (2, .int x2_80), (3, .int x3_80), (4, .int x4_80), (5, .int x5_80)]) hx hb dL_isEstimate_80 hl (by decide) rfl (fun ls hl => ?_)
    refine lv_iload hx hb dL_isEstimate_82 (lv_at hl 0 rfl) ?_
    refine lv_if_eq (tgt := 109) hx hb dL_isEstimate_84 (by decide) (fun c_84 => ?_) (fun c_84 => ?_)
    · have hF := (if_pos c_84).symm.trans hF
      refine lv_iconst (v := (0 : Int32)) hx hb dL_isEstimate_109 (by decide) ?_
      refine lv_istore (lv' := [(6, .int (0 : Int32)), (0, .ref o0), (1, .int x1_80), (2, .int x2_80), (3, .int x3_80), (4, .int x4_80), (5, .int x5_80)]) hx hb dL_isEstimate_110 hl (by decide) rfl (fun ls hl => ?_)
      refine lv_iconst (v := (-1 : Int32)) hx hb dL_isEstimate_112 (by decide) ?_
      refine lv_istore (lv' := [(7, .int (-1 : Int32)), (6, .int (0 : Int32)), (0, .ref o0), (1, .int x1_80), (2, .int x2_80), (3, .int x3_80), (4, .int x4_80), (5, .int x5_80)]) hx hb dL_isEstimate_113 hl (by decide) rfl (fun ls hl => ?_)
      refine lv_iconst (v := (-1 : Int32)) hx hb dL_isEstimate_115 (by decide) ?_
      refine lv_istore (lv' := [(8, .int (-1 : Int32)), (7, .int (-1 : Int32)), (6, .int (0 : Int32)), (0, .ref o0), (1, .int x1_80), (2, .int x2_80), (3, .int x3_80), (4, .int x4_80), (5, .int x5_80)]) hx hb dL_isEstimate_116 hl (by decide) rfl (fun ls hl => ?_)
      refine lv_iconst (v := (0 : Int32)) hx hb dL_isEstimate_118 (by decide) ?_
      refine lv_istore (lv' := [(9, .int (0 : Int32)), (8, .int (-1 : Int32)), (7, .int (-1 : Int32)), (6, .int (0 : Int32)), (0, .ref o0), (1, .int x1_80), (2, .int x2_80), (3, .int x3_80), (4, .int x4_80), (5, .int x5_80)]) hx hb dL_isEstimate_119 hl (by decide) rfl (fun ls hl => ?_)
      exact B121 gas x3_80 x5_80 (0 : Int32) (-1 : Int32) (-1 : Int32) (0 : Int32) hF _ (lv_sub hl [4, 7, 9, 3, 2, 1, 0] rfl)
    · have hF := (if_neg c_84).symm.trans hF
      refine lv_iload_n hx hb dL_isEstimate_87 rfl (lv_at hl 2 rfl) ?_
      refine lv_iload_n hx hb dL_isEstimate_88 rfl (lv_at hl 4 rfl) ?_
      refine lv_icmp_ge (tgt := 105) hx hb dL_isEstimate_89 (by decide) (fun c_89 => ?_) (fun c_89 => ?_)
      · have hF := (if_pos c_89).symm.trans hF
        refine lv_iconst (v := (1 : Int32)) hx hb dL_isEstimate_105 (by decide) ?_
        refine lv_goto (tgt := 110) hx hb dL_isEstimate_106 (by decide) ?_
        refine lv_istore (lv' := [(6, .int (1 : Int32)), (0, .ref o0), (1, .int x1_80), (2, .int x2_80), (3, .int x3_80), (4, .int x4_80), (5, .int x5_80)]) hx hb dL_isEstimate_110 hl (by decide) rfl (fun ls hl => ?_)
        refine lv_iconst (v := (-1 : Int32)) hx hb dL_isEstimate_112 (by decide) ?_
        refine lv_istore (lv' := [(7, .int (-1 : Int32)), (6, .int (1 : Int32)), (0, .ref o0), (1, .int x1_80), (2, .int x2_80), (3, .int x3_80), (4, .int x4_80), (5, .int x5_80)]) hx hb dL_isEstimate_113 hl (by decide) rfl (fun ls hl => ?_)
        refine lv_iconst (v := (-1 : Int32)) hx hb dL_isEstimate_115 (by decide) ?_
        refine lv_istore (lv' := [(8, .int (-1 : Int32)), (7, .int (-1 : Int32)), (6, .int (1 : Int32)), (0, .ref o0), (1, .int x1_80), (2, .int x2_80), (3, .int x3_80), (4, .int x4_80), (5, .int x5_80)]) hx hb dL_isEstimate_116 hl (by decide) rfl (fun ls hl => ?_)
        refine lv_iconst (v := (0 : Int32)) hx hb dL_isEstimate_118 (by decide) ?_
        refine lv_istore (lv' := [(9, .int (0 : Int32)), (8, .int (-1 : Int32)), (7, .int (-1 : Int32)), (6, .int (1 : Int32)), (0, .ref o0), (1, .int x1_80), (2, .int x2_80), (3, .int x3_80), (4, .int x4_80), (5, .int x5_80)]) hx hb dL_isEstimate_119 hl (by decide) rfl (fun ls hl => ?_)
        exact B121 gas x3_80 x5_80 (1 : Int32) (-1 : Int32) (-1 : Int32) (0 : Int32) hF _ (lv_sub hl [4, 7, 9, 3, 2, 1, 0] rfl)
      · have hF := (if_neg c_89).symm.trans hF
        refine lv_iload_n hx hb dL_isEstimate_92 rfl (lv_at hl 2 rfl) ?_
        refine lv_iload_n hx hb dL_isEstimate_93 rfl (lv_at hl 3 rfl) ?_
        refine lv_iconst (v := (1 : Int32)) hx hb dL_isEstimate_94 (by decide) ?_
        refine lv_isub hx hb dL_isEstimate_95 ?_
        refine lv_icmp_eq (tgt := 105) hx hb dL_isEstimate_96 (by decide) (fun c_96 => ?_) (fun c_96 => ?_)
        · have hF := (if_pos c_96).symm.trans hF
          refine lv_iconst (v := (1 : Int32)) hx hb dL_isEstimate_105 (by decide) ?_
          refine lv_goto (tgt := 110) hx hb dL_isEstimate_106 (by decide) ?_
          refine lv_istore (lv' := [(6, .int (1 : Int32)), (0, .ref o0), (1, .int x1_80), (2, .int x2_80), (3, .int x3_80), (4, .int x4_80), (5, .int x5_80)]) hx hb dL_isEstimate_110 hl (by decide) rfl (fun ls hl => ?_)
          refine lv_iconst (v := (-1 : Int32)) hx hb dL_isEstimate_112 (by decide) ?_
          refine lv_istore (lv' := [(7, .int (-1 : Int32)), (6, .int (1 : Int32)), (0, .ref o0), (1, .int x1_80), (2, .int x2_80), (3, .int x3_80), (4, .int x4_80), (5, .int x5_80)]) hx hb dL_isEstimate_113 hl (by decide) rfl (fun ls hl => ?_)
          refine lv_iconst (v := (-1 : Int32)) hx hb dL_isEstimate_115 (by decide) ?_
          refine lv_istore (lv' := [(8, .int (-1 : Int32)), (7, .int (-1 : Int32)), (6, .int (1 : Int32)), (0, .ref o0), (1, .int x1_80), (2, .int x2_80), (3, .int x3_80), (4, .int x4_80), (5, .int x5_80)]) hx hb dL_isEstimate_116 hl (by decide) rfl (fun ls hl => ?_)
          refine lv_iconst (v := (0 : Int32)) hx hb dL_isEstimate_118 (by decide) ?_
          refine lv_istore (lv' := [(9, .int (0 : Int32)), (8, .int (-1 : Int32)), (7, .int (-1 : Int32)), (6, .int (1 : Int32)), (0, .ref o0), (1, .int x1_80), (2, .int x2_80), (3, .int x3_80), (4, .int x4_80), (5, .int x5_80)]) hx hb dL_isEstimate_119 hl (by decide) rfl (fun ls hl => ?_)
          exact B121 gas x3_80 x5_80 (1 : Int32) (-1 : Int32) (-1 : Int32) (0 : Int32) hF _ (lv_sub hl [4, 7, 9, 3, 2, 1, 0] rfl)
        · have hF := (if_neg c_96).symm.trans hF
          refine lv_iload_n hx hb dL_isEstimate_99 rfl (lv_at hl 2 rfl) ?_
          refine lv_iload hx hb dL_isEstimate_100 (lv_at hl 5 rfl) ?_
          refine lv_icmp_ne (tgt := 109) hx hb dL_isEstimate_102 (by decide) (fun c_102 => ?_) (fun c_102 => ?_)
          · have hF := (if_neg c_102).symm.trans hF
            refine lv_iconst (v := (0 : Int32)) hx hb dL_isEstimate_109 (by decide) ?_
            refine lv_istore (lv' := [(6, .int (0 : Int32)), (0, .ref o0), (1, .int x1_80), (2, .int x2_80), (3, .int x3_80), (4, .int x4_80), (5, .int x5_80)]) hx hb dL_isEstimate_110 hl (by decide) rfl (fun ls hl => ?_)
            refine lv_iconst (v := (-1 : Int32)) hx hb dL_isEstimate_112 (by decide) ?_
            refine lv_istore (lv' := [(7, .int (-1 : Int32)), (6, .int (0 : Int32)), (0, .ref o0), (1, .int x1_80), (2, .int x2_80), (3, .int x3_80), (4, .int x4_80), (5, .int x5_80)]) hx hb dL_isEstimate_113 hl (by decide) rfl (fun ls hl => ?_)
            refine lv_iconst (v := (-1 : Int32)) hx hb dL_isEstimate_115 (by decide) ?_
            refine lv_istore (lv' := [(8, .int (-1 : Int32)), (7, .int (-1 : Int32)), (6, .int (0 : Int32)), (0, .ref o0), (1, .int x1_80), (2, .int x2_80), (3, .int x3_80), (4, .int x4_80), (5, .int x5_80)]) hx hb dL_isEstimate_116 hl (by decide) rfl (fun ls hl => ?_)
            refine lv_iconst (v := (0 : Int32)) hx hb dL_isEstimate_118 (by decide) ?_
            refine lv_istore (lv' := [(9, .int (0 : Int32)), (8, .int (-1 : Int32)), (7, .int (-1 : Int32)), (6, .int (0 : Int32)), (0, .ref o0), (1, .int x1_80), (2, .int x2_80), (3, .int x3_80), (4, .int x4_80), (5, .int x5_80)]) hx hb dL_isEstimate_119 hl (by decide) rfl (fun ls hl => ?_)
            exact B121 gas x3_80 x5_80 (0 : Int32) (-1 : Int32) (-1 : Int32) (0 : Int32) hF _ (lv_sub hl [4, 7, 9, 3, 2, 1, 0] rfl)
          · have hF := (if_pos c_102).symm.trans hF
            refine lv_iconst (v := (1 : Int32)) hx hb dL_isEstimate_105 (by decide) ?_
            refine lv_goto (tgt := 110) hx hb dL_isEstimate_106 (by decide) ?_
            refine lv_istore (lv' := [(6, .int (1 : Int32)), (0, .ref o0), (1, .int x1_80), (2, .int x2_80), (3, .int x3_80), (4, .int x4_80), (5, .int x5_80)]) hx hb dL_isEstimate_110 hl (by decide) rfl (fun ls hl => ?_)
            refine lv_iconst (v := (-1 : Int32)) hx hb dL_isEstimate_112 (by decide) ?_
            refine lv_istore (lv' := [(7, .int (-1 : Int32)), (6, .int (1 : Int32)), (0, .ref o0), (1, .int x1_80), (2, .int x2_80), (3, .int x3_80), (4, .int x4_80), (5, .int x5_80)]) hx hb dL_isEstimate_113 hl (by decide) rfl (fun ls hl => ?_)
            refine lv_iconst (v := (-1 : Int32)) hx hb dL_isEstimate_115 (by decide) ?_
            refine lv_istore (lv' := [(8, .int (-1 : Int32)), (7, .int (-1 : Int32)), (6, .int (1 : Int32)), (0, .ref o0), (1, .int x1_80), (2, .int x2_80), (3, .int x3_80), (4, .int x4_80), (5, .int x5_80)]) hx hb dL_isEstimate_116 hl (by decide) rfl (fun ls hl => ?_)
            refine lv_iconst (v := (0 : Int32)) hx hb dL_isEstimate_118 (by decide) ?_
            refine lv_istore (lv' := [(9, .int (0 : Int32)), (8, .int (-1 : Int32)), (7, .int (-1 : Int32)), (6, .int (1 : Int32)), (0, .ref o0), (1, .int x1_80), (2, .int x2_80), (3, .int x3_80), (4, .int x4_80), (5, .int x5_80)]) hx hb dL_isEstimate_119 hl (by decide) rfl (fun ls hl => ?_)
            exact B121 gas x3_80 x5_80 (1 : Int32) (-1 : Int32) (-1 : Int32) (0 : Int32) hF _ (lv_sub hl [4, 7, 9, 3, 2, 1, 0] rfl)
  have B79 : ∀ (x1_79 : Int32) (x2_79 : Int32) (x3_79 : Int32) (x4_79 : Int32) (x5_79 : Int32), f_L_isEstimate_79 v_g0 x1_79 x2_79 x3_79 x4_79 x5_79 = some r → ∀ ls : Array Slot, lv_has ls 10 [(0, .ref o0), (1, .int x1_79), (2, .int x2_79), (3, .int x3_79), (4, .int x4_79), (5, .int x5_79)] → W p l e (headSpec wsL_isEstimate rm_L_isEstimate).room s m ([.ref o0] : List Value).toArray below meth c s.heap [] 0 0 Q (F0 m 79 ls []) := by
    intro x1_79 x2_79 x3_79 x4_79 x5_79 hF ls hl
    unfold f_L_isEstimate_79 at hF
    refine lv_iconst (v := (0 : Int32)) hx hb dL_isEstimate_79 (by decide) ?_
    exact B80 x1_79 x2_79 x3_79 x4_79 x5_79 (0 : Int32) hF _ (lv_sub hl [0, 1, 2, 3, 4, 5] rfl)
  have B66 : ∀ (x1_66 : Int32) (x2_66 : Int32) (x3_66 : Int32) (x4_66 : Int32) (x5_66 : Int32), f_L_isEstimate_66 v_g0 x1_66 x2_66 x3_66 x4_66 x5_66 = some r → ∀ ls : Array Slot, lv_has ls 10 [(0, .ref o0), (1, .int x1_66), (2, .int x2_66), (3, .int x3_66), (4, .int x4_66), (5, .int x5_66)] → W p l e (headSpec wsL_isEstimate rm_L_isEstimate).room s m ([.ref o0] : List Value).toArray below meth c s.heap [] 0 0 Q (F0 m 66 ls []) := by
    intro x1_66 x2_66 x3_66 x4_66 x5_66 hF ls hl
    unfold f_L_isEstimate_66 at hF
    refine lv_aload_n hx hb dL_isEstimate_66 rfl (lv_at hl 0 rfl) ?_
    refine lv_bipush (v := (6 : Int32)) hx hb dL_isEstimate_67 (by decide) ?_
    obtain ⟨q_69, hq_69, hF⟩ := bindE hF
    have hPc := hP
    obtain ⟨vs_69, hv_69⟩ := OB_recv hO0
    refine vp_callSi (va_Run.run (va_runV (As := [.int (6 : Int32)]) (rest := []) ⟨hx, hb, hml, hown, hts⟩ (o_told l dC dI cI cZ cO o0 w0 v_g0 (6 : Int32) q_69 hO0 hq_69) (cwV 1 hts gL_isEstimate_X3_told rfl rfl rfl (by decide +kernel) ⟨Nat.le_of_ble_eq_true rfl, Nat.le_of_ble_eq_true rfl⟩) ⟨fb_rd, va_recv hK hPc (ci := 3) (q0 := 0) rfl hv_69, pre_rd hPc hK hN⟩ rfl rfl hl.1 rfl (lv_room (Nat.le_of_ble_eq_true rfl)) dL_isEstimate_69 ⟨Nat.zero_le _, Nat.zero_le _⟩)) (fun z_69 hz_69 => ?_)
    subst hz_69
    refine lv_if_lt (tgt := 79) hx hb dL_isEstimate_72 (by decide) (fun c_72 => ?_) (fun c_72 => ?_)
    · have hF := (if_pos c_72).symm.trans hF
      exact B79 x1_66 x2_66 x3_66 x4_66 x5_66 hF _ (lv_sub hl [0, 1, 2, 3, 4, 5] rfl)
    · have hF := (if_neg c_72).symm.trans hF
      refine lv_iconst (v := (1 : Int32)) hx hb dL_isEstimate_75 (by decide) ?_
      refine lv_goto (tgt := 80) hx hb dL_isEstimate_76 (by decide) ?_
      exact B80 x1_66 x2_66 x3_66 x4_66 x5_66 (1 : Int32) hF _ (lv_sub hl [0, 1, 2, 3, 4, 5] rfl)
  unfold f_L_isEstimate at hF
  refine lv_aload_n hx hb dL_isEstimate_0 rfl (lv_at hl 0 rfl) ?_
  refine lv_bipush (v := (7 : Int32)) hx hb dL_isEstimate_1 (by decide) ?_
  obtain ⟨q_3, hq_3, hF⟩ := bindE hF
  have hPc := hP
  obtain ⟨vs_3, hv_3⟩ := OB_recv hO0
  refine vp_callSi (va_Run.run (va_runV (As := [.int (7 : Int32)]) (rest := []) ⟨hx, hb, hml, hown, hts⟩ (o_told l dC dI cI cZ cO o0 w0 v_g0 (7 : Int32) q_3 hO0 hq_3) (cwV 1 hts gL_isEstimate_X3_told rfl rfl rfl (by decide +kernel) ⟨Nat.le_of_ble_eq_true rfl, Nat.le_of_ble_eq_true rfl⟩) ⟨fb_rd, va_recv hK hPc (ci := 3) (q0 := 0) rfl hv_3, pre_rd hPc hK hN⟩ rfl rfl hl.1 rfl (lv_room (Nat.le_of_ble_eq_true rfl)) dL_isEstimate_3 ⟨Nat.zero_le _, Nat.zero_le _⟩)) (fun z_3 hz_3 => ?_)
  subst hz_3
  refine lv_istore_n (lv' := [(1, .int q_3), (0, .ref o0)]) hx hb dL_isEstimate_6 rfl hl (by decide) rfl (fun ls hl => ?_)
  refine lv_aload_n hx hb dL_isEstimate_7 rfl (lv_at hl 1 rfl) ?_
  refine lv_iconst (v := (0 : Int32)) hx hb dL_isEstimate_8 (by decide) ?_
  obtain ⟨q_9, hq_9, hF⟩ := bindE hF
  have hPc := hP
  obtain ⟨vs_9, hv_9⟩ := OB_recv hO0
  refine vp_callSi (va_Run.run (va_runV (As := [.int (0 : Int32)]) (rest := []) ⟨hx, hb, hml, hown, hts⟩ (o_told l dC dI cI cZ cO o0 w0 v_g0 (0 : Int32) q_9 hO0 hq_9) (cwV 1 hts gL_isEstimate_X3_told rfl rfl rfl (by decide +kernel) ⟨Nat.le_of_ble_eq_true rfl, Nat.le_of_ble_eq_true rfl⟩) ⟨fb_rd, va_recv hK hPc (ci := 3) (q0 := 0) rfl hv_9, pre_rd hPc hK hN⟩ rfl rfl hl.1 rfl (lv_room (Nat.le_of_ble_eq_true rfl)) dL_isEstimate_9 ⟨Nat.zero_le _, Nat.zero_le _⟩)) (fun z_9 hz_9 => ?_)
  subst hz_9
  refine lv_istore_n (lv' := [(2, .int q_9), (1, .int q_3), (0, .ref o0)]) hx hb dL_isEstimate_12 rfl hl (by decide) rfl (fun ls hl => ?_)
  refine lv_aload_n hx hb dL_isEstimate_13 rfl (lv_at hl 2 rfl) ?_
  refine lv_iconst (v := (5 : Int32)) hx hb dL_isEstimate_14 (by decide) ?_
  obtain ⟨q_15, hq_15, hF⟩ := bindE hF
  have hPc := hP
  obtain ⟨vs_15, hv_15⟩ := OB_recv hO0
  refine vp_callSi (va_Run.run (va_runV (As := [.int (5 : Int32)]) (rest := []) ⟨hx, hb, hml, hown, hts⟩ (o_told l dC dI cI cZ cO o0 w0 v_g0 (5 : Int32) q_15 hO0 hq_15) (cwV 1 hts gL_isEstimate_X3_told rfl rfl rfl (by decide +kernel) ⟨Nat.le_of_ble_eq_true rfl, Nat.le_of_ble_eq_true rfl⟩) ⟨fb_rd, va_recv hK hPc (ci := 3) (q0 := 0) rfl hv_15, pre_rd hPc hK hN⟩ rfl rfl hl.1 rfl (lv_room (Nat.le_of_ble_eq_true rfl)) dL_isEstimate_15 ⟨Nat.zero_le _, Nat.zero_le _⟩)) (fun z_15 hz_15 => ?_)
  subst hz_15
  refine lv_istore_n (lv' := [(3, .int q_15), (2, .int q_9), (1, .int q_3), (0, .ref o0)]) hx hb dL_isEstimate_18 rfl hl (by decide) rfl (fun ls hl => ?_)
  refine lv_aload_n hx hb dL_isEstimate_19 rfl (lv_at hl 3 rfl) ?_
  refine lv_bipush (v := (16 : Int32)) hx hb dL_isEstimate_20 (by decide) ?_
  obtain ⟨q_22, hq_22, hF⟩ := bindE hF
  have hPc := hP
  obtain ⟨vs_22, hv_22⟩ := OB_recv hO0
  refine vp_callSi (va_Run.run (va_runV (As := [.int (16 : Int32)]) (rest := []) ⟨hx, hb, hml, hown, hts⟩ (o_told l dC dI cI cZ cO o0 w0 v_g0 (16 : Int32) q_22 hO0 hq_22) (cwV 1 hts gL_isEstimate_X3_told rfl rfl rfl (by decide +kernel) ⟨Nat.le_of_ble_eq_true rfl, Nat.le_of_ble_eq_true rfl⟩) ⟨fb_rd, va_recv hK hPc (ci := 3) (q0 := 0) rfl hv_22, pre_rd hPc hK hN⟩ rfl rfl hl.1 rfl (lv_room (Nat.le_of_ble_eq_true rfl)) dL_isEstimate_22 ⟨Nat.zero_le _, Nat.zero_le _⟩)) (fun z_22 hz_22 => ?_)
  subst hz_22
  refine lv_istore (lv' := [(4, .int q_22), (3, .int q_15), (2, .int q_9), (1, .int q_3), (0, .ref o0)]) hx hb dL_isEstimate_25 hl (by decide) rfl (fun ls hl => ?_)
  refine lv_aload_n hx hb dL_isEstimate_27 rfl (lv_at hl 4 rfl) ?_
  refine lv_bipush (v := (15 : Int32)) hx hb dL_isEstimate_28 (by decide) ?_
  obtain ⟨q_30, hq_30, hF⟩ := bindE hF
  have hPc := hP
  obtain ⟨vs_30, hv_30⟩ := OB_recv hO0
  refine vp_callSi (va_Run.run (va_runV (As := [.int (15 : Int32)]) (rest := []) ⟨hx, hb, hml, hown, hts⟩ (o_told l dC dI cI cZ cO o0 w0 v_g0 (15 : Int32) q_30 hO0 hq_30) (cwV 1 hts gL_isEstimate_X3_told rfl rfl rfl (by decide +kernel) ⟨Nat.le_of_ble_eq_true rfl, Nat.le_of_ble_eq_true rfl⟩) ⟨fb_rd, va_recv hK hPc (ci := 3) (q0 := 0) rfl hv_30, pre_rd hPc hK hN⟩ rfl rfl hl.1 rfl (lv_room (Nat.le_of_ble_eq_true rfl)) dL_isEstimate_30 ⟨Nat.zero_le _, Nat.zero_le _⟩)) (fun z_30 hz_30 => ?_)
  subst hz_30
  refine lv_istore (lv' := [(5, .int q_30), (4, .int q_22), (3, .int q_15), (2, .int q_9), (1, .int q_3), (0, .ref o0)]) hx hb dL_isEstimate_33 hl (by decide) rfl (fun ls hl => ?_)
  refine lv_iload_n hx hb dL_isEstimate_35 rfl (lv_at hl 2 rfl) ?_
  refine lv_if_lt (tgt := 79) hx hb dL_isEstimate_36 (by decide) (fun c_36 => ?_) (fun c_36 => ?_)
  · have hF := (if_pos c_36).symm.trans hF
    exact B79 q_3 q_9 q_15 q_22 q_30 hF _ (lv_sub hl [5, 4, 3, 2, 1, 0] rfl)
  · have hF := (if_neg c_36).symm.trans hF
    refine lv_iload_n hx hb dL_isEstimate_39 rfl (lv_at hl 2 rfl) ?_
    refine lv_iload_n hx hb dL_isEstimate_40 rfl (lv_at hl 3 rfl) ?_
    refine lv_icmp_gt (tgt := 79) hx hb dL_isEstimate_41 (by decide) (fun c_41 => ?_) (fun c_41 => ?_)
    · have hF := (if_pos c_41).symm.trans hF
      exact B79 q_3 q_9 q_15 q_22 q_30 hF _ (lv_sub hl [5, 4, 3, 2, 1, 0] rfl)
    · have hF := (if_neg c_41).symm.trans hF
      refine lv_iload_n hx hb dL_isEstimate_44 rfl (lv_at hl 4 rfl) ?_
      refine lv_if_lt (tgt := 79) hx hb dL_isEstimate_45 (by decide) (fun c_45 => ?_) (fun c_45 => ?_)
      · have hF := (if_pos c_45).symm.trans hF
        exact B79 q_3 q_9 q_15 q_22 q_30 hF _ (lv_sub hl [5, 4, 3, 2, 1, 0] rfl)
      · have hF := (if_neg c_45).symm.trans hF
        refine lv_iload_n hx hb dL_isEstimate_48 rfl (lv_at hl 4 rfl) ?_
        refine lv_iload_n hx hb dL_isEstimate_49 rfl (lv_at hl 3 rfl) ?_
        refine lv_icmp_ge (tgt := 79) hx hb dL_isEstimate_50 (by decide) (fun c_50 => ?_) (fun c_50 => ?_)
        · have hF := (if_pos c_50).symm.trans hF
          exact B79 q_3 q_9 q_15 q_22 q_30 hF _ (lv_sub hl [5, 4, 3, 2, 1, 0] rfl)
        · have hF := (if_neg c_50).symm.trans hF
          refine lv_iload hx hb dL_isEstimate_53 (lv_at hl 1 rfl) ?_
          refine lv_bipush (v := (-9 : Int32)) hx hb dL_isEstimate_55 (by decide) ?_
          refine lv_icmp_eq (tgt := 66) hx hb dL_isEstimate_57 (by decide) (fun c_57 => ?_) (fun c_57 => ?_)
          · have hF := (if_pos c_57).symm.trans hF
            exact B66 q_3 q_9 q_15 q_22 q_30 hF _ (lv_sub hl [5, 4, 3, 2, 1, 0] rfl)
          · have hF := (if_neg c_57).symm.trans hF
            refine lv_iload_n hx hb dL_isEstimate_60 rfl (lv_at hl 4 rfl) ?_
            refine lv_iload hx hb dL_isEstimate_61 (lv_at hl 1 rfl) ?_
            refine lv_icmp_gt (tgt := 79) hx hb dL_isEstimate_63 (by decide) (fun c_63 => ?_) (fun c_63 => ?_)
            · have hF := (if_pos c_63).symm.trans hF
              exact B79 q_3 q_9 q_15 q_22 q_30 hF _ (lv_sub hl [5, 4, 3, 2, 1, 0] rfl)
            · have hF := (if_neg c_63).symm.trans hF
              exact B66 q_3 q_9 q_15 q_22 q_30 hF _ (lv_sub hl [5, 4, 3, 2, 1, 0] rfl)
def f_L_isBest_388 (x2 : Int32) (s0 : Int32) (v_g0 : GS) : Option (Int32 × GS) :=
  (g_undo v_g0).bind fun q391 =>
    if q391.1 < (0 : Int32) then
      some ((0 : Int32), q391.2)
    else
      if s0 = (0 : Int32) then
        some ((0 : Int32), q391.2)
      else
        (g_told (5 : Int32) q391.2).bind fun q404 =>
        if q404 = x2 then
          some ((1 : Int32), q391.2)
        else
          some ((0 : Int32), q391.2)
def f_L_isBest_387 (x2 : Int32) (v_g0 : GS) : Option (Int32 × GS) :=
  f_L_isBest_388 x2 (0 : Int32) v_g0
def f_L_isBest_371 (x1 : Int32) (x2 : Int32) (s0 : Int32) (s1 : Int32) (v_g0 : GS) : Option (Int32 × GS) :=
  if s0 = s1 then
      (g_heard (0 : Int32) v_g0).bind fun q376 =>
      if q376 = x1 then
        f_L_isBest_388 x2 (1 : Int32) v_g0
      else
        f_L_isBest_387 x2 v_g0
    else
      f_L_isBest_387 x2 v_g0
def f_L_isBest_369 (x1 : Int32) (x2 : Int32) (x8 : Int32) (s0 : Int32) (v_g0 : GS) : Option (Int32 × GS) :=
  f_L_isBest_371 x1 x2 s0 x8 v_g0
def f_L_isBest_343 (x1 : Int32) (x2 : Int32) (x3 : Int32) (x8 : Int32) (x11 : Int32) (s0 : Int32) (s1 : Int32) (v_g0 : GS) : Option (Int32 × GS) :=
  if s0 = s1 then
      (g_told (11 : Int32) v_g0).bind fun q349 =>
      if x11 = (0 : Int32) then
        f_L_isBest_369 x1 x2 x8 q349 v_g0
      else
        if x2 ≤ x3 then
          f_L_isBest_369 x1 x2 x8 q349 v_g0
        else
          f_L_isBest_371 x1 x2 q349 (x8 + (1 : Int32)) v_g0
    else
      f_L_isBest_387 x2 v_g0
def f_L_isBest_341 (x1 : Int32) (x2 : Int32) (x3 : Int32) (x7 : Int32) (x8 : Int32) (x11 : Int32) (s0 : Int32) (v_g0 : GS) : Option (Int32 × GS) :=
  f_L_isBest_343 x1 x2 x3 x8 x11 s0 x7 v_g0
def f_L_isBest_315 (x1 : Int32) (x2 : Int32) (x3 : Int32) (x7 : Int32) (x8 : Int32) (x11 : Int32) (s0 : Int32) (s1 : Int32) (v_g0 : GS) : Option (Int32 × GS) :=
  if s0 = s1 then
      (g_told (10 : Int32) v_g0).bind fun q321 =>
      if x11 = (0 : Int32) then
        f_L_isBest_341 x1 x2 x3 x7 x8 x11 q321 v_g0
      else
        if x3 ≤ x2 then
          f_L_isBest_341 x1 x2 x3 x7 x8 x11 q321 v_g0
        else
          f_L_isBest_343 x1 x2 x3 x8 x11 q321 (x7 + (1 : Int32)) v_g0
    else
      f_L_isBest_387 x2 v_g0
def f_L_isBest_292 (x1 : Int32) (x2 : Int32) (x3 : Int32) (x7 : Int32) (x8 : Int32) (x9 : Int32) (x11 : Int32) (s0 : Int32) (s1 : Int32) (v_g0 : GS) : Option (Int32 × GS) :=
  if s0 = s1 then
      (g_told (12 : Int32) v_g0).bind fun q298 =>
      if x11 = (0 : Int32) then
        f_L_isBest_315 x1 x2 x3 x7 x8 x11 q298 (x9 + (1 : Int32)) v_g0
      else
        f_L_isBest_315 x1 x2 x3 x7 x8 x11 q298 x9 v_g0
    else
      f_L_isBest_387 x2 v_g0
def f_L_isBest_275 (x1 : Int32) (x2 : Int32) (x3 : Int32) (x7 : Int32) (x8 : Int32) (x9 : Int32) (x10 : Int32) (s0 : Int32) (v_g0 : GS) : Option (Int32 × GS) :=
  if s0 = (0 : Int32) then
      f_L_isBest_292 x1 x2 x3 x7 x8 x9 s0 x10 (-9 : Int32) v_g0
    else
      f_L_isBest_292 x1 x2 x3 x7 x8 x9 s0 x10 (x3 + (1 : Int32)) v_g0
def f_L_isBest_274 (x1 : Int32) (x2 : Int32) (x3 : Int32) (x7 : Int32) (x8 : Int32) (x9 : Int32) (x10 : Int32) (v_g0 : GS) : Option (Int32 × GS) :=
  f_L_isBest_275 x1 x2 x3 x7 x8 x9 x10 (0 : Int32) v_g0
def f_L_isBest_228 (x1 : Int32) (x2 : Int32) (x3 : Int32) (x5 : Int32) (x6 : Int32) (v_g0 : GS) : Option (Int32 × GS) :=
  (g_told (10 : Int32) v_g0).bind fun q231 =>
    (g_told (11 : Int32) v_g0).bind fun q239 =>
    (g_told (12 : Int32) v_g0).bind fun q247 =>
    (g_hear x1 v_g0).bind fun q254 =>
    if x6 = (0 : Int32) then
      f_L_isBest_274 x1 x2 x3 q231 q239 q247 q254.1 q254.2
    else
      if x5 = (1 : Int32) then
        f_L_isBest_275 x1 x2 x3 q231 q239 q247 q254.1 (1 : Int32) q254.2
      else
        f_L_isBest_274 x1 x2 x3 q231 q239 q247 q254.1 q254.2
def f_L_isBest_223 (x1 : Int32) (x2 : Int32) (x3 : Int32) (x5 : Int32) (x6 : Int32) (s0 : Int32) (s1 : Int32) (v_g0 : GS) : Option (Int32 × GS) :=
  if s0 = s1 then
      f_L_isBest_228 x1 x2 x3 x5 x6 v_g0
    else
      some ((0 : Int32), v_g0)
def f_L_isBest_218 (x1 : Int32) (x2 : Int32) (x3 : Int32) (x5 : Int32) (x6 : Int32) (s0 : Int32) (v_g0 : GS) : Option (Int32 × GS) :=
  f_L_isBest_223 x1 x2 x3 x5 x6 s0 (1 : Int32) v_g0
def f_L_isBest_183 (x1 : Int32) (x2 : Int32) (x3 : Int32) (x4 : Int32) (x5 : Int32) (x6 : Int32) (s0 : Int32) (s1 : Int32) (v_g0 : GS) : Option (Int32 × GS) :=
  if s0 = s1 then
      if x6 = (0 : Int32) then
        f_L_isBest_228 x1 x2 x3 x5 x6 v_g0
      else
        (g_score x3 v_g0).bind fun q195 =>
        if x4 = q195 then
          if x3 = x2 then
            f_L_isBest_218 x1 x2 x3 x5 x6 x5 v_g0
          else
            (g_setting (5 : Int32) v_g0).bind fun q212 =>
            if x4 < q212 then
              f_L_isBest_223 x1 x2 x3 x5 x6 x5 (0 : Int32) v_g0
            else
              f_L_isBest_218 x1 x2 x3 x5 x6 x5 v_g0
        else
          some ((0 : Int32), v_g0)
    else
      some ((0 : Int32), v_g0)
def f_L_isBest_116 (k35 : Int32 → Int32 → Option (Int32 × GS)) (x3 : Int32) (x4 : Int32) (x6 : Int32) (x7 : Int32) (x8 : Int32) (s0 : Int32) (v_g0 : GS) : Option (Int32 × GS) :=
  if x3 < (0 : Int32) then
      some ((0 : Int32), v_g0)
    else
      (g_score x7 v_g0).bind fun q125 =>
      if x4 < q125 then
        some ((0 : Int32), v_g0)
      else
        (g_score x7 v_g0).bind fun q136 =>
        if q136 = x4 then
          if x8 < s0 then
            some ((0 : Int32), v_g0)
          else
            if x8 = s0 then
              if x3 ≤ x7 then
                k35 x6 (x7 + 1)
              else
                some ((0 : Int32), v_g0)
            else
              k35 x6 (x7 + 1)
        else
          k35 x6 (x7 + 1)
def f_L_isBest_100 (k35 : Int32 → Int32 → Option (Int32 × GS)) (x2 : Int32) (x3 : Int32) (x4 : Int32) (x6 : Int32) (x7 : Int32) (s0 : Int32) (v_g0 : GS) : Option (Int32 × GS) :=
  if x3 ≤ x2 then
      f_L_isBest_116 k35 x3 x4 x6 x7 s0 (x2 - x3) v_g0
    else
      f_L_isBest_116 k35 x3 x4 x6 x7 s0 (x3 - x2) v_g0
def f_L_isBest_35 (x1 : Int32) (x2 : Int32) (x3 : Int32) (x4 : Int32) (x5 : Int32) (v_g0 : GS) : Nat → Int32 → Int32 → Option (Int32 × GS)
  | 0, _, _ => none
  | n + 1, x6, x7 =>
    (g_told (0 : Int32) v_g0).bind fun q39 =>
    if q39 ≤ x7 then
      if x3 < (0 : Int32) then
        f_L_isBest_183 x1 x2 x3 x4 x5 x6 x6 (0 : Int32) v_g0
      else
        f_L_isBest_183 x1 x2 x3 x4 x5 x6 x6 (1 : Int32) v_g0
    else
      (g_word x7 (0 : Int32) v_g0).bind fun q49 =>
      if q49 = x1 then
        (g_setting (3 : Int32) v_g0).bind fun q61 =>
        if x7 < (x2 - q61) then
          f_L_isBest_35 x1 x2 x3 x4 x5 v_g0 n x6 (x7 + 1)
        else
          (g_setting (4 : Int32) v_g0).bind fun q73 =>
          if (x2 + q73) < x7 then
            f_L_isBest_35 x1 x2 x3 x4 x5 v_g0 n x6 (x7 + 1)
          else
            if x7 ≤ x2 then
              f_L_isBest_100 (f_L_isBest_35 x1 x2 x3 x4 x5 v_g0 n) x2 x3 x4 (1 : Int32) x7 (x2 - x7) v_g0
            else
              f_L_isBest_100 (f_L_isBest_35 x1 x2 x3 x4 x5 v_g0 n) x2 x3 x4 (1 : Int32) x7 (x7 - x2) v_g0
      else
        f_L_isBest_35 x1 x2 x3 x4 x5 v_g0 n x6 (x7 + 1)
def f_L_isBest (p1 : Int32) (v_g0 : GS) : Option (Int32 × GS) :=
  (g_told (5 : Int32) v_g0).bind fun q2 =>
  (g_best p1 (0 : Int32) v_g0).bind fun q9 =>
  (g_best p1 (1 : Int32) v_g0).bind fun q16 =>
  (g_best p1 (2 : Int32) v_g0).bind fun q24 =>
  f_L_isBest_35 p1 q2 q9 q16 q24 v_g0 gas (0 : Int32) (0 : Int32)
def rm_L_isBest : Room := { frames := 6, cells := 0, slots := 0, locals := 152 }
set_option maxHeartbeats 4000000 in
set_option maxRecDepth 100000 in
theorem c_L_isBest (l : Launch) (dC : Nat → ClassId) (dI : Nat → Nat → Nat) (cI cZ cO : ClassId) (o0 : Nat) (sz : Nat) (w0 : va_W) (v_g0 : GS) (p1 : Int32) (r : Int32) (o_g0 : GS) (hO0 : OB cI cZ cO o0 v_g0 w0) (hF : f_L_isBest p1 v_g0 = some (r, o_g0)) : Met l yL_isBest wsL_isBest rm_L_isBest (va_Pc [.ref o0, .int p1] (wrW dC dI cI cZ cO sz w0)) (va_Qi (fun (q : Int32) (u : va_W) => r = q ∧ OB cI cZ cO o0 o_g0 u) (fun u t => va_P (dC, dI) vwCl u t.heap ∧ va_D (va_A w0 sz) u) (va_A w0 sz)) 0 0 (va_A w0 sz) := by
  refine Met.ofW (cc := cL_isBest) (maxL := 13) (ret := (some .boolean)) (by decide) rfl ?_
  intro p e s m args below meth c s₁ B hml hv
  obtain ⟨rfl, hsz, hP, hK, hN, hD0⟩ := hv
  have hx := B.exec
  have hb := B.bytes
  have hr := B.returns
  have hts := atoms_spec (ws := wsL_isBest) B.pre
  have hown : s.vm.findClass RL = some m.cls := findClass_of_methodNamed B.named
  have hlocks := B.notSynchronized
  subst hsz
  have hD := hD0.self (sz := s.heap.size)
  obtain ⟨Q, hQ⟩ : ∃ Q, Q = MQ below (va_Qi (fun (q : Int32) (u : va_W) => r = q ∧ OB cI cZ cO o0 o_g0 u) (fun u t => va_P (dC, dI) vwCl u t.heap ∧ va_D (va_A w0 s.heap.size) u) (va_A w0 s.heap.size)) ([.ref o0, .int p1] : List Value).toArray s 0 0 (va_A w0 s.heap.size) := ⟨_, rfl⟩
  rw [← hQ]
  obtain ⟨A, hAe⟩ : ∃ A, A = va_A w0 s.heap.size := ⟨_, rfl⟩
  rw [← hAe] at hD
  have hA : ∀ q : Nat, s.heap.size ≤ q → A q := fun q h => by rw [hAe]; exact Or.inr h
  obtain ⟨H, hH⟩ : ∃ H, H = s.heap := ⟨_, rfl⟩
  have hS : va_S A s.heap H [] := by rw [hH]; exact va_S.rf
  rw [← hH] at hP
  rw [← hH]
  have hl := lv_entry ([.ref o0, .int p1]) (n := 13) (Nat.le_of_ble_eq_true rfl)
  rw [lg_entry_eq]
  generalize (lg_sl ([.ref o0, .int p1]) ++ List.replicate (13 - (lg_sl ([.ref o0, .int p1])).length) Slot.unset).toArray = ls at hl ⊢
  have hl : lv_has ls 13 [(0, .ref o0), (1, .int p1)] := hl
  have B388 : ∀ (x2_388 : Int32) (s0_388 : Int32) (v_g0_388 : GS), f_L_isBest_388 x2_388 s0_388 v_g0_388 = some (r, o_g0) → ∀ (w0_388 : va_W), OB cI cZ cO o0 v_g0_388 w0_388 → ∀ (H : Heap) (locs : List Loc), va_P (dC, dI) vwCl w0_388 H → va_D A w0_388 → va_S A s.heap H locs → ∀ ls : Array Slot, lv_has ls 13 [(0, .ref o0), (2, .int x2_388)] → W p l e (headSpec wsL_isBest rm_L_isBest).room s m ([.ref o0, .int p1] : List Value).toArray below meth c H locs 0 0 Q (F0 m 388 ls [.int s0_388]) := by
    intro x2_388 s0_388 v_g0_388 hF w0_388 hO0_388 H locs hP hD hS ls hl
    unfold f_L_isBest_388 at hF
    refine lv_istore (lv' := [(12, .int s0_388), (0, .ref o0), (2, .int x2_388)]) hx hb dL_isBest_388 hl (by decide) rfl (fun ls hl => ?_)
    refine lv_aload_n hx hb dL_isBest_390 rfl (lv_at hl 1 rfl) ?_
    obtain ⟨q_391, hq_391, hF⟩ := bindE hF
    obtain ⟨k_391, hT_391, hq_391⟩ := undo_some hq_391
    subst hq_391
    have hPc := hP
    have hDc := hD
    have hFc := va_free2 hDc hS hA
    obtain ⟨vs_391, hv_391⟩ := OB_recv hO0_388
    refine va_calli (va_runV (As := []) (rest := []) ⟨hx, hb, hml, hown, hts⟩ (o_undo l dC dI cI cZ cO o0 H.size w0_388 v_g0_388 k_391 hO0_388 hT_391) (cwV 0 hts gL_isBest_X3_undo rfl rfl rfl (by decide +kernel) ⟨Nat.le_of_ble_eq_true rfl, Nat.le_of_ble_eq_true rfl⟩) ⟨fb_wr, va_recv hK hPc (ci := 3) (q0 := 0) rfl hv_391, pre_wr hPc hK hN hDc⟩ rfl rfl hl.1 rfl (lv_room (Nat.le_of_ble_eq_true rfl)) dL_isBest_391 ⟨Nat.zero_le _, Nat.zero_le _⟩) hS (fun q _ h => hFc q h) hFc (fun z_391 x_391 t H1 locs ht hvm hw hB hz1 hk1 hS => ?_)
    obtain ⟨hz_391, hO_391⟩ := hw
    obtain ⟨hP1, hD1⟩ := hB
    rw [ht] at hP1
    have hP := hP1
    have hD := hD1.weaken (fun k q _ h => hFc q.1 h)
    generalize H1 = H at hP hS ⊢
    refine lv_if_lt (tgt := 415) hx hb dL_isBest_394 (by decide) (fun c_394 => absurd c_394 hz_391) (fun c_394 => ?_)
    have hF := (if_neg (show ¬ (0 : Int32) < (0 : Int32) by decide)).symm.trans hF
    refine lv_iload hx hb dL_isBest_397 (lv_at hl 0 rfl) ?_
    refine lv_if_eq (tgt := 415) hx hb dL_isBest_399 (by decide) (fun c_399 => ?_) (fun c_399 => ?_)
    · have hF := (if_pos c_399).symm.trans hF
      refine lv_iconst (v := (0 : Int32)) hx hb dL_isBest_415 (by decide) ?_
      have hF : some ((0 : Int32), (gW v_g0_388 k_391 (gM v_g0_388) none)) = some (r, o_g0) := hF
      cases hF
      subst hQ
      subst hAe
      exact W.zret (ty := .boolean) hx hb hr rfl (fun t ht hW => ⟨⟨_, x_391, rfl, ⟨rfl, hO_391⟩, ⟨by rw [ht]; exact hP, hD⟩⟩, hS.F ht⟩) hS.2.2 dL_isBest_416
    · have hF := (if_neg c_399).symm.trans hF
      refine lv_aload_n hx hb dL_isBest_402 rfl (lv_at hl 1 rfl) ?_
      refine lv_iconst (v := (5 : Int32)) hx hb dL_isBest_403 (by decide) ?_
      obtain ⟨q_404, hq_404, hF⟩ := bindE hF
      have hPc := hP
      obtain ⟨vs_404, hv_404⟩ := OB_recv hO_391
      refine vp_callSi (va_Run.run (va_runV (As := [.int (5 : Int32)]) (rest := []) ⟨hx, hb, hml, hown, hts⟩ (o_told l dC dI cI cZ cO o0 x_391 (gW v_g0_388 k_391 (gM v_g0_388) none) (5 : Int32) q_404 hO_391 hq_404) (cwV 1 hts gL_isBest_X3_told rfl rfl rfl (by decide +kernel) ⟨Nat.le_of_ble_eq_true rfl, Nat.le_of_ble_eq_true rfl⟩) ⟨fb_rd, va_recv hK hPc (ci := 3) (q0 := 0) rfl hv_404, pre_rd hPc hK hN⟩ rfl rfl hl.1 rfl (lv_room (Nat.le_of_ble_eq_true rfl)) dL_isBest_404 ⟨Nat.zero_le _, Nat.zero_le _⟩)) (fun z_404 hz_404 => ?_)
      subst hz_404
      refine lv_iload_n hx hb dL_isBest_407 rfl (lv_at hl 2 rfl) ?_
      refine lv_icmp_ne (tgt := 415) hx hb dL_isBest_408 (by decide) (fun c_408 => ?_) (fun c_408 => ?_)
      · have hF := (if_neg c_408).symm.trans hF
        refine lv_iconst (v := (0 : Int32)) hx hb dL_isBest_415 (by decide) ?_
        have hF : some ((0 : Int32), (gW v_g0_388 k_391 (gM v_g0_388) none)) = some (r, o_g0) := hF
        cases hF
        subst hQ
        subst hAe
        exact W.zret (ty := .boolean) hx hb hr rfl (fun t ht hW => ⟨⟨_, x_391, rfl, ⟨rfl, hO_391⟩, ⟨by rw [ht]; exact hP, hD⟩⟩, hS.F ht⟩) hS.2.2 dL_isBest_416
      · have hF := (if_pos c_408).symm.trans hF
        refine lv_iconst (v := (1 : Int32)) hx hb dL_isBest_411 (by decide) ?_
        refine lv_goto (tgt := 416) hx hb dL_isBest_412 (by decide) ?_
        have hF : some ((1 : Int32), (gW v_g0_388 k_391 (gM v_g0_388) none)) = some (r, o_g0) := hF
        cases hF
        subst hQ
        subst hAe
        exact W.zret (ty := .boolean) hx hb hr rfl (fun t ht hW => ⟨⟨_, x_391, rfl, ⟨rfl, hO_391⟩, ⟨by rw [ht]; exact hP, hD⟩⟩, hS.F ht⟩) hS.2.2 dL_isBest_416
  have B387 : ∀ (x2_387 : Int32) (v_g0_387 : GS), f_L_isBest_387 x2_387 v_g0_387 = some (r, o_g0) → ∀ (w0_387 : va_W), OB cI cZ cO o0 v_g0_387 w0_387 → ∀ (H : Heap) (locs : List Loc), va_P (dC, dI) vwCl w0_387 H → va_D A w0_387 → va_S A s.heap H locs → ∀ ls : Array Slot, lv_has ls 13 [(0, .ref o0), (2, .int x2_387)] → W p l e (headSpec wsL_isBest rm_L_isBest).room s m ([.ref o0, .int p1] : List Value).toArray below meth c H locs 0 0 Q (F0 m 387 ls []) := by
    intro x2_387 v_g0_387 hF w0_387 hO0_387 H locs hP hD hS ls hl
    unfold f_L_isBest_387 at hF
    refine lv_iconst (v := (0 : Int32)) hx hb dL_isBest_387 (by decide) ?_
    exact B388 x2_387 (0 : Int32) v_g0_387 hF _ hO0_387 _ _ hP hD hS _ (lv_sub hl [0, 1] rfl)
  have B371 : ∀ (x1_371 : Int32) (x2_371 : Int32) (s0_371 : Int32) (s1_371 : Int32) (v_g0_371 : GS), f_L_isBest_371 x1_371 x2_371 s0_371 s1_371 v_g0_371 = some (r, o_g0) → ∀ (w0_371 : va_W), OB cI cZ cO o0 v_g0_371 w0_371 → ∀ (H : Heap) (locs : List Loc), va_P (dC, dI) vwCl w0_371 H → va_D A w0_371 → va_S A s.heap H locs → ∀ ls : Array Slot, lv_has ls 13 [(0, .ref o0), (1, .int x1_371), (2, .int x2_371)] → W p l e (headSpec wsL_isBest rm_L_isBest).room s m ([.ref o0, .int p1] : List Value).toArray below meth c H locs 0 0 Q (F0 m 371 ls [.int s1_371, .int s0_371]) := by
    intro x1_371 x2_371 s0_371 s1_371 v_g0_371 hF w0_371 hO0_371 H locs hP hD hS ls hl
    unfold f_L_isBest_371 at hF
    refine lv_icmp_ne (tgt := 387) hx hb dL_isBest_371 (by decide) (fun c_371 => ?_) (fun c_371 => ?_)
    · have hF := (if_neg c_371).symm.trans hF
      exact B387 x2_371 v_g0_371 hF _ hO0_371 _ _ hP hD hS _ (lv_sub hl [0, 2] rfl)
    · have hF := (if_pos c_371).symm.trans hF
      refine lv_aload_n hx hb dL_isBest_374 rfl (lv_at hl 0 rfl) ?_
      refine lv_iconst (v := (0 : Int32)) hx hb dL_isBest_375 (by decide) ?_
      obtain ⟨q_376, hq_376, hF⟩ := bindE hF
      have hPc := hP
      obtain ⟨vs_376, hv_376⟩ := OB_recv hO0_371
      refine vp_callSi (va_Run.run (va_runV (As := [.int (0 : Int32)]) (rest := []) ⟨hx, hb, hml, hown, hts⟩ (o_heard l dC dI cI cZ cO o0 w0_371 v_g0_371 (0 : Int32) q_376 hO0_371 hq_376) (cwV 1 hts gL_isBest_X3_heard rfl rfl rfl (by decide +kernel) ⟨Nat.le_of_ble_eq_true rfl, Nat.le_of_ble_eq_true rfl⟩) ⟨fb_rd, va_recv hK hPc (ci := 3) (q0 := 0) rfl hv_376, pre_rd hPc hK hN⟩ rfl rfl hl.1 rfl (lv_room (Nat.le_of_ble_eq_true rfl)) dL_isBest_376 ⟨Nat.zero_le _, Nat.zero_le _⟩)) (fun z_376 hz_376 => ?_)
      subst hz_376
      refine lv_iload_n hx hb dL_isBest_379 rfl (lv_at hl 1 rfl) ?_
      refine lv_icmp_ne (tgt := 387) hx hb dL_isBest_380 (by decide) (fun c_380 => ?_) (fun c_380 => ?_)
      · have hF := (if_neg c_380).symm.trans hF
        exact B387 x2_371 v_g0_371 hF _ hO0_371 _ _ hP hD hS _ (lv_sub hl [0, 2] rfl)
      · have hF := (if_pos c_380).symm.trans hF
        refine lv_iconst (v := (1 : Int32)) hx hb dL_isBest_383 (by decide) ?_
        refine lv_goto (tgt := 388) hx hb dL_isBest_384 (by decide) ?_
        exact B388 x2_371 (1 : Int32) v_g0_371 hF _ hO0_371 _ _ hP hD hS _ (lv_sub hl [0, 2] rfl)
  have B369 : ∀ (x1_369 : Int32) (x2_369 : Int32) (x8_369 : Int32) (s0_369 : Int32) (v_g0_369 : GS), f_L_isBest_369 x1_369 x2_369 x8_369 s0_369 v_g0_369 = some (r, o_g0) → ∀ (w0_369 : va_W), OB cI cZ cO o0 v_g0_369 w0_369 → ∀ (H : Heap) (locs : List Loc), va_P (dC, dI) vwCl w0_369 H → va_D A w0_369 → va_S A s.heap H locs → ∀ ls : Array Slot, lv_has ls 13 [(0, .ref o0), (1, .int x1_369), (2, .int x2_369), (8, .int x8_369)] → W p l e (headSpec wsL_isBest rm_L_isBest).room s m ([.ref o0, .int p1] : List Value).toArray below meth c H locs 0 0 Q (F0 m 369 ls [.int s0_369]) := by
    intro x1_369 x2_369 x8_369 s0_369 v_g0_369 hF w0_369 hO0_369 H locs hP hD hS ls hl
    unfold f_L_isBest_369 at hF
    refine lv_iload hx hb dL_isBest_369 (lv_at hl 3 rfl) ?_
    exact B371 x1_369 x2_369 s0_369 x8_369 v_g0_369 hF _ hO0_369 _ _ hP hD hS _ (lv_sub hl [0, 1, 2] rfl)
  have B343 : ∀ (x1_343 : Int32) (x2_343 : Int32) (x3_343 : Int32) (x8_343 : Int32) (x11_343 : Int32) (s0_343 : Int32) (s1_343 : Int32) (v_g0_343 : GS), f_L_isBest_343 x1_343 x2_343 x3_343 x8_343 x11_343 s0_343 s1_343 v_g0_343 = some (r, o_g0) → ∀ (w0_343 : va_W), OB cI cZ cO o0 v_g0_343 w0_343 → ∀ (H : Heap) (locs : List Loc), va_P (dC, dI) vwCl w0_343 H → va_D A w0_343 → va_S A s.heap H locs → ∀ ls : Array Slot, lv_has ls 13 [(0, .ref o0), (1, .int x1_343), (2, .int x2_343), (3, .int x3_343), (8, .int x8_343), (11, .int x11_343)] → W p l e (headSpec wsL_isBest rm_L_isBest).room s m ([.ref o0, .int p1] : List Value).toArray below meth c H locs 0 0 Q (F0 m 343 ls [.int s1_343, .int s0_343]) := by
    intro x1_343 x2_343 x3_343 x8_343 x11_343 s0_343 s1_343 v_g0_343 hF w0_343 hO0_343 H locs hP hD hS ls hl
    unfold f_L_isBest_343 at hF
    refine lv_icmp_ne (tgt := 387) hx hb dL_isBest_343 (by decide) (fun c_343 => ?_) (fun c_343 => ?_)
    · have hF := (if_neg c_343).symm.trans hF
      exact B387 x2_343 v_g0_343 hF _ hO0_343 _ _ hP hD hS _ (lv_sub hl [0, 2] rfl)
    · have hF := (if_pos c_343).symm.trans hF
      refine lv_aload_n hx hb dL_isBest_346 rfl (lv_at hl 0 rfl) ?_
      refine lv_bipush (v := (11 : Int32)) hx hb dL_isBest_347 (by decide) ?_
      obtain ⟨q_349, hq_349, hF⟩ := bindE hF
      have hPc := hP
      obtain ⟨vs_349, hv_349⟩ := OB_recv hO0_343
      refine vp_callSi (va_Run.run (va_runV (As := [.int (11 : Int32)]) (rest := []) ⟨hx, hb, hml, hown, hts⟩ (o_told l dC dI cI cZ cO o0 w0_343 v_g0_343 (11 : Int32) q_349 hO0_343 hq_349) (cwV 1 hts gL_isBest_X3_told rfl rfl rfl (by decide +kernel) ⟨Nat.le_of_ble_eq_true rfl, Nat.le_of_ble_eq_true rfl⟩) ⟨fb_rd, va_recv hK hPc (ci := 3) (q0 := 0) rfl hv_349, pre_rd hPc hK hN⟩ rfl rfl hl.1 rfl (lv_room (Nat.le_of_ble_eq_true rfl)) dL_isBest_349 ⟨Nat.zero_le _, Nat.zero_le _⟩)) (fun z_349 hz_349 => ?_)
      subst hz_349
      refine lv_iload hx hb dL_isBest_352 (lv_at hl 5 rfl) ?_
      refine lv_if_eq (tgt := 369) hx hb dL_isBest_354 (by decide) (fun c_354 => ?_) (fun c_354 => ?_)
      · have hF := (if_pos c_354).symm.trans hF
        exact B369 x1_343 x2_343 x8_343 q_349 v_g0_343 hF _ hO0_343 _ _ hP hD hS _ (lv_sub hl [0, 1, 2, 4] rfl)
      · have hF := (if_neg c_354).symm.trans hF
        refine lv_iload_n hx hb dL_isBest_357 rfl (lv_at hl 3 rfl) ?_
        refine lv_iload_n hx hb dL_isBest_358 rfl (lv_at hl 2 rfl) ?_
        refine lv_icmp_ge (tgt := 369) hx hb dL_isBest_359 (by decide) (fun c_359 => ?_) (fun c_359 => ?_)
        · have hF := (if_pos c_359).symm.trans hF
          exact B369 x1_343 x2_343 x8_343 q_349 v_g0_343 hF _ hO0_343 _ _ hP hD hS _ (lv_sub hl [0, 1, 2, 4] rfl)
        · have hF := (if_neg c_359).symm.trans hF
          refine lv_iload hx hb dL_isBest_362 (lv_at hl 4 rfl) ?_
          refine lv_iconst (v := (1 : Int32)) hx hb dL_isBest_364 (by decide) ?_
          refine lv_iadd hx hb dL_isBest_365 ?_
          refine lv_goto (tgt := 371) hx hb dL_isBest_366 (by decide) ?_
          exact B371 x1_343 x2_343 q_349 (x8_343 + (1 : Int32)) v_g0_343 hF _ hO0_343 _ _ hP hD hS _ (lv_sub hl [0, 1, 2] rfl)
  have B341 : ∀ (x1_341 : Int32) (x2_341 : Int32) (x3_341 : Int32) (x7_341 : Int32) (x8_341 : Int32) (x11_341 : Int32) (s0_341 : Int32) (v_g0_341 : GS), f_L_isBest_341 x1_341 x2_341 x3_341 x7_341 x8_341 x11_341 s0_341 v_g0_341 = some (r, o_g0) → ∀ (w0_341 : va_W), OB cI cZ cO o0 v_g0_341 w0_341 → ∀ (H : Heap) (locs : List Loc), va_P (dC, dI) vwCl w0_341 H → va_D A w0_341 → va_S A s.heap H locs → ∀ ls : Array Slot, lv_has ls 13 [(0, .ref o0), (1, .int x1_341), (2, .int x2_341), (3, .int x3_341), (7, .int x7_341), (8, .int x8_341), (11, .int x11_341)] → W p l e (headSpec wsL_isBest rm_L_isBest).room s m ([.ref o0, .int p1] : List Value).toArray below meth c H locs 0 0 Q (F0 m 341 ls [.int s0_341]) := by
    intro x1_341 x2_341 x3_341 x7_341 x8_341 x11_341 s0_341 v_g0_341 hF w0_341 hO0_341 H locs hP hD hS ls hl
    unfold f_L_isBest_341 at hF
    refine lv_iload hx hb dL_isBest_341 (lv_at hl 4 rfl) ?_
    exact B343 x1_341 x2_341 x3_341 x8_341 x11_341 s0_341 x7_341 v_g0_341 hF _ hO0_341 _ _ hP hD hS _ (lv_sub hl [0, 1, 2, 3, 5, 6] rfl)
  have B315 : ∀ (x1_315 : Int32) (x2_315 : Int32) (x3_315 : Int32) (x7_315 : Int32) (x8_315 : Int32) (x11_315 : Int32) (s0_315 : Int32) (s1_315 : Int32) (v_g0_315 : GS), f_L_isBest_315 x1_315 x2_315 x3_315 x7_315 x8_315 x11_315 s0_315 s1_315 v_g0_315 = some (r, o_g0) → ∀ (w0_315 : va_W), OB cI cZ cO o0 v_g0_315 w0_315 → ∀ (H : Heap) (locs : List Loc), va_P (dC, dI) vwCl w0_315 H → va_D A w0_315 → va_S A s.heap H locs → ∀ ls : Array Slot, lv_has ls 13 [(0, .ref o0), (1, .int x1_315), (2, .int x2_315), (3, .int x3_315), (7, .int x7_315), (8, .int x8_315), (11, .int x11_315)] → W p l e (headSpec wsL_isBest rm_L_isBest).room s m ([.ref o0, .int p1] : List Value).toArray below meth c H locs 0 0 Q (F0 m 315 ls [.int s1_315, .int s0_315]) := by
    intro x1_315 x2_315 x3_315 x7_315 x8_315 x11_315 s0_315 s1_315 v_g0_315 hF w0_315 hO0_315 H locs hP hD hS ls hl
    unfold f_L_isBest_315 at hF
    refine lv_icmp_ne (tgt := 387) hx hb dL_isBest_315 (by decide) (fun c_315 => ?_) (fun c_315 => ?_)
    · have hF := (if_neg c_315).symm.trans hF
      exact B387 x2_315 v_g0_315 hF _ hO0_315 _ _ hP hD hS _ (lv_sub hl [0, 2] rfl)
    · have hF := (if_pos c_315).symm.trans hF
      refine lv_aload_n hx hb dL_isBest_318 rfl (lv_at hl 0 rfl) ?_
      refine lv_bipush (v := (10 : Int32)) hx hb dL_isBest_319 (by decide) ?_
      obtain ⟨q_321, hq_321, hF⟩ := bindE hF
      have hPc := hP
      obtain ⟨vs_321, hv_321⟩ := OB_recv hO0_315
      refine vp_callSi (va_Run.run (va_runV (As := [.int (10 : Int32)]) (rest := []) ⟨hx, hb, hml, hown, hts⟩ (o_told l dC dI cI cZ cO o0 w0_315 v_g0_315 (10 : Int32) q_321 hO0_315 hq_321) (cwV 1 hts gL_isBest_X3_told rfl rfl rfl (by decide +kernel) ⟨Nat.le_of_ble_eq_true rfl, Nat.le_of_ble_eq_true rfl⟩) ⟨fb_rd, va_recv hK hPc (ci := 3) (q0 := 0) rfl hv_321, pre_rd hPc hK hN⟩ rfl rfl hl.1 rfl (lv_room (Nat.le_of_ble_eq_true rfl)) dL_isBest_321 ⟨Nat.zero_le _, Nat.zero_le _⟩)) (fun z_321 hz_321 => ?_)
      subst hz_321
      refine lv_iload hx hb dL_isBest_324 (lv_at hl 6 rfl) ?_
      refine lv_if_eq (tgt := 341) hx hb dL_isBest_326 (by decide) (fun c_326 => ?_) (fun c_326 => ?_)
      · have hF := (if_pos c_326).symm.trans hF
        exact B341 x1_315 x2_315 x3_315 x7_315 x8_315 x11_315 q_321 v_g0_315 hF _ hO0_315 _ _ hP hD hS _ (lv_sub hl [0, 1, 2, 3, 4, 5, 6] rfl)
      · have hF := (if_neg c_326).symm.trans hF
        refine lv_iload_n hx hb dL_isBest_329 rfl (lv_at hl 3 rfl) ?_
        refine lv_iload_n hx hb dL_isBest_330 rfl (lv_at hl 2 rfl) ?_
        refine lv_icmp_le (tgt := 341) hx hb dL_isBest_331 (by decide) (fun c_331 => ?_) (fun c_331 => ?_)
        · have hF := (if_pos c_331).symm.trans hF
          exact B341 x1_315 x2_315 x3_315 x7_315 x8_315 x11_315 q_321 v_g0_315 hF _ hO0_315 _ _ hP hD hS _ (lv_sub hl [0, 1, 2, 3, 4, 5, 6] rfl)
        · have hF := (if_neg c_331).symm.trans hF
          refine lv_iload hx hb dL_isBest_334 (lv_at hl 4 rfl) ?_
          refine lv_iconst (v := (1 : Int32)) hx hb dL_isBest_336 (by decide) ?_
          refine lv_iadd hx hb dL_isBest_337 ?_
          refine lv_goto (tgt := 343) hx hb dL_isBest_338 (by decide) ?_
          exact B343 x1_315 x2_315 x3_315 x8_315 x11_315 q_321 (x7_315 + (1 : Int32)) v_g0_315 hF _ hO0_315 _ _ hP hD hS _ (lv_sub hl [0, 1, 2, 3, 5, 6] rfl)
  have B292 : ∀ (x1_292 : Int32) (x2_292 : Int32) (x3_292 : Int32) (x7_292 : Int32) (x8_292 : Int32) (x9_292 : Int32) (x11_292 : Int32) (s0_292 : Int32) (s1_292 : Int32) (v_g0_292 : GS), f_L_isBest_292 x1_292 x2_292 x3_292 x7_292 x8_292 x9_292 x11_292 s0_292 s1_292 v_g0_292 = some (r, o_g0) → ∀ (w0_292 : va_W), OB cI cZ cO o0 v_g0_292 w0_292 → ∀ (H : Heap) (locs : List Loc), va_P (dC, dI) vwCl w0_292 H → va_D A w0_292 → va_S A s.heap H locs → ∀ ls : Array Slot, lv_has ls 13 [(0, .ref o0), (1, .int x1_292), (2, .int x2_292), (3, .int x3_292), (7, .int x7_292), (8, .int x8_292), (9, .int x9_292), (11, .int x11_292)] → W p l e (headSpec wsL_isBest rm_L_isBest).room s m ([.ref o0, .int p1] : List Value).toArray below meth c H locs 0 0 Q (F0 m 292 ls [.int s1_292, .int s0_292]) := by
    intro x1_292 x2_292 x3_292 x7_292 x8_292 x9_292 x11_292 s0_292 s1_292 v_g0_292 hF w0_292 hO0_292 H locs hP hD hS ls hl
    unfold f_L_isBest_292 at hF
    refine lv_icmp_ne (tgt := 387) hx hb dL_isBest_292 (by decide) (fun c_292 => ?_) (fun c_292 => ?_)
    · have hF := (if_neg c_292).symm.trans hF
      exact B387 x2_292 v_g0_292 hF _ hO0_292 _ _ hP hD hS _ (lv_sub hl [0, 2] rfl)
    · have hF := (if_pos c_292).symm.trans hF
      refine lv_aload_n hx hb dL_isBest_295 rfl (lv_at hl 0 rfl) ?_
      refine lv_bipush (v := (12 : Int32)) hx hb dL_isBest_296 (by decide) ?_
      obtain ⟨q_298, hq_298, hF⟩ := bindE hF
      have hPc := hP
      obtain ⟨vs_298, hv_298⟩ := OB_recv hO0_292
      refine vp_callSi (va_Run.run (va_runV (As := [.int (12 : Int32)]) (rest := []) ⟨hx, hb, hml, hown, hts⟩ (o_told l dC dI cI cZ cO o0 w0_292 v_g0_292 (12 : Int32) q_298 hO0_292 hq_298) (cwV 1 hts gL_isBest_X3_told rfl rfl rfl (by decide +kernel) ⟨Nat.le_of_ble_eq_true rfl, Nat.le_of_ble_eq_true rfl⟩) ⟨fb_rd, va_recv hK hPc (ci := 3) (q0 := 0) rfl hv_298, pre_rd hPc hK hN⟩ rfl rfl hl.1 rfl (lv_room (Nat.le_of_ble_eq_true rfl)) dL_isBest_298 ⟨Nat.zero_le _, Nat.zero_le _⟩)) (fun z_298 hz_298 => ?_)
      subst hz_298
      refine lv_iload hx hb dL_isBest_301 (lv_at hl 7 rfl) ?_
      refine lv_if_eq (tgt := 311) hx hb dL_isBest_303 (by decide) (fun c_303 => ?_) (fun c_303 => ?_)
      · have hF := (if_pos c_303).symm.trans hF
        refine lv_iload hx hb dL_isBest_311 (lv_at hl 6 rfl) ?_
        refine lv_iconst (v := (1 : Int32)) hx hb dL_isBest_313 (by decide) ?_
        refine lv_iadd hx hb dL_isBest_314 ?_
        exact B315 x1_292 x2_292 x3_292 x7_292 x8_292 x11_292 q_298 (x9_292 + (1 : Int32)) v_g0_292 hF _ hO0_292 _ _ hP hD hS _ (lv_sub hl [0, 1, 2, 3, 4, 5, 7] rfl)
      · have hF := (if_neg c_303).symm.trans hF
        refine lv_iload hx hb dL_isBest_306 (lv_at hl 6 rfl) ?_
        refine lv_goto (tgt := 315) hx hb dL_isBest_308 (by decide) ?_
        exact B315 x1_292 x2_292 x3_292 x7_292 x8_292 x11_292 q_298 x9_292 v_g0_292 hF _ hO0_292 _ _ hP hD hS _ (lv_sub hl [0, 1, 2, 3, 4, 5, 7] rfl)
  have B275 : ∀ (x1_275 : Int32) (x2_275 : Int32) (x3_275 : Int32) (x7_275 : Int32) (x8_275 : Int32) (x9_275 : Int32) (x10_275 : Int32) (s0_275 : Int32) (v_g0_275 : GS), f_L_isBest_275 x1_275 x2_275 x3_275 x7_275 x8_275 x9_275 x10_275 s0_275 v_g0_275 = some (r, o_g0) → ∀ (w0_275 : va_W), OB cI cZ cO o0 v_g0_275 w0_275 → ∀ (H : Heap) (locs : List Loc), va_P (dC, dI) vwCl w0_275 H → va_D A w0_275 → va_S A s.heap H locs → ∀ ls : Array Slot, lv_has ls 13 [(0, .ref o0), (1, .int x1_275), (2, .int x2_275), (3, .int x3_275), (7, .int x7_275), (8, .int x8_275), (9, .int x9_275), (10, .int x10_275)] → W p l e (headSpec wsL_isBest rm_L_isBest).room s m ([.ref o0, .int p1] : List Value).toArray below meth c H locs 0 0 Q (F0 m 275 ls [.int s0_275]) := by
    intro x1_275 x2_275 x3_275 x7_275 x8_275 x9_275 x10_275 s0_275 v_g0_275 hF w0_275 hO0_275 H locs hP hD hS ls hl
    unfold f_L_isBest_275 at hF
    refine lv_istore (lv' := [(11, .int s0_275), (0, .ref o0), (1, .int x1_275), (2, .int x2_275), (3, .int x3_275), (7, .int x7_275), (8, .int x8_275), (9, .int x9_275), (10, .int x10_275)]) hx hb dL_isBest_275 hl (by decide) rfl (fun ls hl => ?_)
    refine lv_iload hx hb dL_isBest_277 (lv_at hl 8 rfl) ?_
    refine lv_iload hx hb dL_isBest_279 (lv_at hl 0 rfl) ?_
    refine lv_if_eq (tgt := 290) hx hb dL_isBest_281 (by decide) (fun c_281 => ?_) (fun c_281 => ?_)
    · have hF := (if_pos c_281).symm.trans hF
      refine lv_bipush (v := (-9 : Int32)) hx hb dL_isBest_290 (by decide) ?_
      exact B292 x1_275 x2_275 x3_275 x7_275 x8_275 x9_275 s0_275 x10_275 (-9 : Int32) v_g0_275 hF _ hO0_275 _ _ hP hD hS _ (lv_sub hl [1, 2, 3, 4, 5, 6, 7, 0] rfl)
    · have hF := (if_neg c_281).symm.trans hF
      refine lv_iload_n hx hb dL_isBest_284 rfl (lv_at hl 4 rfl) ?_
      refine lv_iconst (v := (1 : Int32)) hx hb dL_isBest_285 (by decide) ?_
      refine lv_iadd hx hb dL_isBest_286 ?_
      refine lv_goto (tgt := 292) hx hb dL_isBest_287 (by decide) ?_
      exact B292 x1_275 x2_275 x3_275 x7_275 x8_275 x9_275 s0_275 x10_275 (x3_275 + (1 : Int32)) v_g0_275 hF _ hO0_275 _ _ hP hD hS _ (lv_sub hl [1, 2, 3, 4, 5, 6, 7, 0] rfl)
  have B274 : ∀ (x1_274 : Int32) (x2_274 : Int32) (x3_274 : Int32) (x7_274 : Int32) (x8_274 : Int32) (x9_274 : Int32) (x10_274 : Int32) (v_g0_274 : GS), f_L_isBest_274 x1_274 x2_274 x3_274 x7_274 x8_274 x9_274 x10_274 v_g0_274 = some (r, o_g0) → ∀ (w0_274 : va_W), OB cI cZ cO o0 v_g0_274 w0_274 → ∀ (H : Heap) (locs : List Loc), va_P (dC, dI) vwCl w0_274 H → va_D A w0_274 → va_S A s.heap H locs → ∀ ls : Array Slot, lv_has ls 13 [(0, .ref o0), (1, .int x1_274), (2, .int x2_274), (3, .int x3_274), (7, .int x7_274), (8, .int x8_274), (9, .int x9_274), (10, .int x10_274)] → W p l e (headSpec wsL_isBest rm_L_isBest).room s m ([.ref o0, .int p1] : List Value).toArray below meth c H locs 0 0 Q (F0 m 274 ls []) := by
    intro x1_274 x2_274 x3_274 x7_274 x8_274 x9_274 x10_274 v_g0_274 hF w0_274 hO0_274 H locs hP hD hS ls hl
    unfold f_L_isBest_274 at hF
    refine lv_iconst (v := (0 : Int32)) hx hb dL_isBest_274 (by decide) ?_
    exact B275 x1_274 x2_274 x3_274 x7_274 x8_274 x9_274 x10_274 (0 : Int32) v_g0_274 hF _ hO0_274 _ _ hP hD hS _ (lv_sub hl [0, 1, 2, 3, 4, 5, 6, 7] rfl)
  have B228 : ∀ (x1_228 : Int32) (x2_228 : Int32) (x3_228 : Int32) (x5_228 : Int32) (x6_228 : Int32) (v_g0_228 : GS), f_L_isBest_228 x1_228 x2_228 x3_228 x5_228 x6_228 v_g0_228 = some (r, o_g0) → ∀ (w0_228 : va_W), OB cI cZ cO o0 v_g0_228 w0_228 → ∀ (H : Heap) (locs : List Loc), va_P (dC, dI) vwCl w0_228 H → va_D A w0_228 → va_S A s.heap H locs → ∀ ls : Array Slot, lv_has ls 13 [(0, .ref o0), (1, .int x1_228), (2, .int x2_228), (3, .int x3_228), (5, .int x5_228), (6, .int x6_228)] → W p l e (headSpec wsL_isBest rm_L_isBest).room s m ([.ref o0, .int p1] : List Value).toArray below meth c H locs 0 0 Q (F0 m 228 ls []) := by
    intro x1_228 x2_228 x3_228 x5_228 x6_228 v_g0_228 hF w0_228 hO0_228 H locs hP hD hS ls hl
    unfold f_L_isBest_228 at hF
    refine lv_aload_n hx hb dL_isBest_228 rfl (lv_at hl 0 rfl) ?_
    refine lv_bipush (v := (10 : Int32)) hx hb dL_isBest_229 (by decide) ?_
    obtain ⟨q_231, hq_231, hF⟩ := bindE hF
    have hPc := hP
    obtain ⟨vs_231, hv_231⟩ := OB_recv hO0_228
    refine vp_callSi (va_Run.run (va_runV (As := [.int (10 : Int32)]) (rest := []) ⟨hx, hb, hml, hown, hts⟩ (o_told l dC dI cI cZ cO o0 w0_228 v_g0_228 (10 : Int32) q_231 hO0_228 hq_231) (cwV 1 hts gL_isBest_X3_told rfl rfl rfl (by decide +kernel) ⟨Nat.le_of_ble_eq_true rfl, Nat.le_of_ble_eq_true rfl⟩) ⟨fb_rd, va_recv hK hPc (ci := 3) (q0 := 0) rfl hv_231, pre_rd hPc hK hN⟩ rfl rfl hl.1 rfl (lv_room (Nat.le_of_ble_eq_true rfl)) dL_isBest_231 ⟨Nat.zero_le _, Nat.zero_le _⟩)) (fun z_231 hz_231 => ?_)
    subst hz_231
    refine lv_istore (lv' := [(7, .int q_231), (0, .ref o0), (1, .int x1_228), (2, .int x2_228), (3, .int x3_228), (5, .int x5_228), (6, .int x6_228)]) hx hb dL_isBest_234 hl (by decide) rfl (fun ls hl => ?_)
    refine lv_aload_n hx hb dL_isBest_236 rfl (lv_at hl 1 rfl) ?_
    refine lv_bipush (v := (11 : Int32)) hx hb dL_isBest_237 (by decide) ?_
    obtain ⟨q_239, hq_239, hF⟩ := bindE hF
    have hPc := hP
    obtain ⟨vs_239, hv_239⟩ := OB_recv hO0_228
    refine vp_callSi (va_Run.run (va_runV (As := [.int (11 : Int32)]) (rest := []) ⟨hx, hb, hml, hown, hts⟩ (o_told l dC dI cI cZ cO o0 w0_228 v_g0_228 (11 : Int32) q_239 hO0_228 hq_239) (cwV 1 hts gL_isBest_X3_told rfl rfl rfl (by decide +kernel) ⟨Nat.le_of_ble_eq_true rfl, Nat.le_of_ble_eq_true rfl⟩) ⟨fb_rd, va_recv hK hPc (ci := 3) (q0 := 0) rfl hv_239, pre_rd hPc hK hN⟩ rfl rfl hl.1 rfl (lv_room (Nat.le_of_ble_eq_true rfl)) dL_isBest_239 ⟨Nat.zero_le _, Nat.zero_le _⟩)) (fun z_239 hz_239 => ?_)
    subst hz_239
    refine lv_istore (lv' := [(8, .int q_239), (7, .int q_231), (0, .ref o0), (1, .int x1_228), (2, .int x2_228), (3, .int x3_228), (5, .int x5_228), (6, .int x6_228)]) hx hb dL_isBest_242 hl (by decide) rfl (fun ls hl => ?_)
    refine lv_aload_n hx hb dL_isBest_244 rfl (lv_at hl 2 rfl) ?_
    refine lv_bipush (v := (12 : Int32)) hx hb dL_isBest_245 (by decide) ?_
    obtain ⟨q_247, hq_247, hF⟩ := bindE hF
    have hPc := hP
    obtain ⟨vs_247, hv_247⟩ := OB_recv hO0_228
    refine vp_callSi (va_Run.run (va_runV (As := [.int (12 : Int32)]) (rest := []) ⟨hx, hb, hml, hown, hts⟩ (o_told l dC dI cI cZ cO o0 w0_228 v_g0_228 (12 : Int32) q_247 hO0_228 hq_247) (cwV 1 hts gL_isBest_X3_told rfl rfl rfl (by decide +kernel) ⟨Nat.le_of_ble_eq_true rfl, Nat.le_of_ble_eq_true rfl⟩) ⟨fb_rd, va_recv hK hPc (ci := 3) (q0 := 0) rfl hv_247, pre_rd hPc hK hN⟩ rfl rfl hl.1 rfl (lv_room (Nat.le_of_ble_eq_true rfl)) dL_isBest_247 ⟨Nat.zero_le _, Nat.zero_le _⟩)) (fun z_247 hz_247 => ?_)
    subst hz_247
    refine lv_istore (lv' := [(9, .int q_247), (8, .int q_239), (7, .int q_231), (0, .ref o0), (1, .int x1_228), (2, .int x2_228), (3, .int x3_228), (5, .int x5_228), (6, .int x6_228)]) hx hb dL_isBest_250 hl (by decide) rfl (fun ls hl => ?_)
    refine lv_aload_n hx hb dL_isBest_252 rfl (lv_at hl 3 rfl) ?_
    refine lv_iload_n hx hb dL_isBest_253 rfl (lv_at hl 4 rfl) ?_
    obtain ⟨q_254, hq_254, hF⟩ := bindE hF
    obtain ⟨r_254, u_254⟩ := q_254
    have hPc := hP
    have hDc := hD
    have hFc := va_free2 hDc hS hA
    obtain ⟨vs_254, hv_254⟩ := OB_recv hO0_228
    refine va_calli (va_runV (As := [.int x1_228]) (rest := []) ⟨hx, hb, hml, hown, hts⟩ (o_hear l dC dI cI cZ cO o0 H.size w0_228 v_g0_228 x1_228 r_254 u_254 hO0_228 hq_254) (cwV 1 hts gL_isBest_X3_hear rfl rfl rfl (by decide +kernel) ⟨Nat.le_of_ble_eq_true rfl, Nat.le_of_ble_eq_true rfl⟩) ⟨fb_wr, va_recv hK hPc (ci := 3) (q0 := 0) rfl hv_254, pre_wr hPc hK hN hDc⟩ rfl rfl hl.1 rfl (lv_room (Nat.le_of_ble_eq_true rfl)) dL_isBest_254 ⟨Nat.zero_le _, Nat.zero_le _⟩) hS (fun q _ h => hFc q h) hFc (fun z_254 x_254 t H1 locs ht hvm hw hB hz1 hk1 hS => ?_)
    obtain ⟨hw, hO_254⟩ := hw
    subst hw
    obtain ⟨hP1, hD1⟩ := hB
    rw [ht] at hP1
    have hP := hP1
    have hD := hD1.weaken (fun k q _ h => hFc q.1 h)
    generalize H1 = H at hP hS ⊢
    refine lv_istore (lv' := [(10, .int r_254), (9, .int q_247), (8, .int q_239), (7, .int q_231), (0, .ref o0), (1, .int x1_228), (2, .int x2_228), (3, .int x3_228), (5, .int x5_228), (6, .int x6_228)]) hx hb dL_isBest_257 hl (by decide) rfl (fun ls hl => ?_)
    refine lv_iload hx hb dL_isBest_259 (lv_at hl 9 rfl) ?_
    refine lv_if_eq (tgt := 274) hx hb dL_isBest_261 (by decide) (fun c_261 => ?_) (fun c_261 => ?_)
    · have hF := (if_pos c_261).symm.trans hF
      exact B274 x1_228 x2_228 x3_228 q_231 q_239 q_247 r_254 u_254 hF _ hO_254 _ _ hP hD hS _ (lv_sub hl [4, 5, 6, 7, 3, 2, 1, 0] rfl)
    · have hF := (if_neg c_261).symm.trans hF
      refine lv_iload hx hb dL_isBest_264 (lv_at hl 8 rfl) ?_
      refine lv_iconst (v := (1 : Int32)) hx hb dL_isBest_266 (by decide) ?_
      refine lv_icmp_ne (tgt := 274) hx hb dL_isBest_267 (by decide) (fun c_267 => ?_) (fun c_267 => ?_)
      · have hF := (if_neg c_267).symm.trans hF
        exact B274 x1_228 x2_228 x3_228 q_231 q_239 q_247 r_254 u_254 hF _ hO_254 _ _ hP hD hS _ (lv_sub hl [4, 5, 6, 7, 3, 2, 1, 0] rfl)
      · have hF := (if_pos c_267).symm.trans hF
        refine lv_iconst (v := (1 : Int32)) hx hb dL_isBest_270 (by decide) ?_
        refine lv_goto (tgt := 275) hx hb dL_isBest_271 (by decide) ?_
        exact B275 x1_228 x2_228 x3_228 q_231 q_239 q_247 r_254 (1 : Int32) u_254 hF _ hO_254 _ _ hP hD hS _ (lv_sub hl [4, 5, 6, 7, 3, 2, 1, 0] rfl)
  have B223 : ∀ (x1_223 : Int32) (x2_223 : Int32) (x3_223 : Int32) (x5_223 : Int32) (x6_223 : Int32) (s0_223 : Int32) (s1_223 : Int32) (v_g0_223 : GS), f_L_isBest_223 x1_223 x2_223 x3_223 x5_223 x6_223 s0_223 s1_223 v_g0_223 = some (r, o_g0) → ∀ (w0_223 : va_W), OB cI cZ cO o0 v_g0_223 w0_223 → ∀ (H : Heap) (locs : List Loc), va_P (dC, dI) vwCl w0_223 H → va_D A w0_223 → va_S A s.heap H locs → ∀ ls : Array Slot, lv_has ls 13 [(0, .ref o0), (1, .int x1_223), (2, .int x2_223), (3, .int x3_223), (5, .int x5_223), (6, .int x6_223)] → W p l e (headSpec wsL_isBest rm_L_isBest).room s m ([.ref o0, .int p1] : List Value).toArray below meth c H locs 0 0 Q (F0 m 223 ls [.int s1_223, .int s0_223]) := by
    intro x1_223 x2_223 x3_223 x5_223 x6_223 s0_223 s1_223 v_g0_223 hF w0_223 hO0_223 H locs hP hD hS ls hl
    unfold f_L_isBest_223 at hF
    refine lv_icmp_eq (tgt := 228) hx hb dL_isBest_223 (by decide) (fun c_223 => ?_) (fun c_223 => ?_)
    · have hF := (if_pos c_223).symm.trans hF
      exact B228 x1_223 x2_223 x3_223 x5_223 x6_223 v_g0_223 hF _ hO0_223 _ _ hP hD hS _ (lv_sub hl [0, 1, 2, 3, 4, 5] rfl)
    · have hF := (if_neg c_223).symm.trans hF
      refine lv_iconst (v := (0 : Int32)) hx hb dL_isBest_226 (by decide) ?_
      have hF : some ((0 : Int32), v_g0_223) = some (r, o_g0) := hF
      cases hF
      subst hQ
      subst hAe
      exact W.zret (ty := .boolean) hx hb hr rfl (fun t ht hW => ⟨⟨_, w0_223, rfl, ⟨rfl, hO0_223⟩, ⟨by rw [ht]; exact hP, hD⟩⟩, hS.F ht⟩) hS.2.2 dL_isBest_227
  have B218 : ∀ (x1_218 : Int32) (x2_218 : Int32) (x3_218 : Int32) (x5_218 : Int32) (x6_218 : Int32) (s0_218 : Int32) (v_g0_218 : GS), f_L_isBest_218 x1_218 x2_218 x3_218 x5_218 x6_218 s0_218 v_g0_218 = some (r, o_g0) → ∀ (w0_218 : va_W), OB cI cZ cO o0 v_g0_218 w0_218 → ∀ (H : Heap) (locs : List Loc), va_P (dC, dI) vwCl w0_218 H → va_D A w0_218 → va_S A s.heap H locs → ∀ ls : Array Slot, lv_has ls 13 [(0, .ref o0), (1, .int x1_218), (2, .int x2_218), (3, .int x3_218), (5, .int x5_218), (6, .int x6_218)] → W p l e (headSpec wsL_isBest rm_L_isBest).room s m ([.ref o0, .int p1] : List Value).toArray below meth c H locs 0 0 Q (F0 m 218 ls [.int s0_218]) := by
    intro x1_218 x2_218 x3_218 x5_218 x6_218 s0_218 v_g0_218 hF w0_218 hO0_218 H locs hP hD hS ls hl
    unfold f_L_isBest_218 at hF
    refine lv_iconst (v := (1 : Int32)) hx hb dL_isBest_218 (by decide) ?_
    refine lv_goto (tgt := 223) hx hb dL_isBest_219 (by decide) ?_
    exact B223 x1_218 x2_218 x3_218 x5_218 x6_218 s0_218 (1 : Int32) v_g0_218 hF _ hO0_218 _ _ hP hD hS _ (lv_sub hl [0, 1, 2, 3, 4, 5] rfl)
  have B183 : ∀ (x1_183 : Int32) (x2_183 : Int32) (x3_183 : Int32) (x4_183 : Int32) (x5_183 : Int32) (x6_183 : Int32) (s0_183 : Int32) (s1_183 : Int32) (v_g0_183 : GS), f_L_isBest_183 x1_183 x2_183 x3_183 x4_183 x5_183 x6_183 s0_183 s1_183 v_g0_183 = some (r, o_g0) → ∀ (w0_183 : va_W), OB cI cZ cO o0 v_g0_183 w0_183 → ∀ (H : Heap) (locs : List Loc), va_P (dC, dI) vwCl w0_183 H → va_D A w0_183 → va_S A s.heap H locs → ∀ ls : Array Slot, lv_has ls 13 [(0, .ref o0), (1, .int x1_183), (2, .int x2_183), (3, .int x3_183), (4, .int x4_183), (5, .int x5_183), (6, .int x6_183)] → W p l e (headSpec wsL_isBest rm_L_isBest).room s m ([.ref o0, .int p1] : List Value).toArray below meth c H locs 0 0 Q (F0 m 183 ls [.int s1_183, .int s0_183]) := by
    intro x1_183 x2_183 x3_183 x4_183 x5_183 x6_183 s0_183 s1_183 v_g0_183 hF w0_183 hO0_183 H locs hP hD hS ls hl
    unfold f_L_isBest_183 at hF
    refine lv_icmp_ne (tgt := 226) hx hb dL_isBest_183 (by decide) (fun c_183 => ?_) (fun c_183 => ?_)
    · have hF := (if_neg c_183).symm.trans hF
      refine lv_iconst (v := (0 : Int32)) hx hb dL_isBest_226 (by decide) ?_
      have hF : some ((0 : Int32), v_g0_183) = some (r, o_g0) := hF
      cases hF
      subst hQ
      subst hAe
      exact W.zret (ty := .boolean) hx hb hr rfl (fun t ht hW => ⟨⟨_, w0_183, rfl, ⟨rfl, hO0_183⟩, ⟨by rw [ht]; exact hP, hD⟩⟩, hS.F ht⟩) hS.2.2 dL_isBest_227
    · have hF := (if_pos c_183).symm.trans hF
      refine lv_iload hx hb dL_isBest_186 (lv_at hl 6 rfl) ?_
      refine lv_if_eq (tgt := 228) hx hb dL_isBest_188 (by decide) (fun c_188 => ?_) (fun c_188 => ?_)
      · have hF := (if_pos c_188).symm.trans hF
        exact B228 x1_183 x2_183 x3_183 x5_183 x6_183 v_g0_183 hF _ hO0_183 _ _ hP hD hS _ (lv_sub hl [0, 1, 2, 3, 5, 6] rfl)
      · have hF := (if_neg c_188).symm.trans hF
        refine lv_iload hx hb dL_isBest_191 (lv_at hl 4 rfl) ?_
        refine lv_aload_n hx hb dL_isBest_193 rfl (lv_at hl 0 rfl) ?_
        refine lv_iload_n hx hb dL_isBest_194 rfl (lv_at hl 3 rfl) ?_
        obtain ⟨q_195, hq_195, hF⟩ := bindE hF
        have hPc := hP
        obtain ⟨vs_195, hv_195⟩ := OB_recv hO0_183
        refine vp_callSi (va_Run.run (va_runV (As := [.int x3_183]) (rest := [.int x4_183]) ⟨hx, hb, hml, hown, hts⟩ (o_score l dC dI cI cZ cO o0 w0_183 v_g0_183 x3_183 q_195 hO0_183 hq_195) (cwV 1 hts gL_isBest_X3_score rfl rfl rfl (by decide +kernel) ⟨Nat.le_of_ble_eq_true rfl, Nat.le_of_ble_eq_true rfl⟩) ⟨fb_rd, va_recv hK hPc (ci := 3) (q0 := 0) rfl hv_195, pre_rd hPc hK hN⟩ rfl rfl hl.1 rfl (lv_room (Nat.le_of_ble_eq_true rfl)) dL_isBest_195 ⟨Nat.zero_le _, Nat.zero_le _⟩)) (fun z_195 hz_195 => ?_)
        subst hz_195
        refine lv_icmp_ne (tgt := 226) hx hb dL_isBest_198 (by decide) (fun c_198 => ?_) (fun c_198 => ?_)
        · have hF := (if_neg c_198).symm.trans hF
          refine lv_iconst (v := (0 : Int32)) hx hb dL_isBest_226 (by decide) ?_
          have hF : some ((0 : Int32), v_g0_183) = some (r, o_g0) := hF
          cases hF
          subst hQ
          subst hAe
          exact W.zret (ty := .boolean) hx hb hr rfl (fun t ht hW => ⟨⟨_, w0_183, rfl, ⟨rfl, hO0_183⟩, ⟨by rw [ht]; exact hP, hD⟩⟩, hS.F ht⟩) hS.2.2 dL_isBest_227
        · have hF := (if_pos c_198).symm.trans hF
          refine lv_iload hx hb dL_isBest_201 (lv_at hl 5 rfl) ?_
          refine lv_iload_n hx hb dL_isBest_203 rfl (lv_at hl 3 rfl) ?_
          refine lv_iload_n hx hb dL_isBest_204 rfl (lv_at hl 2 rfl) ?_
          refine lv_icmp_eq (tgt := 218) hx hb dL_isBest_205 (by decide) (fun c_205 => ?_) (fun c_205 => ?_)
          · have hF := (if_pos c_205).symm.trans hF
            exact B218 x1_183 x2_183 x3_183 x5_183 x6_183 x5_183 v_g0_183 hF _ hO0_183 _ _ hP hD hS _ (lv_sub hl [0, 1, 2, 3, 5, 6] rfl)
          · have hF := (if_neg c_205).symm.trans hF
            refine lv_iload hx hb dL_isBest_208 (lv_at hl 4 rfl) ?_
            refine lv_aload_n hx hb dL_isBest_210 rfl (lv_at hl 0 rfl) ?_
            refine lv_iconst (v := (5 : Int32)) hx hb dL_isBest_211 (by decide) ?_
            obtain ⟨q_212, hq_212, hF⟩ := bindE hF
            have hPc := hP
            obtain ⟨vs_212, hv_212⟩ := OB_recv hO0_183
            refine vp_callSi (va_Run.run (va_runV (As := [.int (5 : Int32)]) (rest := [.int x4_183, .int x5_183]) ⟨hx, hb, hml, hown, hts⟩ (o_setting l dC dI cI cZ cO o0 w0_183 v_g0_183 (5 : Int32) q_212 hO0_183 hq_212) (cwV 1 hts gL_isBest_X3_setting rfl rfl rfl (by decide +kernel) ⟨Nat.le_of_ble_eq_true rfl, Nat.le_of_ble_eq_true rfl⟩) ⟨fb_rd, va_recv hK hPc (ci := 3) (q0 := 0) rfl hv_212, pre_rd hPc hK hN⟩ rfl rfl hl.1 rfl (lv_room (Nat.le_of_ble_eq_true rfl)) dL_isBest_212 ⟨Nat.zero_le _, Nat.zero_le _⟩)) (fun z_212 hz_212 => ?_)
            subst hz_212
            refine lv_icmp_lt (tgt := 222) hx hb dL_isBest_215 (by decide) (fun c_215 => ?_) (fun c_215 => ?_)
            · have hF := (if_pos c_215).symm.trans hF
              refine lv_iconst (v := (0 : Int32)) hx hb dL_isBest_222 (by decide) ?_
              exact B223 x1_183 x2_183 x3_183 x5_183 x6_183 x5_183 (0 : Int32) v_g0_183 hF _ hO0_183 _ _ hP hD hS _ (lv_sub hl [0, 1, 2, 3, 5, 6] rfl)
            · have hF := (if_neg c_215).symm.trans hF
              exact B218 x1_183 x2_183 x3_183 x5_183 x6_183 x5_183 v_g0_183 hF _ hO0_183 _ _ hP hD hS _ (lv_sub hl [0, 1, 2, 3, 5, 6] rfl)
  have B35 : ∀ (n_35 : Nat) (x1_35 : Int32) (x2_35 : Int32) (x3_35 : Int32) (x4_35 : Int32) (x5_35 : Int32) (v_g0_35 : GS) (x6_35 : Int32) (x7_35 : Int32), f_L_isBest_35 x1_35 x2_35 x3_35 x4_35 x5_35 v_g0_35 n_35 x6_35 x7_35 = some (r, o_g0) → ∀ (w0_35 : va_W), OB cI cZ cO o0 v_g0_35 w0_35 → ∀ (H : Heap) (locs : List Loc), va_P (dC, dI) vwCl w0_35 H → va_D A w0_35 → va_S A s.heap H locs → ∀ ls : Array Slot, lv_has ls 13 [(0, .ref o0), (1, .int x1_35), (2, .int x2_35), (3, .int x3_35), (4, .int x4_35), (5, .int x5_35), (6, .int x6_35), (7, .int x7_35)] → W p l e (headSpec wsL_isBest rm_L_isBest).room s m ([.ref o0, .int p1] : List Value).toArray below meth c H locs 0 0 Q (F0 m 35 ls []) := by
    intro n_35
    induction n_35 with
    | zero => intro x1_35 x2_35 x3_35 x4_35 x5_35 v_g0_35 x6_35 x7_35 hF; exact noneE hF
    | succ n_35 ih35 =>
      intro x1_35 x2_35 x3_35 x4_35 x5_35 v_g0_35 x6_35 x7_35 hF w0_35 hO0_35 H locs hP hD hS ls hl
      have B116 : ∀ (x6_116 : Int32) (x7_116 : Int32) (x8_116 : Int32) (s0_116 : Int32), f_L_isBest_116 (f_L_isBest_35 x1_35 x2_35 x3_35 x4_35 x5_35 v_g0_35 n_35) x3_35 x4_35 x6_116 x7_116 x8_116 s0_116 v_g0_35 = some (r, o_g0) → ∀ (w0_116 : va_W), OB cI cZ cO o0 v_g0_35 w0_116 → ∀ (H : Heap) (locs : List Loc), va_P (dC, dI) vwCl w0_116 H → va_D A w0_116 → va_S A s.heap H locs → ∀ ls : Array Slot, lv_has ls 13 [(0, .ref o0), (1, .int x1_35), (2, .int x2_35), (3, .int x3_35), (4, .int x4_35), (5, .int x5_35), (6, .int x6_116), (7, .int x7_116), (8, .int x8_116)] → W p l e (headSpec wsL_isBest rm_L_isBest).room s m ([.ref o0, .int p1] : List Value).toArray below meth c H locs 0 0 Q (F0 m 116 ls [.int s0_116]) := by
        intro x6_116 x7_116 x8_116 s0_116 hF w0_116 hO0_116 H locs hP hD hS ls hl
        unfold f_L_isBest_116 at hF
        refine lv_istore (lv' := [(9, .int s0_116), (0, .ref o0), (1, .int x1_35), (2, .int x2_35), (3, .int x3_35), (4, .int x4_35), (5, .int x5_35), (6, .int x6_116), (7, .int x7_116), (8, .int x8_116)]) hx hb dL_isBest_116 hl (by decide) rfl (fun ls hl => ?_)
        refine lv_iload_n hx hb dL_isBest_118 rfl (lv_at hl 4 rfl) ?_
        refine lv_if_lt (tgt := 164) hx hb dL_isBest_119 (by decide) (fun c_119 => ?_) (fun c_119 => ?_)
        · have hF := (if_pos c_119).symm.trans hF
          refine lv_iconst (v := (0 : Int32)) hx hb dL_isBest_164 (by decide) ?_
          have hF : some ((0 : Int32), v_g0_35) = some (r, o_g0) := hF
          cases hF
          subst hQ
          subst hAe
          exact W.zret (ty := .boolean) hx hb hr rfl (fun t ht hW => ⟨⟨_, w0_116, rfl, ⟨rfl, hO0_116⟩, ⟨by rw [ht]; exact hP, hD⟩⟩, hS.F ht⟩) hS.2.2 dL_isBest_165
        · have hF := (if_neg c_119).symm.trans hF
          refine lv_aload_n hx hb dL_isBest_122 rfl (lv_at hl 1 rfl) ?_
          refine lv_iload hx hb dL_isBest_123 (lv_at hl 8 rfl) ?_
          obtain ⟨q_125, hq_125, hF⟩ := bindE hF
          have hPc := hP
          obtain ⟨vs_125, hv_125⟩ := OB_recv hO0_116
          refine vp_callSi (va_Run.run (va_runV (As := [.int x7_116]) (rest := []) ⟨hx, hb, hml, hown, hts⟩ (o_score l dC dI cI cZ cO o0 w0_116 v_g0_35 x7_116 q_125 hO0_116 hq_125) (cwV 1 hts gL_isBest_X3_score rfl rfl rfl (by decide +kernel) ⟨Nat.le_of_ble_eq_true rfl, Nat.le_of_ble_eq_true rfl⟩) ⟨fb_rd, va_recv hK hPc (ci := 3) (q0 := 0) rfl hv_125, pre_rd hPc hK hN⟩ rfl rfl hl.1 rfl (lv_room (Nat.le_of_ble_eq_true rfl)) dL_isBest_125 ⟨Nat.zero_le _, Nat.zero_le _⟩)) (fun z_125 hz_125 => ?_)
          subst hz_125
          refine lv_iload hx hb dL_isBest_128 (lv_at hl 5 rfl) ?_
          refine lv_icmp_gt (tgt := 164) hx hb dL_isBest_130 (by decide) (fun c_130 => ?_) (fun c_130 => ?_)
          · have hF := (if_pos c_130).symm.trans hF
            refine lv_iconst (v := (0 : Int32)) hx hb dL_isBest_164 (by decide) ?_
            have hF : some ((0 : Int32), v_g0_35) = some (r, o_g0) := hF
            cases hF
            subst hQ
            subst hAe
            exact W.zret (ty := .boolean) hx hb hr rfl (fun t ht hW => ⟨⟨_, w0_116, rfl, ⟨rfl, hO0_116⟩, ⟨by rw [ht]; exact hP, hD⟩⟩, hS.F ht⟩) hS.2.2 dL_isBest_165
          · have hF := (if_neg c_130).symm.trans hF
            refine lv_aload_n hx hb dL_isBest_133 rfl (lv_at hl 1 rfl) ?_
            refine lv_iload hx hb dL_isBest_134 (lv_at hl 8 rfl) ?_
            obtain ⟨q_136, hq_136, hF⟩ := bindE hF
            have hPc := hP
            obtain ⟨vs_136, hv_136⟩ := OB_recv hO0_116
            refine vp_callSi (va_Run.run (va_runV (As := [.int x7_116]) (rest := []) ⟨hx, hb, hml, hown, hts⟩ (o_score l dC dI cI cZ cO o0 w0_116 v_g0_35 x7_116 q_136 hO0_116 hq_136) (cwV 1 hts gL_isBest_X3_score rfl rfl rfl (by decide +kernel) ⟨Nat.le_of_ble_eq_true rfl, Nat.le_of_ble_eq_true rfl⟩) ⟨fb_rd, va_recv hK hPc (ci := 3) (q0 := 0) rfl hv_136, pre_rd hPc hK hN⟩ rfl rfl hl.1 rfl (lv_room (Nat.le_of_ble_eq_true rfl)) dL_isBest_136 ⟨Nat.zero_le _, Nat.zero_le _⟩)) (fun z_136 hz_136 => ?_)
            subst hz_136
            refine lv_iload hx hb dL_isBest_139 (lv_at hl 5 rfl) ?_
            refine lv_icmp_ne (tgt := 166) hx hb dL_isBest_141 (by decide) (fun c_141 => ?_) (fun c_141 => ?_)
            · have hF := (if_neg c_141).symm.trans hF
              refine lv_iinc (v := (x7_116 + 1)) (lv' := [(7, .int (x7_116 + 1)), (9, .int s0_116), (0, .ref o0), (1, .int x1_35), (2, .int x2_35), (3, .int x3_35), (4, .int x4_35), (5, .int x5_35), (6, .int x6_116), (8, .int x8_116)]) hx hb dL_isBest_166 hl (k := 8) rfl rfl (by decide) rfl (fun ls hl => ?_)
              refine lv_goto (tgt := 35) hx hb dL_isBest_169 (by decide) ?_
              exact ih35 x1_35 x2_35 x3_35 x4_35 x5_35 v_g0_35 x6_116 (x7_116 + 1) hF _ hO0_116 _ _ hP hD hS _ (lv_sub hl [2, 3, 4, 5, 6, 7, 8, 0] rfl)
            · have hF := (if_pos c_141).symm.trans hF
              refine lv_iload hx hb dL_isBest_144 (lv_at hl 9 rfl) ?_
              refine lv_iload hx hb dL_isBest_146 (lv_at hl 0 rfl) ?_
              refine lv_icmp_lt (tgt := 164) hx hb dL_isBest_148 (by decide) (fun c_148 => ?_) (fun c_148 => ?_)
              · have hF := (if_pos c_148).symm.trans hF
                refine lv_iconst (v := (0 : Int32)) hx hb dL_isBest_164 (by decide) ?_
                have hF : some ((0 : Int32), v_g0_35) = some (r, o_g0) := hF
                cases hF
                subst hQ
                subst hAe
                exact W.zret (ty := .boolean) hx hb hr rfl (fun t ht hW => ⟨⟨_, w0_116, rfl, ⟨rfl, hO0_116⟩, ⟨by rw [ht]; exact hP, hD⟩⟩, hS.F ht⟩) hS.2.2 dL_isBest_165
              · have hF := (if_neg c_148).symm.trans hF
                refine lv_iload hx hb dL_isBest_151 (lv_at hl 9 rfl) ?_
                refine lv_iload hx hb dL_isBest_153 (lv_at hl 0 rfl) ?_
                refine lv_icmp_ne (tgt := 166) hx hb dL_isBest_155 (by decide) (fun c_155 => ?_) (fun c_155 => ?_)
                · have hF := (if_neg c_155).symm.trans hF
                  refine lv_iinc (v := (x7_116 + 1)) (lv' := [(7, .int (x7_116 + 1)), (9, .int s0_116), (0, .ref o0), (1, .int x1_35), (2, .int x2_35), (3, .int x3_35), (4, .int x4_35), (5, .int x5_35), (6, .int x6_116), (8, .int x8_116)]) hx hb dL_isBest_166 hl (k := 8) rfl rfl (by decide) rfl (fun ls hl => ?_)
                  refine lv_goto (tgt := 35) hx hb dL_isBest_169 (by decide) ?_
                  exact ih35 x1_35 x2_35 x3_35 x4_35 x5_35 v_g0_35 x6_116 (x7_116 + 1) hF _ hO0_116 _ _ hP hD hS _ (lv_sub hl [2, 3, 4, 5, 6, 7, 8, 0] rfl)
                · have hF := (if_pos c_155).symm.trans hF
                  refine lv_iload hx hb dL_isBest_158 (lv_at hl 8 rfl) ?_
                  refine lv_iload_n hx hb dL_isBest_160 rfl (lv_at hl 4 rfl) ?_
                  refine lv_icmp_ge (tgt := 166) hx hb dL_isBest_161 (by decide) (fun c_161 => ?_) (fun c_161 => ?_)
                  · have hF := (if_pos c_161).symm.trans hF
                    refine lv_iinc (v := (x7_116 + 1)) (lv' := [(7, .int (x7_116 + 1)), (9, .int s0_116), (0, .ref o0), (1, .int x1_35), (2, .int x2_35), (3, .int x3_35), (4, .int x4_35), (5, .int x5_35), (6, .int x6_116), (8, .int x8_116)]) hx hb dL_isBest_166 hl (k := 8) rfl rfl (by decide) rfl (fun ls hl => ?_)
                    refine lv_goto (tgt := 35) hx hb dL_isBest_169 (by decide) ?_
                    exact ih35 x1_35 x2_35 x3_35 x4_35 x5_35 v_g0_35 x6_116 (x7_116 + 1) hF _ hO0_116 _ _ hP hD hS _ (lv_sub hl [2, 3, 4, 5, 6, 7, 8, 0] rfl)
                  · have hF := (if_neg c_161).symm.trans hF
                    refine lv_iconst (v := (0 : Int32)) hx hb dL_isBest_164 (by decide) ?_
                    have hF : some ((0 : Int32), v_g0_35) = some (r, o_g0) := hF
                    cases hF
                    subst hQ
                    subst hAe
                    exact W.zret (ty := .boolean) hx hb hr rfl (fun t ht hW => ⟨⟨_, w0_116, rfl, ⟨rfl, hO0_116⟩, ⟨by rw [ht]; exact hP, hD⟩⟩, hS.F ht⟩) hS.2.2 dL_isBest_165
      have B100 : ∀ (x6_100 : Int32) (x7_100 : Int32) (s0_100 : Int32), f_L_isBest_100 (f_L_isBest_35 x1_35 x2_35 x3_35 x4_35 x5_35 v_g0_35 n_35) x2_35 x3_35 x4_35 x6_100 x7_100 s0_100 v_g0_35 = some (r, o_g0) → ∀ (w0_100 : va_W), OB cI cZ cO o0 v_g0_35 w0_100 → ∀ (H : Heap) (locs : List Loc), va_P (dC, dI) vwCl w0_100 H → va_D A w0_100 → va_S A s.heap H locs → ∀ ls : Array Slot, lv_has ls 13 [(0, .ref o0), (1, .int x1_35), (2, .int x2_35), (3, .int x3_35), (4, .int x4_35), (5, .int x5_35), (6, .int x6_100), (7, .int x7_100)] → W p l e (headSpec wsL_isBest rm_L_isBest).room s m ([.ref o0, .int p1] : List Value).toArray below meth c H locs 0 0 Q (F0 m 100 ls [.int s0_100]) := by
        intro x6_100 x7_100 s0_100 hF w0_100 hO0_100 H locs hP hD hS ls hl
        unfold f_L_isBest_100 at hF
        refine lv_istore (lv' := [(8, .int s0_100), (0, .ref o0), (1, .int x1_35), (2, .int x2_35), (3, .int x3_35), (4, .int x4_35), (5, .int x5_35), (6, .int x6_100), (7, .int x7_100)]) hx hb dL_isBest_100 hl (by decide) rfl (fun ls hl => ?_)
        refine lv_iload_n hx hb dL_isBest_102 rfl (lv_at hl 4 rfl) ?_
        refine lv_iload_n hx hb dL_isBest_103 rfl (lv_at hl 3 rfl) ?_
        refine lv_icmp_le (tgt := 113) hx hb dL_isBest_104 (by decide) (fun c_104 => ?_) (fun c_104 => ?_)
        · have hF := (if_pos c_104).symm.trans hF
          refine lv_iload_n hx hb dL_isBest_113 rfl (lv_at hl 3 rfl) ?_
          refine lv_iload_n hx hb dL_isBest_114 rfl (lv_at hl 4 rfl) ?_
          refine lv_isub hx hb dL_isBest_115 ?_
          exact B116 x6_100 x7_100 s0_100 (x2_35 - x3_35) hF _ hO0_100 _ _ hP hD hS _ (lv_sub hl [1, 2, 3, 4, 5, 6, 7, 8, 0] rfl)
        · have hF := (if_neg c_104).symm.trans hF
          refine lv_iload_n hx hb dL_isBest_107 rfl (lv_at hl 4 rfl) ?_
          refine lv_iload_n hx hb dL_isBest_108 rfl (lv_at hl 3 rfl) ?_
          refine lv_isub hx hb dL_isBest_109 ?_
          refine lv_goto (tgt := 116) hx hb dL_isBest_110 (by decide) ?_
          exact B116 x6_100 x7_100 s0_100 (x3_35 - x2_35) hF _ hO0_100 _ _ hP hD hS _ (lv_sub hl [1, 2, 3, 4, 5, 6, 7, 8, 0] rfl)
      rw [f_L_isBest_35] at hF
      refine lv_iload hx hb dL_isBest_35 (lv_at hl 7 rfl) ?_
      refine lv_aload_n hx hb dL_isBest_37 rfl (lv_at hl 0 rfl) ?_
      refine lv_iconst (v := (0 : Int32)) hx hb dL_isBest_38 (by decide) ?_
      obtain ⟨q_39, hq_39, hF⟩ := bindE hF
      have hPc := hP
      obtain ⟨vs_39, hv_39⟩ := OB_recv hO0_35
      refine vp_callSi (va_Run.run (va_runV (As := [.int (0 : Int32)]) (rest := [.int x7_35]) ⟨hx, hb, hml, hown, hts⟩ (o_told l dC dI cI cZ cO o0 w0_35 v_g0_35 (0 : Int32) q_39 hO0_35 hq_39) (cwV 1 hts gL_isBest_X3_told rfl rfl rfl (by decide +kernel) ⟨Nat.le_of_ble_eq_true rfl, Nat.le_of_ble_eq_true rfl⟩) ⟨fb_rd, va_recv hK hPc (ci := 3) (q0 := 0) rfl hv_39, pre_rd hPc hK hN⟩ rfl rfl hl.1 rfl (lv_room (Nat.le_of_ble_eq_true rfl)) dL_isBest_39 ⟨Nat.zero_le _, Nat.zero_le _⟩)) (fun z_39 hz_39 => ?_)
      subst hz_39
      refine lv_icmp_ge (tgt := 172) hx hb dL_isBest_42 (by decide) (fun c_42 => ?_) (fun c_42 => ?_)
      · have hF := (if_pos c_42).symm.trans hF
        refine lv_iload hx hb dL_isBest_172 (lv_at hl 6 rfl) ?_
        refine lv_iload_n hx hb dL_isBest_174 rfl (lv_at hl 3 rfl) ?_
        refine lv_if_lt (tgt := 182) hx hb dL_isBest_175 (by decide) (fun c_175 => ?_) (fun c_175 => ?_)
        · have hF := (if_pos c_175).symm.trans hF
          refine lv_iconst (v := (0 : Int32)) hx hb dL_isBest_182 (by decide) ?_
          exact B183 x1_35 x2_35 x3_35 x4_35 x5_35 x6_35 x6_35 (0 : Int32) v_g0_35 hF _ hO0_35 _ _ hP hD hS _ (lv_sub hl [0, 1, 2, 3, 4, 5, 6] rfl)
        · have hF := (if_neg c_175).symm.trans hF
          refine lv_iconst (v := (1 : Int32)) hx hb dL_isBest_178 (by decide) ?_
          refine lv_goto (tgt := 183) hx hb dL_isBest_179 (by decide) ?_
          exact B183 x1_35 x2_35 x3_35 x4_35 x5_35 x6_35 x6_35 (1 : Int32) v_g0_35 hF _ hO0_35 _ _ hP hD hS _ (lv_sub hl [0, 1, 2, 3, 4, 5, 6] rfl)
      · have hF := (if_neg c_42).symm.trans hF
        refine lv_aload_n hx hb dL_isBest_45 rfl (lv_at hl 0 rfl) ?_
        refine lv_iload hx hb dL_isBest_46 (lv_at hl 7 rfl) ?_
        refine lv_iconst (v := (0 : Int32)) hx hb dL_isBest_48 (by decide) ?_
        obtain ⟨q_49, hq_49, hF⟩ := bindE hF
        have hPc := hP
        obtain ⟨vs_49, hv_49⟩ := OB_recv hO0_35
        refine vp_callSi (va_Run.run (va_runV (As := [.int x7_35, .int (0 : Int32)]) (rest := []) ⟨hx, hb, hml, hown, hts⟩ (o_word l dC dI cI cZ cO o0 w0_35 v_g0_35 x7_35 (0 : Int32) q_49 hO0_35 hq_49) (cwV 2 hts gL_isBest_X3_word rfl rfl rfl (by decide +kernel) ⟨Nat.le_of_ble_eq_true rfl, Nat.le_of_ble_eq_true rfl⟩) ⟨fb_rd, va_recv hK hPc (ci := 3) (q0 := 0) rfl hv_49, pre_rd hPc hK hN⟩ rfl rfl hl.1 rfl (lv_room (Nat.le_of_ble_eq_true rfl)) dL_isBest_49 ⟨Nat.zero_le _, Nat.zero_le _⟩)) (fun z_49 hz_49 => ?_)
        subst hz_49
        refine lv_iload_n hx hb dL_isBest_52 rfl (lv_at hl 1 rfl) ?_
        refine lv_icmp_ne (tgt := 166) hx hb dL_isBest_53 (by decide) (fun c_53 => ?_) (fun c_53 => ?_)
        · have hF := (if_neg c_53).symm.trans hF
          refine lv_iinc (v := (x7_35 + 1)) (lv' := [(7, .int (x7_35 + 1)), (0, .ref o0), (1, .int x1_35), (2, .int x2_35), (3, .int x3_35), (4, .int x4_35), (5, .int x5_35), (6, .int x6_35)]) hx hb dL_isBest_166 hl (k := 7) rfl rfl (by decide) rfl (fun ls hl => ?_)
          refine lv_goto (tgt := 35) hx hb dL_isBest_169 (by decide) ?_
          exact ih35 x1_35 x2_35 x3_35 x4_35 x5_35 v_g0_35 x6_35 (x7_35 + 1) hF _ hO0_35 _ _ hP hD hS _ (lv_sub hl [1, 2, 3, 4, 5, 6, 7, 0] rfl)
        · have hF := (if_pos c_53).symm.trans hF
          refine lv_iload hx hb dL_isBest_56 (lv_at hl 7 rfl) ?_
          refine lv_iload_n hx hb dL_isBest_58 rfl (lv_at hl 2 rfl) ?_
          refine lv_aload_n hx hb dL_isBest_59 rfl (lv_at hl 0 rfl) ?_
          refine lv_iconst (v := (3 : Int32)) hx hb dL_isBest_60 (by decide) ?_
          obtain ⟨q_61, hq_61, hF⟩ := bindE hF
          have hPc := hP
          obtain ⟨vs_61, hv_61⟩ := OB_recv hO0_35
          refine vp_callSi (va_Run.run (va_runV (As := [.int (3 : Int32)]) (rest := [.int x2_35, .int x7_35]) ⟨hx, hb, hml, hown, hts⟩ (o_setting l dC dI cI cZ cO o0 w0_35 v_g0_35 (3 : Int32) q_61 hO0_35 hq_61) (cwV 1 hts gL_isBest_X3_setting rfl rfl rfl (by decide +kernel) ⟨Nat.le_of_ble_eq_true rfl, Nat.le_of_ble_eq_true rfl⟩) ⟨fb_rd, va_recv hK hPc (ci := 3) (q0 := 0) rfl hv_61, pre_rd hPc hK hN⟩ rfl rfl hl.1 rfl (lv_room (Nat.le_of_ble_eq_true rfl)) dL_isBest_61 ⟨Nat.zero_le _, Nat.zero_le _⟩)) (fun z_61 hz_61 => ?_)
          subst hz_61
          refine lv_isub hx hb dL_isBest_64 ?_
          refine lv_icmp_lt (tgt := 166) hx hb dL_isBest_65 (by decide) (fun c_65 => ?_) (fun c_65 => ?_)
          · have hF := (if_pos c_65).symm.trans hF
            refine lv_iinc (v := (x7_35 + 1)) (lv' := [(7, .int (x7_35 + 1)), (0, .ref o0), (1, .int x1_35), (2, .int x2_35), (3, .int x3_35), (4, .int x4_35), (5, .int x5_35), (6, .int x6_35)]) hx hb dL_isBest_166 hl (k := 7) rfl rfl (by decide) rfl (fun ls hl => ?_)
            refine lv_goto (tgt := 35) hx hb dL_isBest_169 (by decide) ?_
            exact ih35 x1_35 x2_35 x3_35 x4_35 x5_35 v_g0_35 x6_35 (x7_35 + 1) hF _ hO0_35 _ _ hP hD hS _ (lv_sub hl [1, 2, 3, 4, 5, 6, 7, 0] rfl)
          · have hF := (if_neg c_65).symm.trans hF
            refine lv_iload hx hb dL_isBest_68 (lv_at hl 7 rfl) ?_
            refine lv_iload_n hx hb dL_isBest_70 rfl (lv_at hl 2 rfl) ?_
            refine lv_aload_n hx hb dL_isBest_71 rfl (lv_at hl 0 rfl) ?_
            refine lv_iconst (v := (4 : Int32)) hx hb dL_isBest_72 (by decide) ?_
            obtain ⟨q_73, hq_73, hF⟩ := bindE hF
            have hPc := hP
            obtain ⟨vs_73, hv_73⟩ := OB_recv hO0_35
            refine vp_callSi (va_Run.run (va_runV (As := [.int (4 : Int32)]) (rest := [.int x2_35, .int x7_35]) ⟨hx, hb, hml, hown, hts⟩ (o_setting l dC dI cI cZ cO o0 w0_35 v_g0_35 (4 : Int32) q_73 hO0_35 hq_73) (cwV 1 hts gL_isBest_X3_setting rfl rfl rfl (by decide +kernel) ⟨Nat.le_of_ble_eq_true rfl, Nat.le_of_ble_eq_true rfl⟩) ⟨fb_rd, va_recv hK hPc (ci := 3) (q0 := 0) rfl hv_73, pre_rd hPc hK hN⟩ rfl rfl hl.1 rfl (lv_room (Nat.le_of_ble_eq_true rfl)) dL_isBest_73 ⟨Nat.zero_le _, Nat.zero_le _⟩)) (fun z_73 hz_73 => ?_)
            subst hz_73
            refine lv_iadd hx hb dL_isBest_76 ?_
            refine lv_icmp_gt (tgt := 166) hx hb dL_isBest_77 (by decide) (fun c_77 => ?_) (fun c_77 => ?_)
            · have hF := (if_pos c_77).symm.trans hF
              refine lv_iinc (v := (x7_35 + 1)) (lv' := [(7, .int (x7_35 + 1)), (0, .ref o0), (1, .int x1_35), (2, .int x2_35), (3, .int x3_35), (4, .int x4_35), (5, .int x5_35), (6, .int x6_35)]) hx hb dL_isBest_166 hl (k := 7) rfl rfl (by decide) rfl (fun ls hl => ?_)
              refine lv_goto (tgt := 35) hx hb dL_isBest_169 (by decide) ?_
              exact ih35 x1_35 x2_35 x3_35 x4_35 x5_35 v_g0_35 x6_35 (x7_35 + 1) hF _ hO0_35 _ _ hP hD hS _ (lv_sub hl [1, 2, 3, 4, 5, 6, 7, 0] rfl)
            · have hF := (if_neg c_77).symm.trans hF
              refine lv_iconst (v := (1 : Int32)) hx hb dL_isBest_80 (by decide) ?_
              refine lv_istore (lv' := [(6, .int (1 : Int32)), (0, .ref o0), (1, .int x1_35), (2, .int x2_35), (3, .int x3_35), (4, .int x4_35), (5, .int x5_35), (7, .int x7_35)]) hx hb dL_isBest_81 hl (by decide) rfl (fun ls hl => ?_)
              refine lv_iload hx hb dL_isBest_83 (lv_at hl 7 rfl) ?_
              refine lv_iload_n hx hb dL_isBest_85 rfl (lv_at hl 3 rfl) ?_
              refine lv_icmp_le (tgt := 96) hx hb dL_isBest_86 (by decide) (fun c_86 => ?_) (fun c_86 => ?_)
              · have hF := (if_pos c_86).symm.trans hF
                refine lv_iload_n hx hb dL_isBest_96 rfl (lv_at hl 3 rfl) ?_
                refine lv_iload hx hb dL_isBest_97 (lv_at hl 7 rfl) ?_
                refine lv_isub hx hb dL_isBest_99 ?_
                exact B100 (1 : Int32) x7_35 (x2_35 - x7_35) hF _ hO0_35 _ _ hP hD hS _ (lv_sub hl [1, 2, 3, 4, 5, 6, 0, 7] rfl)
              · have hF := (if_neg c_86).symm.trans hF
                refine lv_iload hx hb dL_isBest_89 (lv_at hl 7 rfl) ?_
                refine lv_iload_n hx hb dL_isBest_91 rfl (lv_at hl 3 rfl) ?_
                refine lv_isub hx hb dL_isBest_92 ?_
                refine lv_goto (tgt := 100) hx hb dL_isBest_93 (by decide) ?_
                exact B100 (1 : Int32) x7_35 (x7_35 - x2_35) hF _ hO0_35 _ _ hP hD hS _ (lv_sub hl [1, 2, 3, 4, 5, 6, 0, 7] rfl)
  unfold f_L_isBest at hF
  refine lv_aload_n hx hb dL_isBest_0 rfl (lv_at hl 0 rfl) ?_
  refine lv_iconst (v := (5 : Int32)) hx hb dL_isBest_1 (by decide) ?_
  obtain ⟨q_2, hq_2, hF⟩ := bindE hF
  have hPc := hP
  obtain ⟨vs_2, hv_2⟩ := OB_recv hO0
  refine vp_callSi (va_Run.run (va_runV (As := [.int (5 : Int32)]) (rest := []) ⟨hx, hb, hml, hown, hts⟩ (o_told l dC dI cI cZ cO o0 w0 v_g0 (5 : Int32) q_2 hO0 hq_2) (cwV 1 hts gL_isBest_X3_told rfl rfl rfl (by decide +kernel) ⟨Nat.le_of_ble_eq_true rfl, Nat.le_of_ble_eq_true rfl⟩) ⟨fb_rd, va_recv hK hPc (ci := 3) (q0 := 0) rfl hv_2, pre_rd hPc hK hN⟩ rfl rfl hl.1 rfl (lv_room (Nat.le_of_ble_eq_true rfl)) dL_isBest_2 ⟨Nat.zero_le _, Nat.zero_le _⟩)) (fun z_2 hz_2 => ?_)
  subst hz_2
  refine lv_istore_n (lv' := [(2, .int q_2), (0, .ref o0), (1, .int p1)]) hx hb dL_isBest_5 rfl hl (by decide) rfl (fun ls hl => ?_)
  refine lv_aload_n hx hb dL_isBest_6 rfl (lv_at hl 1 rfl) ?_
  refine lv_iload_n hx hb dL_isBest_7 rfl (lv_at hl 2 rfl) ?_
  refine lv_iconst (v := (0 : Int32)) hx hb dL_isBest_8 (by decide) ?_
  obtain ⟨q_9, hq_9, hF⟩ := bindE hF
  have hPc := hP
  obtain ⟨vs_9, hv_9⟩ := OB_recv hO0
  refine vp_callSi (va_Run.run (va_runV (As := [.int p1, .int (0 : Int32)]) (rest := []) ⟨hx, hb, hml, hown, hts⟩ (o_best l dC dI cI cZ cO o0 w0 v_g0 p1 (0 : Int32) q_9 hO0 hq_9) (cwV 2 hts gL_isBest_X3_best rfl rfl rfl (by decide +kernel) ⟨Nat.le_of_ble_eq_true rfl, Nat.le_of_ble_eq_true rfl⟩) ⟨fb_rd, va_recv hK hPc (ci := 3) (q0 := 0) rfl hv_9, pre_rd hPc hK hN⟩ rfl rfl hl.1 rfl (lv_room (Nat.le_of_ble_eq_true rfl)) dL_isBest_9 ⟨Nat.zero_le _, Nat.zero_le _⟩)) (fun z_9 hz_9 => ?_)
  subst hz_9
  refine lv_istore_n (lv' := [(3, .int q_9), (2, .int q_2), (0, .ref o0), (1, .int p1)]) hx hb dL_isBest_12 rfl hl (by decide) rfl (fun ls hl => ?_)
  refine lv_aload_n hx hb dL_isBest_13 rfl (lv_at hl 2 rfl) ?_
  refine lv_iload_n hx hb dL_isBest_14 rfl (lv_at hl 3 rfl) ?_
  refine lv_iconst (v := (1 : Int32)) hx hb dL_isBest_15 (by decide) ?_
  obtain ⟨q_16, hq_16, hF⟩ := bindE hF
  have hPc := hP
  obtain ⟨vs_16, hv_16⟩ := OB_recv hO0
  refine vp_callSi (va_Run.run (va_runV (As := [.int p1, .int (1 : Int32)]) (rest := []) ⟨hx, hb, hml, hown, hts⟩ (o_best l dC dI cI cZ cO o0 w0 v_g0 p1 (1 : Int32) q_16 hO0 hq_16) (cwV 2 hts gL_isBest_X3_best rfl rfl rfl (by decide +kernel) ⟨Nat.le_of_ble_eq_true rfl, Nat.le_of_ble_eq_true rfl⟩) ⟨fb_rd, va_recv hK hPc (ci := 3) (q0 := 0) rfl hv_16, pre_rd hPc hK hN⟩ rfl rfl hl.1 rfl (lv_room (Nat.le_of_ble_eq_true rfl)) dL_isBest_16 ⟨Nat.zero_le _, Nat.zero_le _⟩)) (fun z_16 hz_16 => ?_)
  subst hz_16
  refine lv_istore (lv' := [(4, .int q_16), (3, .int q_9), (2, .int q_2), (0, .ref o0), (1, .int p1)]) hx hb dL_isBest_19 hl (by decide) rfl (fun ls hl => ?_)
  refine lv_aload_n hx hb dL_isBest_21 rfl (lv_at hl 3 rfl) ?_
  refine lv_iload_n hx hb dL_isBest_22 rfl (lv_at hl 4 rfl) ?_
  refine lv_iconst (v := (2 : Int32)) hx hb dL_isBest_23 (by decide) ?_
  obtain ⟨q_24, hq_24, hF⟩ := bindE hF
  have hPc := hP
  obtain ⟨vs_24, hv_24⟩ := OB_recv hO0
  refine vp_callSi (va_Run.run (va_runV (As := [.int p1, .int (2 : Int32)]) (rest := []) ⟨hx, hb, hml, hown, hts⟩ (o_best l dC dI cI cZ cO o0 w0 v_g0 p1 (2 : Int32) q_24 hO0 hq_24) (cwV 2 hts gL_isBest_X3_best rfl rfl rfl (by decide +kernel) ⟨Nat.le_of_ble_eq_true rfl, Nat.le_of_ble_eq_true rfl⟩) ⟨fb_rd, va_recv hK hPc (ci := 3) (q0 := 0) rfl hv_24, pre_rd hPc hK hN⟩ rfl rfl hl.1 rfl (lv_room (Nat.le_of_ble_eq_true rfl)) dL_isBest_24 ⟨Nat.zero_le _, Nat.zero_le _⟩)) (fun z_24 hz_24 => ?_)
  subst hz_24
  refine lv_istore (lv' := [(5, .int q_24), (4, .int q_16), (3, .int q_9), (2, .int q_2), (0, .ref o0), (1, .int p1)]) hx hb dL_isBest_27 hl (by decide) rfl (fun ls hl => ?_)
  refine lv_iconst (v := (0 : Int32)) hx hb dL_isBest_29 (by decide) ?_
  refine lv_istore (lv' := [(6, .int (0 : Int32)), (5, .int q_24), (4, .int q_16), (3, .int q_9), (2, .int q_2), (0, .ref o0), (1, .int p1)]) hx hb dL_isBest_30 hl (by decide) rfl (fun ls hl => ?_)
  refine lv_iconst (v := (0 : Int32)) hx hb dL_isBest_32 (by decide) ?_
  refine lv_istore (lv' := [(7, .int (0 : Int32)), (6, .int (0 : Int32)), (5, .int q_24), (4, .int q_16), (3, .int q_9), (2, .int q_2), (0, .ref o0), (1, .int p1)]) hx hb dL_isBest_33 hl (by decide) rfl (fun ls hl => ?_)
  exact B35 gas p1 q_2 q_9 q_16 q_24 v_g0 (0 : Int32) (0 : Int32) hF _ hO0 _ _ hP hD hS _ (lv_sub hl [6, 7, 5, 4, 3, 2, 1, 0] rfl)
