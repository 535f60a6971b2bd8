def f_L_change_365 (s1 : Int32) (s2 : Int32) (s3 : Int32) (v_g0 : GS) : Option (Int32 × GS) :=
  (f_L_low s2 s3).bind fun q365 =>
    (g_tick (s1 + q365) v_g0).bind fun q369 =>
    some (q369.1, q369.2)
def f_L_change_345 (x2 : Int32) (v_g0 : GS) : Option (Int32 × GS) :=
  (f_L_low (x2 >>> ((6 : Int32) &&& 31)) (4 : Int32)).bind fun q353 =>
    if q353 = (0 : Int32) then
      f_L_change_365 (1 : Int32) x2 (60 : Int32) v_g0
    else
      f_L_change_365 (1 : Int32) x2 (4 : Int32) v_g0
def f_L_change_392 (s1 : Int32) (v_g0 : GS) : Option (Int32 × GS) :=
  (g_hear s1 v_g0).bind fun q392 =>
    some (q392.1, q392.2)
def f_L_change (p1 : Int32) (p2 : Int32) (v_g0 : GS) : Option (Int32 × GS) :=
  (g_told (0 : Int32) v_g0).bind fun q2 =>
  (g_told (5 : Int32) v_g0).bind fun q8 =>
  (f_L_low p1 (24 : Int32)).bind fun q16 =>
  if q16 = (0 : Int32) then
    (f_L_load p2 p1 v_g0).bind fun q95 =>
    some (q95.1, q95.2)
  else if q16 = (1 : Int32) then
    (f_L_low p2 (12 : Int32)).bind fun q105 =>
    (g_set (0 : Int32) ((1 : Int32) + q105) v_g0).bind fun q109 =>
    some (q109.1, q109.2)
  else if q16 = (2 : Int32) then
    (f_L_low p2 (2 : Int32)).bind fun q115 =>
    if q115 = (0 : Int32) then
      (f_L_low (p2 >>> ((1 : Int32) &&& 31)) (8 : Int32)).bind fun q129 =>
      (g_set (1 : Int32) ((1 : Int32) + q129) v_g0).bind fun q133 =>
      some (q133.1, q133.2)
    else
      (f_L_low (p2 >>> ((1 : Int32) &&& 31)) (8 : Int32)).bind fun q146 =>
      (g_set (2 : Int32) q146 v_g0).bind fun q149 =>
      some (q149.1, q149.2)
  else if q16 = (3 : Int32) then
    (f_L_low p2 (2 : Int32)).bind fun q155 =>
    if q155 = (0 : Int32) then
      (f_L_low (p2 >>> ((1 : Int32) &&& 31)) (31 : Int32)).bind fun q168 =>
      (g_set (3 : Int32) q168 v_g0).bind fun q171 =>
      some (q171.1, q171.2)
    else
      (f_L_low (p2 >>> ((1 : Int32) &&& 31)) (60 : Int32)).bind fun q185 =>
      (g_set (4 : Int32) ((1 : Int32) + q185) v_g0).bind fun q189 =>
      some (q189.1, q189.2)
  else if q16 = (4 : Int32) then
    (f_L_low p2 (2 : Int32)).bind fun q195 =>
    if q195 = (0 : Int32) then
      (f_L_low (p2 >>> ((1 : Int32) &&& 31)) (4 : Int32)).bind fun q208 =>
      (g_set (5 : Int32) ((1 : Int32) + q208) v_g0).bind fun q212 =>
      some (q212.1, q212.2)
    else
      (f_L_low (p2 >>> ((1 : Int32) &&& 31)) (60 : Int32)).bind fun q227 =>
      (g_set (6 : Int32) ((1 : Int32) + q227) v_g0).bind fun q231 =>
      some (q231.1, q231.2)
  else if q16 = (5 : Int32) then
    (f_L_low p2 (2 : Int32)).bind fun q237 =>
    if q237 = (0 : Int32) then
      (f_L_low (p2 >>> ((1 : Int32) &&& 31)) (100 : Int32)).bind fun q252 =>
      (g_set (7 : Int32) ((1 : Int32) + q252) v_g0).bind fun q256 =>
      some (q256.1, q256.2)
    else
      (f_L_low (p2 >>> ((1 : Int32) &&& 31)) (11 : Int32)).bind fun q270 =>
      (g_set (8 : Int32) q270 v_g0).bind fun q273 =>
      some (q273.1, q273.2)
  else if q16 = (6 : Int32) then
    (f_L_low p2 q2).bind fun q280 =>
    (g_place q280 v_g0).bind fun q283 =>
    some (q283.1, q283.2)
  else if q16 = (7 : Int32) then
    (g_release v_g0).bind fun q288 =>
    some (q288.1, q288.2)
  else if q16 = (8 : Int32) then
    (g_undoX v_g0).bind fun q293 =>
    some (q293.1, q293.2)
  else if q16 = (9 : Int32) then
    (f_L_low p2 (2 : Int32)).bind fun q299 =>
    if q299 = (0 : Int32) then
      (f_L_low (p2 >>> ((1 : Int32) &&& 31)) (2 : Int32)).bind fun q310 =>
      (g_keep q310 v_g0).bind fun q313 =>
      some (q313.1, q313.2)
    else
      (f_L_low (p2 >>> ((1 : Int32) &&& 31)) (2 : Int32)).bind fun q324 =>
      (g_back q324 v_g0).bind fun q327 =>
      some (q327.1, q327.2)
  else if q16 = (10 : Int32) then
    (f_L_low p2 (6 : Int32)).bind fun q337 =>
    (g_hear ((97 : Int32) + q337) v_g0).bind fun q341 =>
    some (q341.1, q341.2)
  else if q16 = (11 : Int32) then
    f_L_change_345 p2 v_g0
  else if q16 = (12 : Int32) then
    f_L_change_345 p2 v_g0
  else if q16 = (13 : Int32) then
    f_L_change_345 p2 v_g0
  else if q16 = (14 : Int32) then
    f_L_change_345 p2 v_g0
  else if q2 ≤ q8 then
      f_L_change_392 (97 : Int32) v_g0
    else
      (g_word q8 (0 : Int32) v_g0).bind fun q384 =>
      f_L_change_392 q384 v_g0
def rm_L_change : Room := { frames := 7, cells := 0, slots := 0, locals := 176 }
set_option maxHeartbeats 4000000 in
set_option maxRecDepth 100000 in
theorem c_L_change (l : Launch) (dC : Nat → ClassId) (dI : Nat → Nat → Nat) (cI cZ cO : ClassId) (o0 : Nat) (sz : Nat) (tL tM : Nat) (w0 : va_W) (v_g0 : GS) (p1 : Int32) (p2 : Int32) (r : Int32) (o_g0 : GS) (hO0 : OB cI cZ cO o0 v_g0 w0) (hF : f_L_change p1 p2 v_g0 = some (r, o_g0)) : Met l yL_change wsL_change rm_L_change (va_Pc [.ref o0, .int p1, .int p2] (fun U => wrW dC dI cI cZ cO sz w0 U ∧ STW tL tM U)) (va_Qi (fun (q : Int32) (u : va_W) => r = q ∧ OB cI cZ cO o0 o_g0 u) (fun u t => va_P (dC, dI) vwCl u t.heap ∧ va_D (va_A w0 sz) u) (va_A w0 sz)) 0 0 (va_A w0 sz) := by
  refine Met.ofW (cc := cL_change) (maxL := 5) (ret := (some .int)) (by decide) rfl ?_
  intro p e s m args below meth c s₁ B hml hv
  obtain ⟨rfl, ⟨hsz, hP, hK, hN, hD0⟩, hST⟩ := hv
  have hx := B.exec
  have hb := B.bytes
  have hr := B.returns
  have hts := atoms_spec (ws := wsL_change) B.pre
  have hown : s.vm.findClass RL = some m.cls := findClass_of_methodNamed B.named
  have hlocks := B.notSynchronized
  subst hsz
  have hD := hD0.self (sz := s.heap.size)
  obtain ⟨Q, hQ⟩ : ∃ Q, Q = MQ below (va_Qi (fun (q : Int32) (u : va_W) => r = q ∧ OB cI cZ cO o0 o_g0 u) (fun u t => va_P (dC, dI) vwCl u t.heap ∧ va_D (va_A w0 s.heap.size) u) (va_A w0 s.heap.size)) ([.ref o0, .int p1, .int p2] : List Value).toArray s 0 0 (va_A w0 s.heap.size) := ⟨_, rfl⟩
  rw [← hQ]
  obtain ⟨A, hAe⟩ : ∃ A, A = va_A w0 s.heap.size := ⟨_, rfl⟩
  rw [← hAe] at hD
  have hA : ∀ q : Nat, s.heap.size ≤ q → A q := fun q h => by rw [hAe]; exact Or.inr h
  obtain ⟨H, hH⟩ : ∃ H, H = s.heap := ⟨_, rfl⟩
  have hS : va_S A s.heap H [] := by rw [hH]; exact va_S.rf
  rw [← hH] at hP
  rw [← hH]
  have hl := lv_entry ([.ref o0, .int p1, .int p2]) (n := 5) (Nat.le_of_ble_eq_true rfl)
  rw [lg_entry_eq]
  generalize (lg_sl ([.ref o0, .int p1, .int p2]) ++ List.replicate (5 - (lg_sl ([.ref o0, .int p1, .int p2])).length) Slot.unset).toArray = ls at hl ⊢
  have hl : lv_has ls 5 [(0, .ref o0), (1, .int p1), (2, .int p2)] := hl
  have B392 : ∀ (s1_392 : Int32) (v_g0_392 : GS), f_L_change_392 s1_392 v_g0_392 = some (r, o_g0) → ∀ (w0_392 : va_W), OB cI cZ cO o0 v_g0_392 w0_392 → ∀ (H : Heap) (locs : List Loc), H = s.heap → va_P (dC, dI) vwCl w0_392 H → va_D A w0_392 → va_S A s.heap H locs → ∀ ls : Array Slot, lv_has ls 5 [(0, .ref o0)] → W p l e (headSpec wsL_change rm_L_change).room s m ([.ref o0, .int p1, .int p2] : List Value).toArray below meth c H locs 0 0 Q (F0 m 392 ls [.int s1_392, .ref o0]) := by
    intro s1_392 v_g0_392 hF w0_392 hO0_392 H locs hH hP hD hS ls hl
    unfold f_L_change_392 at hF
    obtain ⟨q_392, hq_392, hF⟩ := bindE hF
    obtain ⟨r_392, u_392⟩ := q_392
    have hPc := hP
    have hDc := hD
    have hFc := va_free2 hDc hS hA
    obtain ⟨vs_392, hv_392⟩ := OB_recv hO0_392
    refine va_calli (va_runV (As := [.int s1_392]) (rest := []) ⟨hx, hb, hml, hown, hts⟩ (o_hear l dC dI cI cZ cO o0 H.size w0_392 v_g0_392 s1_392 r_392 u_392 hO0_392 hq_392) (cwV 1 hts gL_change_X3_hear rfl rfl rfl (by decide +kernel) ⟨Nat.le_of_ble_eq_true rfl, Nat.le_of_ble_eq_true rfl⟩) ⟨fb_wr, va_recv hK hPc (ci := 3) (q0 := 0) rfl hv_392, pre_wr hPc hK hN hDc⟩ rfl rfl hl.1 rfl (lv_room (Nat.le_of_ble_eq_true rfl)) dL_change_392 ⟨Nat.zero_le _, Nat.zero_le _⟩) hS (fun q _ h => hFc q h) hFc (fun z_392 x_392 t H1 locs ht hvm hw hB hz1 hk1 hS => ?_)
    obtain ⟨hw, hO_392⟩ := hw
    subst hw
    obtain ⟨hP1, hD1⟩ := hB
    rw [ht] at hP1
    have hP := hP1
    have hD := hD1.weaken (fun k q _ h => hFc q.1 h)
    generalize H1 = H at hP hS ⊢
    have hF : some (r_392, u_392) = some (r, o_g0) := hF
    cases hF
    subst hQ
    subst hAe
    exact W.iret hx hb hr (fun t ht hW => ⟨⟨_, x_392, rfl, ⟨rfl, hO_392⟩, ⟨by rw [ht]; exact hP, hD⟩⟩, hS.F ht⟩) hS.2.2 dL_change_395
  have B365 : ∀ (s1_365 : Int32) (s2_365 : Int32) (s3_365 : Int32) (v_g0_365 : GS), f_L_change_365 s1_365 s2_365 s3_365 v_g0_365 = some (r, o_g0) → ∀ (w0_365 : va_W), OB cI cZ cO o0 v_g0_365 w0_365 → ∀ (H : Heap) (locs : List Loc), H = s.heap → va_P (dC, dI) vwCl w0_365 H → va_D A w0_365 → va_S A s.heap H locs → ∀ ls : Array Slot, lv_has ls 5 [(0, .ref o0)] → W p l e (headSpec wsL_change rm_L_change).room s m ([.ref o0, .int p1, .int p2] : List Value).toArray below meth c H locs 0 0 Q (F0 m 365 ls [.int s3_365, .int s2_365, .int s1_365, .ref o0]) := by
    intro s1_365 s2_365 s3_365 v_g0_365 hF w0_365 hO0_365 H locs hH hP hD hS ls hl
    unfold f_L_change_365 at hF
    obtain ⟨q_365, hq_365, hF⟩ := bindE hF
    have hPc := hP.sub (ws' := []) [] rfl
    refine vp_callSi (va_Run.run (va_runS (As := [.int s2_365, .int s3_365]) (rest := [.int s1_365, .ref o0]) ⟨hx, hb, hml, hown, hts⟩ (c_L_low l dC dI cI cZ cO s2_365 s3_365 q_365 hq_365) (cwS 2 hts gL_change_L_low rfl rfl rfl (by decide +kernel) ⟨Nat.le_of_ble_eq_true rfl, Nat.le_of_ble_eq_true rfl⟩) ⟨fb_rd, pre_rd hPc hK hN⟩ rfl rfl hl.1 rfl (lv_room (Nat.le_of_ble_eq_true rfl)) dL_change_365 ⟨Nat.zero_le _, Nat.zero_le _⟩)) (fun z_365 hz_365 => ?_)
    subst hz_365
    refine lv_iadd hx hb dL_change_368 ?_
    obtain ⟨q_369, hq_369, hF⟩ := bindE hF
    obtain ⟨r_369, u_369⟩ := q_369
    have hPc := hP
    have hDc := hD
    have hFc := va_free2 hDc hS hA
    obtain ⟨vs_369, hv_369⟩ := OB_recv hO0_365
    refine va_calli (va_runV (As := [.int (s1_365 + q_365)]) (rest := []) ⟨hx, hb, hml, hown, hts⟩ (o_tick l dC dI cI cZ cO o0 H.size w0_365 v_g0_365 (s1_365 + q_365) r_369 u_369 hO0_365 hq_369) (cwV 1 hts gL_change_X3_tick rfl rfl rfl (by decide +kernel) ⟨Nat.le_of_ble_eq_true rfl, Nat.le_of_ble_eq_true rfl⟩) ⟨fb_wr, va_recv hK hPc (ci := 3) (q0 := 0) rfl hv_369, pre_wr hPc hK hN hDc⟩ rfl rfl hl.1 rfl (lv_room (Nat.le_of_ble_eq_true rfl)) dL_change_369 ⟨Nat.zero_le _, Nat.zero_le _⟩) hS (fun q _ h => hFc q h) hFc (fun z_369 x_369 t H1 locs ht hvm hw hB hz1 hk1 hS => ?_)
    obtain ⟨hw, hO_369⟩ := hw
    subst hw
    obtain ⟨hP1, hD1⟩ := hB
    rw [ht] at hP1
    have hP := hP1
    have hD := hD1.weaken (fun k q _ h => hFc q.1 h)
    generalize H1 = H at hP hS ⊢
    have hF : some (r_369, u_369) = some (r, o_g0) := hF
    cases hF
    subst hQ
    subst hAe
    exact W.iret hx hb hr (fun t ht hW => ⟨⟨_, x_369, rfl, ⟨rfl, hO_369⟩, ⟨by rw [ht]; exact hP, hD⟩⟩, hS.F ht⟩) hS.2.2 dL_change_372
  have B345 : ∀ (x2_345 : Int32) (v_g0_345 : GS), f_L_change_345 x2_345 v_g0_345 = some (r, o_g0) → ∀ (w0_345 : va_W), OB cI cZ cO o0 v_g0_345 w0_345 → ∀ (H : Heap) (locs : List Loc), H = s.heap → va_P (dC, dI) vwCl w0_345 H → va_D A w0_345 → va_S A s.heap H locs → ∀ ls : Array Slot, lv_has ls 5 [(0, .ref o0), (2, .int x2_345)] → W p l e (headSpec wsL_change rm_L_change).room s m ([.ref o0, .int p1, .int p2] : List Value).toArray below meth c H locs 0 0 Q (F0 m 345 ls []) := by
    intro x2_345 v_g0_345 hF w0_345 hO0_345 H locs hH hP hD hS ls hl
    unfold f_L_change_345 at hF
    refine lv_aload_n hx hb dL_change_345 rfl (lv_at hl 0 rfl) ?_
    refine lv_iconst (v := (1 : Int32)) hx hb dL_change_346 (by decide) ?_
    refine lv_iload_n hx hb dL_change_347 rfl (lv_at hl 1 rfl) ?_
    refine lv_iload_n hx hb dL_change_348 rfl (lv_at hl 1 rfl) ?_
    refine lv_bipush (v := (6 : Int32)) hx hb dL_change_349 (by decide) ?_
    refine lv_ishr hx hb dL_change_351 ?_
    refine lv_iconst (v := (4 : Int32)) hx hb dL_change_352 (by decide) ?_
    obtain ⟨q_353, hq_353, hF⟩ := bindE hF
    have hPc := hP.sub (ws' := []) [] rfl
    refine vp_callSi (va_Run.run (va_runS (As := [.int (x2_345 >>> ((6 : Int32) &&& 31)), .int (4 : Int32)]) (rest := [.int x2_345, .int (1 : Int32), .ref o0]) ⟨hx, hb, hml, hown, hts⟩ (c_L_low l dC dI cI cZ cO (x2_345 >>> ((6 : Int32) &&& 31)) (4 : Int32) q_353 hq_353) (cwS 2 hts gL_change_L_low rfl rfl rfl (by decide +kernel) ⟨Nat.le_of_ble_eq_true rfl, Nat.le_of_ble_eq_true rfl⟩) ⟨fb_rd, pre_rd hPc hK hN⟩ rfl rfl hl.1 rfl (lv_room (Nat.le_of_ble_eq_true rfl)) dL_change_353 ⟨Nat.zero_le _, Nat.zero_le _⟩)) (fun z_353 hz_353 => ?_)
    subst hz_353
    refine lv_if_ne (tgt := 364) hx hb dL_change_356 (by decide) (fun c_356 => ?_) (fun c_356 => ?_)
    · have hF := (if_neg c_356).symm.trans hF
      refine lv_iconst (v := (4 : Int32)) hx hb dL_change_364 (by decide) ?_
      exact B365 (1 : Int32) x2_345 (4 : Int32) v_g0_345 hF _ hO0_345 _ _ hH hP hD hS _ (lv_sub hl [0] rfl)
    · have hF := (if_pos c_356).symm.trans hF
      refine lv_bipush (v := (60 : Int32)) hx hb dL_change_359 (by decide) ?_
      refine lv_goto (tgt := 365) hx hb dL_change_361 (by decide) ?_
      exact B365 (1 : Int32) x2_345 (60 : Int32) v_g0_345 hF _ hO0_345 _ _ hH hP hD hS _ (lv_sub hl [0] rfl)
  unfold f_L_change at hF
  refine lv_aload_n hx hb dL_change_0 rfl (lv_at hl 0 rfl) ?_
  refine lv_iconst (v := (0 : Int32)) hx hb dL_change_1 (by decide) ?_
  obtain ⟨q_2, hq_2, hF⟩ := bindE hF
  have hPc := hP
  obtain ⟨vs_2, hv_2⟩ := OB_recv hO0
  refine vp_callSi (va_Run.run (va_runV (As := [.int (0 : Int32)]) (rest := []) ⟨hx, hb, hml, hown, hts⟩ (o_told l dC dI cI cZ cO o0 w0 v_g0 (0 : Int32) q_2 hO0 hq_2) (cwV 1 hts gL_change_X3_told rfl rfl rfl (by decide +kernel) ⟨Nat.le_of_ble_eq_true rfl, Nat.le_of_ble_eq_true rfl⟩) ⟨fb_rd, va_recv hK hPc (ci := 3) (q0 := 0) rfl hv_2, pre_rd hPc hK hN⟩ rfl rfl hl.1 rfl (lv_room (Nat.le_of_ble_eq_true rfl)) dL_change_2 ⟨Nat.zero_le _, Nat.zero_le _⟩)) (fun z_2 hz_2 => ?_)
  subst hz_2
  refine lv_istore_n (lv' := [(3, .int q_2), (0, .ref o0), (1, .int p1), (2, .int p2)]) hx hb dL_change_5 rfl hl (by decide) rfl (fun ls hl => ?_)
  refine lv_aload_n hx hb dL_change_6 rfl (lv_at hl 1 rfl) ?_
  refine lv_iconst (v := (5 : Int32)) hx hb dL_change_7 (by decide) ?_
  obtain ⟨q_8, hq_8, hF⟩ := bindE hF
  have hPc := hP
  obtain ⟨vs_8, hv_8⟩ := OB_recv hO0
  refine vp_callSi (va_Run.run (va_runV (As := [.int (5 : Int32)]) (rest := []) ⟨hx, hb, hml, hown, hts⟩ (o_told l dC dI cI cZ cO o0 w0 v_g0 (5 : Int32) q_8 hO0 hq_8) (cwV 1 hts gL_change_X3_told rfl rfl rfl (by decide +kernel) ⟨Nat.le_of_ble_eq_true rfl, Nat.le_of_ble_eq_true rfl⟩) ⟨fb_rd, va_recv hK hPc (ci := 3) (q0 := 0) rfl hv_8, pre_rd hPc hK hN⟩ rfl rfl hl.1 rfl (lv_room (Nat.le_of_ble_eq_true rfl)) dL_change_8 ⟨Nat.zero_le _, Nat.zero_le _⟩)) (fun z_8 hz_8 => ?_)
  subst hz_8
  refine lv_istore (lv' := [(4, .int q_8), (3, .int q_2), (0, .ref o0), (1, .int p1), (2, .int p2)]) hx hb dL_change_11 hl (by decide) rfl (fun ls hl => ?_)
  refine lv_iload_n hx hb dL_change_13 rfl (lv_at hl 3 rfl) ?_
  refine lv_bipush (v := (24 : Int32)) hx hb dL_change_14 (by decide) ?_
  obtain ⟨q_16, hq_16, hF⟩ := bindE hF
  have hPc := hP.sub (ws' := []) [] rfl
  refine vp_callSi (va_Run.run (va_runS (As := [.int p1, .int (24 : Int32)]) (rest := []) ⟨hx, hb, hml, hown, hts⟩ (c_L_low l dC dI cI cZ cO p1 (24 : Int32) q_16 hq_16) (cwS 2 hts gL_change_L_low rfl rfl rfl (by decide +kernel) ⟨Nat.le_of_ble_eq_true rfl, Nat.le_of_ble_eq_true rfl⟩) ⟨fb_rd, pre_rd hPc hK hN⟩ rfl rfl hl.1 rfl (lv_room (Nat.le_of_ble_eq_true rfl)) dL_change_16 ⟨Nat.zero_le _, Nat.zero_le _⟩)) (fun z_16 hz_16 => ?_)
  subst hz_16
  by_cases c_19_0 : q_16 = (0 : Int32)
  · have hF := (if_pos c_19_0).symm.trans hF
    refine lv_tableIn (tgt := 92) (off := 73) hx hb dL_change_19 (by rw [c_19_0]; decide) (by rw [c_19_0]; decide) (by rw [c_19_0]; rfl) (by decide) ?_
    refine lv_aload_n hx hb dL_change_92 rfl (lv_at hl 2 rfl) ?_
    refine lv_iload_n hx hb dL_change_93 rfl (lv_at hl 4 rfl) ?_
    refine lv_iload_n hx hb dL_change_94 rfl (lv_at hl 3 rfl) ?_
    obtain ⟨q_95, hq_95, hF⟩ := bindE hF
    obtain ⟨r_95, u_95⟩ := q_95
    have hPc := hP
    have hDc := hD
    have hFc := va_free2 hDc hS hA
    refine va_calli (va_runS (As := [.ref o0, .int p2, .int p1]) (rest := []) ⟨hx, hb, hml, hown, hts⟩ (c_L_load l dC dI cI cZ cO o0 H.size w0 v_g0 p2 p1 r_95 u_95 hO0 hq_95) (cwS 3 hts gL_change_L_load rfl rfl rfl (by decide +kernel) ⟨Nat.le_of_ble_eq_true rfl, Nat.le_of_ble_eq_true rfl⟩) ⟨fb_wr, pre_wr hPc hK hN hDc⟩ rfl rfl hl.1 rfl (lv_room (Nat.le_of_ble_eq_true rfl)) dL_change_95 ⟨Nat.zero_le _, Nat.zero_le _⟩) hS (fun q _ h => hFc q h) hFc (fun z_95 x_95 t H1 locs ht hvm hw hB hz1 hk1 hS => ?_)
    obtain ⟨hw, hO_95⟩ := hw
    subst hw
    obtain ⟨hP1, hD1⟩ := hB
    rw [ht] at hP1
    have hP := hP1
    have hD := hD1.weaken (fun k q _ h => hFc q.1 h)
    generalize H1 = H at hP hS ⊢
    have hF : some (r_95, u_95) = some (r, o_g0) := hF
    cases hF
    subst hQ
    subst hAe
    exact W.iret hx hb hr (fun t ht hW => ⟨⟨_, x_95, rfl, ⟨rfl, hO_95⟩, ⟨by rw [ht]; exact hP, hD⟩⟩, hS.F ht⟩) hS.2.2 dL_change_98
  have hF := (if_neg c_19_0).symm.trans hF
  by_cases c_19_1 : q_16 = (1 : Int32)
  · have hF := (if_pos c_19_1).symm.trans hF
    refine lv_tableIn (tgt := 99) (off := 80) hx hb dL_change_19 (by rw [c_19_1]; decide) (by rw [c_19_1]; decide) (by rw [c_19_1]; rfl) (by decide) ?_
    refine lv_aload_n hx hb dL_change_99 rfl (lv_at hl 2 rfl) ?_
    refine lv_iconst (v := (0 : Int32)) hx hb dL_change_100 (by decide) ?_
    refine lv_iconst (v := (1 : Int32)) hx hb dL_change_101 (by decide) ?_
    refine lv_iload_n hx hb dL_change_102 rfl (lv_at hl 4 rfl) ?_
    refine lv_bipush (v := (12 : Int32)) hx hb dL_change_103 (by decide) ?_
    obtain ⟨q_105, hq_105, hF⟩ := bindE hF
    have hPc := hP.sub (ws' := []) [] rfl
    refine vp_callSi (va_Run.run (va_runS (As := [.int p2, .int (12 : Int32)]) (rest := [.int (1 : Int32), .int (0 : Int32), .ref o0]) ⟨hx, hb, hml, hown, hts⟩ (c_L_low l dC dI cI cZ cO p2 (12 : Int32) q_105 hq_105) (cwS 2 hts gL_change_L_low rfl rfl rfl (by decide +kernel) ⟨Nat.le_of_ble_eq_true rfl, Nat.le_of_ble_eq_true rfl⟩) ⟨fb_rd, pre_rd hPc hK hN⟩ rfl rfl hl.1 rfl (lv_room (Nat.le_of_ble_eq_true rfl)) dL_change_105 ⟨Nat.zero_le _, Nat.zero_le _⟩)) (fun z_105 hz_105 => ?_)
    subst hz_105
    refine lv_iadd hx hb dL_change_108 ?_
    obtain ⟨q_109, hq_109, hF⟩ := bindE hF
    obtain ⟨r_109, u_109⟩ := q_109
    have hPc := hP
    have hDc := hD
    have hFc := va_free2 hDc hS hA
    obtain ⟨vs_109, hv_109⟩ := OB_recv hO0
    refine va_calli (va_runV (As := [.int (0 : Int32), .int ((1 : Int32) + q_105)]) (rest := []) ⟨hx, hb, hml, hown, hts⟩ (o_set l dC dI cI cZ cO o0 H.size tL tM w0 v_g0 (0 : Int32) ((1 : Int32) + q_105) r_109 u_109 hO0 hq_109) (cwV 2 hts gL_change_X3_set rfl rfl rfl (by decide +kernel) ⟨Nat.le_of_ble_eq_true rfl, Nat.le_of_ble_eq_true rfl⟩) ⟨fb_st, va_recv hK hPc (ci := 3) (q0 := 0) rfl hv_109, pre_st hPc hK hN hDc hST hH⟩ rfl rfl hl.1 rfl (lv_room (Nat.le_of_ble_eq_true rfl)) dL_change_109 ⟨Nat.zero_le _, Nat.zero_le _⟩) hS (fun q _ h => hFc q h) hFc (fun z_109 x_109 t H1 locs ht hvm hw hB hz1 hk1 hS => ?_)
    obtain ⟨hw, hO_109⟩ := hw
    subst hw
    obtain ⟨hP1, hD1⟩ := hB
    rw [ht] at hP1
    have hP := hP1
    have hD := hD1.weaken (fun k q _ h => hFc q.1 h)
    generalize H1 = H at hP hS ⊢
    have hF : some (r_109, u_109) = some (r, o_g0) := hF
    cases hF
    subst hQ
    subst hAe
    exact W.iret hx hb hr (fun t ht hW => ⟨⟨_, x_109, rfl, ⟨rfl, hO_109⟩, ⟨by rw [ht]; exact hP, hD⟩⟩, hS.F ht⟩) hS.2.2 dL_change_112
  have hF := (if_neg c_19_1).symm.trans hF
  by_cases c_19_2 : q_16 = (2 : Int32)
  · have hF := (if_pos c_19_2).symm.trans hF
    refine lv_tableIn (tgt := 113) (off := 94) hx hb dL_change_19 (by rw [c_19_2]; decide) (by rw [c_19_2]; decide) (by rw [c_19_2]; rfl) (by decide) ?_
    refine lv_iload_n hx hb dL_change_113 rfl (lv_at hl 4 rfl) ?_
    refine lv_iconst (v := (2 : Int32)) hx hb dL_change_114 (by decide) ?_
    obtain ⟨q_115, hq_115, hF⟩ := bindE hF
    have hPc := hP.sub (ws' := []) [] rfl
    refine vp_callSi (va_Run.run (va_runS (As := [.int p2, .int (2 : Int32)]) (rest := []) ⟨hx, hb, hml, hown, hts⟩ (c_L_low l dC dI cI cZ cO p2 (2 : Int32) q_115 hq_115) (cwS 2 hts gL_change_L_low rfl rfl rfl (by decide +kernel) ⟨Nat.le_of_ble_eq_true rfl, Nat.le_of_ble_eq_true rfl⟩) ⟨fb_rd, pre_rd hPc hK hN⟩ rfl rfl hl.1 rfl (lv_room (Nat.le_of_ble_eq_true rfl)) dL_change_115 ⟨Nat.zero_le _, Nat.zero_le _⟩)) (fun z_115 hz_115 => ?_)
    subst hz_115
    refine lv_if_ne (tgt := 139) hx hb dL_change_118 (by decide) (fun c_118 => ?_) (fun c_118 => ?_)
    · have hF := (if_neg c_118).symm.trans hF
      refine lv_aload_n hx hb dL_change_139 rfl (lv_at hl 2 rfl) ?_
      refine lv_iconst (v := (2 : Int32)) hx hb dL_change_140 (by decide) ?_
      refine lv_iload_n hx hb dL_change_141 rfl (lv_at hl 4 rfl) ?_
      refine lv_iconst (v := (1 : Int32)) hx hb dL_change_142 (by decide) ?_
      refine lv_ishr hx hb dL_change_143 ?_
      refine lv_bipush (v := (8 : Int32)) hx hb dL_change_144 (by decide) ?_
      obtain ⟨q_146, hq_146, hF⟩ := bindE hF
      have hPc := hP.sub (ws' := []) [] rfl
      refine vp_callSi (va_Run.run (va_runS (As := [.int (p2 >>> ((1 : Int32) &&& 31)), .int (8 : Int32)]) (rest := [.int (2 : Int32), .ref o0]) ⟨hx, hb, hml, hown, hts⟩ (c_L_low l dC dI cI cZ cO (p2 >>> ((1 : Int32) &&& 31)) (8 : Int32) q_146 hq_146) (cwS 2 hts gL_change_L_low rfl rfl rfl (by decide +kernel) ⟨Nat.le_of_ble_eq_true rfl, Nat.le_of_ble_eq_true rfl⟩) ⟨fb_rd, pre_rd hPc hK hN⟩ rfl rfl hl.1 rfl (lv_room (Nat.le_of_ble_eq_true rfl)) dL_change_146 ⟨Nat.zero_le _, Nat.zero_le _⟩)) (fun z_146 hz_146 => ?_)
      subst hz_146
      obtain ⟨q_149, hq_149, hF⟩ := bindE hF
      obtain ⟨r_149, u_149⟩ := q_149
      have hPc := hP
      have hDc := hD
      have hFc := va_free2 hDc hS hA
      obtain ⟨vs_149, hv_149⟩ := OB_recv hO0
      refine va_calli (va_runV (As := [.int (2 : Int32), .int q_146]) (rest := []) ⟨hx, hb, hml, hown, hts⟩ (o_set l dC dI cI cZ cO o0 H.size tL tM w0 v_g0 (2 : Int32) q_146 r_149 u_149 hO0 hq_149) (cwV 2 hts gL_change_X3_set rfl rfl rfl (by decide +kernel) ⟨Nat.le_of_ble_eq_true rfl, Nat.le_of_ble_eq_true rfl⟩) ⟨fb_st, va_recv hK hPc (ci := 3) (q0 := 0) rfl hv_149, pre_st hPc hK hN hDc hST hH⟩ rfl rfl hl.1 rfl (lv_room (Nat.le_of_ble_eq_true rfl)) dL_change_149 ⟨Nat.zero_le _, Nat.zero_le _⟩) hS (fun q _ h => hFc q h) hFc (fun z_149 x_149 t H1 locs ht hvm hw hB hz1 hk1 hS => ?_)
      obtain ⟨hw, hO_149⟩ := hw
      subst hw
      obtain ⟨hP1, hD1⟩ := hB
      rw [ht] at hP1
      have hP := hP1
      have hD := hD1.weaken (fun k q _ h => hFc q.1 h)
      generalize H1 = H at hP hS ⊢
      have hF : some (r_149, u_149) = some (r, o_g0) := hF
      cases hF
      subst hQ
      subst hAe
      exact W.iret hx hb hr (fun t ht hW => ⟨⟨_, x_149, rfl, ⟨rfl, hO_149⟩, ⟨by rw [ht]; exact hP, hD⟩⟩, hS.F ht⟩) hS.2.2 dL_change_152
    · have hF := (if_pos c_118).symm.trans hF
      refine lv_aload_n hx hb dL_change_121 rfl (lv_at hl 2 rfl) ?_
      refine lv_iconst (v := (1 : Int32)) hx hb dL_change_122 (by decide) ?_
      refine lv_iconst (v := (1 : Int32)) hx hb dL_change_123 (by decide) ?_
      refine lv_iload_n hx hb dL_change_124 rfl (lv_at hl 4 rfl) ?_
      refine lv_iconst (v := (1 : Int32)) hx hb dL_change_125 (by decide) ?_
      refine lv_ishr hx hb dL_change_126 ?_
      refine lv_bipush (v := (8 : Int32)) hx hb dL_change_127 (by decide) ?_
      obtain ⟨q_129, hq_129, hF⟩ := bindE hF
      have hPc := hP.sub (ws' := []) [] rfl
      refine vp_callSi (va_Run.run (va_runS (As := [.int (p2 >>> ((1 : Int32) &&& 31)), .int (8 : Int32)]) (rest := [.int (1 : Int32), .int (1 : Int32), .ref o0]) ⟨hx, hb, hml, hown, hts⟩ (c_L_low l dC dI cI cZ cO (p2 >>> ((1 : Int32) &&& 31)) (8 : Int32) q_129 hq_129) (cwS 2 hts gL_change_L_low rfl rfl rfl (by decide +kernel) ⟨Nat.le_of_ble_eq_true rfl, Nat.le_of_ble_eq_true rfl⟩) ⟨fb_rd, pre_rd hPc hK hN⟩ rfl rfl hl.1 rfl (lv_room (Nat.le_of_ble_eq_true rfl)) dL_change_129 ⟨Nat.zero_le _, Nat.zero_le _⟩)) (fun z_129 hz_129 => ?_)
      subst hz_129
      refine lv_iadd hx hb dL_change_132 ?_
      obtain ⟨q_133, hq_133, hF⟩ := bindE hF
      obtain ⟨r_133, u_133⟩ := q_133
      have hPc := hP
      have hDc := hD
      have hFc := va_free2 hDc hS hA
      obtain ⟨vs_133, hv_133⟩ := OB_recv hO0
      refine va_calli (va_runV (As := [.int (1 : Int32), .int ((1 : Int32) + q_129)]) (rest := []) ⟨hx, hb, hml, hown, hts⟩ (o_set l dC dI cI cZ cO o0 H.size tL tM w0 v_g0 (1 : Int32) ((1 : Int32) + q_129) r_133 u_133 hO0 hq_133) (cwV 2 hts gL_change_X3_set rfl rfl rfl (by decide +kernel) ⟨Nat.le_of_ble_eq_true rfl, Nat.le_of_ble_eq_true rfl⟩) ⟨fb_st, va_recv hK hPc (ci := 3) (q0 := 0) rfl hv_133, pre_st hPc hK hN hDc hST hH⟩ rfl rfl hl.1 rfl (lv_room (Nat.le_of_ble_eq_true rfl)) dL_change_133 ⟨Nat.zero_le _, Nat.zero_le _⟩) hS (fun q _ h => hFc q h) hFc (fun z_133 x_133 t H1 locs ht hvm hw hB hz1 hk1 hS => ?_)
      obtain ⟨hw, hO_133⟩ := hw
      subst hw
      obtain ⟨hP1, hD1⟩ := hB
      rw [ht] at hP1
      have hP := hP1
      have hD := hD1.weaken (fun k q _ h => hFc q.1 h)
      generalize H1 = H at hP hS ⊢
      refine lv_goto (tgt := 152) hx hb dL_change_136 (by decide) ?_
      have hF : some (r_133, u_133) = some (r, o_g0) := hF
      cases hF
      subst hQ
      subst hAe
      exact W.iret hx hb hr (fun t ht hW => ⟨⟨_, x_133, rfl, ⟨rfl, hO_133⟩, ⟨by rw [ht]; exact hP, hD⟩⟩, hS.F ht⟩) hS.2.2 dL_change_152
  have hF := (if_neg c_19_2).symm.trans hF
  by_cases c_19_3 : q_16 = (3 : Int32)
  · have hF := (if_pos c_19_3).symm.trans hF
    refine lv_tableIn (tgt := 153) (off := 134) hx hb dL_change_19 (by rw [c_19_3]; decide) (by rw [c_19_3]; decide) (by rw [c_19_3]; rfl) (by decide) ?_
    refine lv_iload_n hx hb dL_change_153 rfl (lv_at hl 4 rfl) ?_
    refine lv_iconst (v := (2 : Int32)) hx hb dL_change_154 (by decide) ?_
    obtain ⟨q_155, hq_155, hF⟩ := bindE hF
    have hPc := hP.sub (ws' := []) [] rfl
    refine vp_callSi (va_Run.run (va_runS (As := [.int p2, .int (2 : Int32)]) (rest := []) ⟨hx, hb, hml, hown, hts⟩ (c_L_low l dC dI cI cZ cO p2 (2 : Int32) q_155 hq_155) (cwS 2 hts gL_change_L_low rfl rfl rfl (by decide +kernel) ⟨Nat.le_of_ble_eq_true rfl, Nat.le_of_ble_eq_true rfl⟩) ⟨fb_rd, pre_rd hPc hK hN⟩ rfl rfl hl.1 rfl (lv_room (Nat.le_of_ble_eq_true rfl)) dL_change_155 ⟨Nat.zero_le _, Nat.zero_le _⟩)) (fun z_155 hz_155 => ?_)
    subst hz_155
    refine lv_if_ne (tgt := 177) hx hb dL_change_158 (by decide) (fun c_158 => ?_) (fun c_158 => ?_)
    · have hF := (if_neg c_158).symm.trans hF
      refine lv_aload_n hx hb dL_change_177 rfl (lv_at hl 2 rfl) ?_
      refine lv_iconst (v := (4 : Int32)) hx hb dL_change_178 (by decide) ?_
      refine lv_iconst (v := (1 : Int32)) hx hb dL_change_179 (by decide) ?_
      refine lv_iload_n hx hb dL_change_180 rfl (lv_at hl 4 rfl) ?_
      refine lv_iconst (v := (1 : Int32)) hx hb dL_change_181 (by decide) ?_
      refine lv_ishr hx hb dL_change_182 ?_
      refine lv_bipush (v := (60 : Int32)) hx hb dL_change_183 (by decide) ?_
      obtain ⟨q_185, hq_185, hF⟩ := bindE hF
      have hPc := hP.sub (ws' := []) [] rfl
      refine vp_callSi (va_Run.run (va_runS (As := [.int (p2 >>> ((1 : Int32) &&& 31)), .int (60 : Int32)]) (rest := [.int (1 : Int32), .int (4 : Int32), .ref o0]) ⟨hx, hb, hml, hown, hts⟩ (c_L_low l dC dI cI cZ cO (p2 >>> ((1 : Int32) &&& 31)) (60 : Int32) q_185 hq_185) (cwS 2 hts gL_change_L_low rfl rfl rfl (by decide +kernel) ⟨Nat.le_of_ble_eq_true rfl, Nat.le_of_ble_eq_true rfl⟩) ⟨fb_rd, pre_rd hPc hK hN⟩ rfl rfl hl.1 rfl (lv_room (Nat.le_of_ble_eq_true rfl)) dL_change_185 ⟨Nat.zero_le _, Nat.zero_le _⟩)) (fun z_185 hz_185 => ?_)
      subst hz_185
      refine lv_iadd hx hb dL_change_188 ?_
      obtain ⟨q_189, hq_189, hF⟩ := bindE hF
      obtain ⟨r_189, u_189⟩ := q_189
      have hPc := hP
      have hDc := hD
      have hFc := va_free2 hDc hS hA
      obtain ⟨vs_189, hv_189⟩ := OB_recv hO0
      refine va_calli (va_runV (As := [.int (4 : Int32), .int ((1 : Int32) + q_185)]) (rest := []) ⟨hx, hb, hml, hown, hts⟩ (o_set l dC dI cI cZ cO o0 H.size tL tM w0 v_g0 (4 : Int32) ((1 : Int32) + q_185) r_189 u_189 hO0 hq_189) (cwV 2 hts gL_change_X3_set rfl rfl rfl (by decide +kernel) ⟨Nat.le_of_ble_eq_true rfl, Nat.le_of_ble_eq_true rfl⟩) ⟨fb_st, va_recv hK hPc (ci := 3) (q0 := 0) rfl hv_189, pre_st hPc hK hN hDc hST hH⟩ rfl rfl hl.1 rfl (lv_room (Nat.le_of_ble_eq_true rfl)) dL_change_189 ⟨Nat.zero_le _, Nat.zero_le _⟩) hS (fun q _ h => hFc q h) hFc (fun z_189 x_189 t H1 locs ht hvm hw hB hz1 hk1 hS => ?_)
      obtain ⟨hw, hO_189⟩ := hw
      subst hw
      obtain ⟨hP1, hD1⟩ := hB
      rw [ht] at hP1
      have hP := hP1
      have hD := hD1.weaken (fun k q _ h => hFc q.1 h)
      generalize H1 = H at hP hS ⊢
      have hF : some (r_189, u_189) = some (r, o_g0) := hF
      cases hF
      subst hQ
      subst hAe
      exact W.iret hx hb hr (fun t ht hW => ⟨⟨_, x_189, rfl, ⟨rfl, hO_189⟩, ⟨by rw [ht]; exact hP, hD⟩⟩, hS.F ht⟩) hS.2.2 dL_change_192
    · have hF := (if_pos c_158).symm.trans hF
      refine lv_aload_n hx hb dL_change_161 rfl (lv_at hl 2 rfl) ?_
      refine lv_iconst (v := (3 : Int32)) hx hb dL_change_162 (by decide) ?_
      refine lv_iload_n hx hb dL_change_163 rfl (lv_at hl 4 rfl) ?_
      refine lv_iconst (v := (1 : Int32)) hx hb dL_change_164 (by decide) ?_
      refine lv_ishr hx hb dL_change_165 ?_
      refine lv_bipush (v := (31 : Int32)) hx hb dL_change_166 (by decide) ?_
      obtain ⟨q_168, hq_168, hF⟩ := bindE hF
      have hPc := hP.sub (ws' := []) [] rfl
      refine vp_callSi (va_Run.run (va_runS (As := [.int (p2 >>> ((1 : Int32) &&& 31)), .int (31 : Int32)]) (rest := [.int (3 : Int32), .ref o0]) ⟨hx, hb, hml, hown, hts⟩ (c_L_low l dC dI cI cZ cO (p2 >>> ((1 : Int32) &&& 31)) (31 : Int32) q_168 hq_168) (cwS 2 hts gL_change_L_low rfl rfl rfl (by decide +kernel) ⟨Nat.le_of_ble_eq_true rfl, Nat.le_of_ble_eq_true rfl⟩) ⟨fb_rd, pre_rd hPc hK hN⟩ rfl rfl hl.1 rfl (lv_room (Nat.le_of_ble_eq_true rfl)) dL_change_168 ⟨Nat.zero_le _, Nat.zero_le _⟩)) (fun z_168 hz_168 => ?_)
      subst hz_168
      obtain ⟨q_171, hq_171, hF⟩ := bindE hF
      obtain ⟨r_171, u_171⟩ := q_171
      have hPc := hP
      have hDc := hD
      have hFc := va_free2 hDc hS hA
      obtain ⟨vs_171, hv_171⟩ := OB_recv hO0
      refine va_calli (va_runV (As := [.int (3 : Int32), .int q_168]) (rest := []) ⟨hx, hb, hml, hown, hts⟩ (o_set l dC dI cI cZ cO o0 H.size tL tM w0 v_g0 (3 : Int32) q_168 r_171 u_171 hO0 hq_171) (cwV 2 hts gL_change_X3_set rfl rfl rfl (by decide +kernel) ⟨Nat.le_of_ble_eq_true rfl, Nat.le_of_ble_eq_true rfl⟩) ⟨fb_st, va_recv hK hPc (ci := 3) (q0 := 0) rfl hv_171, pre_st hPc hK hN hDc hST hH⟩ rfl rfl hl.1 rfl (lv_room (Nat.le_of_ble_eq_true rfl)) dL_change_171 ⟨Nat.zero_le _, Nat.zero_le _⟩) hS (fun q _ h => hFc q h) hFc (fun z_171 x_171 t H1 locs ht hvm hw hB hz1 hk1 hS => ?_)
      obtain ⟨hw, hO_171⟩ := hw
      subst hw
      obtain ⟨hP1, hD1⟩ := hB
      rw [ht] at hP1
      have hP := hP1
      have hD := hD1.weaken (fun k q _ h => hFc q.1 h)
      generalize H1 = H at hP hS ⊢
      refine lv_goto (tgt := 192) hx hb dL_change_174 (by decide) ?_
      have hF : some (r_171, u_171) = some (r, o_g0) := hF
      cases hF
      subst hQ
      subst hAe
      exact W.iret hx hb hr (fun t ht hW => ⟨⟨_, x_171, rfl, ⟨rfl, hO_171⟩, ⟨by rw [ht]; exact hP, hD⟩⟩, hS.F ht⟩) hS.2.2 dL_change_192
  have hF := (if_neg c_19_3).symm.trans hF
  by_cases c_19_4 : q_16 = (4 : Int32)
  · have hF := (if_pos c_19_4).symm.trans hF
    refine lv_tableIn (tgt := 193) (off := 174) hx hb dL_change_19 (by rw [c_19_4]; decide) (by rw [c_19_4]; decide) (by rw [c_19_4]; rfl) (by decide) ?_
    refine lv_iload_n hx hb dL_change_193 rfl (lv_at hl 4 rfl) ?_
    refine lv_iconst (v := (2 : Int32)) hx hb dL_change_194 (by decide) ?_
    obtain ⟨q_195, hq_195, hF⟩ := bindE hF
    have hPc := hP.sub (ws' := []) [] rfl
    refine vp_callSi (va_Run.run (va_runS (As := [.int p2, .int (2 : Int32)]) (rest := []) ⟨hx, hb, hml, hown, hts⟩ (c_L_low l dC dI cI cZ cO p2 (2 : Int32) q_195 hq_195) (cwS 2 hts gL_change_L_low rfl rfl rfl (by decide +kernel) ⟨Nat.le_of_ble_eq_true rfl, Nat.le_of_ble_eq_true rfl⟩) ⟨fb_rd, pre_rd hPc hK hN⟩ rfl rfl hl.1 rfl (lv_room (Nat.le_of_ble_eq_true rfl)) dL_change_195 ⟨Nat.zero_le _, Nat.zero_le _⟩)) (fun z_195 hz_195 => ?_)
    subst hz_195
    refine lv_if_ne (tgt := 218) hx hb dL_change_198 (by decide) (fun c_198 => ?_) (fun c_198 => ?_)
    · have hF := (if_neg c_198).symm.trans hF
      refine lv_aload_n hx hb dL_change_218 rfl (lv_at hl 2 rfl) ?_
      refine lv_bipush (v := (6 : Int32)) hx hb dL_change_219 (by decide) ?_
      refine lv_iconst (v := (1 : Int32)) hx hb dL_change_221 (by decide) ?_
      refine lv_iload_n hx hb dL_change_222 rfl (lv_at hl 4 rfl) ?_
      refine lv_iconst (v := (1 : Int32)) hx hb dL_change_223 (by decide) ?_
      refine lv_ishr hx hb dL_change_224 ?_
      refine lv_bipush (v := (60 : Int32)) hx hb dL_change_225 (by decide) ?_
      obtain ⟨q_227, hq_227, hF⟩ := bindE hF
      have hPc := hP.sub (ws' := []) [] rfl
      refine vp_callSi (va_Run.run (va_runS (As := [.int (p2 >>> ((1 : Int32) &&& 31)), .int (60 : Int32)]) (rest := [.int (1 : Int32), .int (6 : Int32), .ref o0]) ⟨hx, hb, hml, hown, hts⟩ (c_L_low l dC dI cI cZ cO (p2 >>> ((1 : Int32) &&& 31)) (60 : Int32) q_227 hq_227) (cwS 2 hts gL_change_L_low rfl rfl rfl (by decide +kernel) ⟨Nat.le_of_ble_eq_true rfl, Nat.le_of_ble_eq_true rfl⟩) ⟨fb_rd, pre_rd hPc hK hN⟩ rfl rfl hl.1 rfl (lv_room (Nat.le_of_ble_eq_true rfl)) dL_change_227 ⟨Nat.zero_le _, Nat.zero_le _⟩)) (fun z_227 hz_227 => ?_)
      subst hz_227
      refine lv_iadd hx hb dL_change_230 ?_
      obtain ⟨q_231, hq_231, hF⟩ := bindE hF
      obtain ⟨r_231, u_231⟩ := q_231
      have hPc := hP
      have hDc := hD
      have hFc := va_free2 hDc hS hA
      obtain ⟨vs_231, hv_231⟩ := OB_recv hO0
      refine va_calli (va_runV (As := [.int (6 : Int32), .int ((1 : Int32) + q_227)]) (rest := []) ⟨hx, hb, hml, hown, hts⟩ (o_set l dC dI cI cZ cO o0 H.size tL tM w0 v_g0 (6 : Int32) ((1 : Int32) + q_227) r_231 u_231 hO0 hq_231) (cwV 2 hts gL_change_X3_set rfl rfl rfl (by decide +kernel) ⟨Nat.le_of_ble_eq_true rfl, Nat.le_of_ble_eq_true rfl⟩) ⟨fb_st, va_recv hK hPc (ci := 3) (q0 := 0) rfl hv_231, pre_st hPc hK hN hDc hST hH⟩ rfl rfl hl.1 rfl (lv_room (Nat.le_of_ble_eq_true rfl)) dL_change_231 ⟨Nat.zero_le _, Nat.zero_le _⟩) hS (fun q _ h => hFc q h) hFc (fun z_231 x_231 t H1 locs ht hvm hw hB hz1 hk1 hS => ?_)
      obtain ⟨hw, hO_231⟩ := hw
      subst hw
      obtain ⟨hP1, hD1⟩ := hB
      rw [ht] at hP1
      have hP := hP1
      have hD := hD1.weaken (fun k q _ h => hFc q.1 h)
      generalize H1 = H at hP hS ⊢
      have hF : some (r_231, u_231) = some (r, o_g0) := hF
      cases hF
      subst hQ
      subst hAe
      exact W.iret hx hb hr (fun t ht hW => ⟨⟨_, x_231, rfl, ⟨rfl, hO_231⟩, ⟨by rw [ht]; exact hP, hD⟩⟩, hS.F ht⟩) hS.2.2 dL_change_234
    · have hF := (if_pos c_198).symm.trans hF
      refine lv_aload_n hx hb dL_change_201 rfl (lv_at hl 2 rfl) ?_
      refine lv_iconst (v := (5 : Int32)) hx hb dL_change_202 (by decide) ?_
      refine lv_iconst (v := (1 : Int32)) hx hb dL_change_203 (by decide) ?_
      refine lv_iload_n hx hb dL_change_204 rfl (lv_at hl 4 rfl) ?_
      refine lv_iconst (v := (1 : Int32)) hx hb dL_change_205 (by decide) ?_
      refine lv_ishr hx hb dL_change_206 ?_
      refine lv_iconst (v := (4 : Int32)) hx hb dL_change_207 (by decide) ?_
      obtain ⟨q_208, hq_208, hF⟩ := bindE hF
      have hPc := hP.sub (ws' := []) [] rfl
      refine vp_callSi (va_Run.run (va_runS (As := [.int (p2 >>> ((1 : Int32) &&& 31)), .int (4 : Int32)]) (rest := [.int (1 : Int32), .int (5 : Int32), .ref o0]) ⟨hx, hb, hml, hown, hts⟩ (c_L_low l dC dI cI cZ cO (p2 >>> ((1 : Int32) &&& 31)) (4 : Int32) q_208 hq_208) (cwS 2 hts gL_change_L_low rfl rfl rfl (by decide +kernel) ⟨Nat.le_of_ble_eq_true rfl, Nat.le_of_ble_eq_true rfl⟩) ⟨fb_rd, pre_rd hPc hK hN⟩ rfl rfl hl.1 rfl (lv_room (Nat.le_of_ble_eq_true rfl)) dL_change_208 ⟨Nat.zero_le _, Nat.zero_le _⟩)) (fun z_208 hz_208 => ?_)
      subst hz_208
      refine lv_iadd hx hb dL_change_211 ?_
      obtain ⟨q_212, hq_212, hF⟩ := bindE hF
      obtain ⟨r_212, u_212⟩ := q_212
      have hPc := hP
      have hDc := hD
      have hFc := va_free2 hDc hS hA
      obtain ⟨vs_212, hv_212⟩ := OB_recv hO0
      refine va_calli (va_runV (As := [.int (5 : Int32), .int ((1 : Int32) + q_208)]) (rest := []) ⟨hx, hb, hml, hown, hts⟩ (o_set l dC dI cI cZ cO o0 H.size tL tM w0 v_g0 (5 : Int32) ((1 : Int32) + q_208) r_212 u_212 hO0 hq_212) (cwV 2 hts gL_change_X3_set rfl rfl rfl (by decide +kernel) ⟨Nat.le_of_ble_eq_true rfl, Nat.le_of_ble_eq_true rfl⟩) ⟨fb_st, va_recv hK hPc (ci := 3) (q0 := 0) rfl hv_212, pre_st hPc hK hN hDc hST hH⟩ rfl rfl hl.1 rfl (lv_room (Nat.le_of_ble_eq_true rfl)) dL_change_212 ⟨Nat.zero_le _, Nat.zero_le _⟩) hS (fun q _ h => hFc q h) hFc (fun z_212 x_212 t H1 locs ht hvm hw hB hz1 hk1 hS => ?_)
      obtain ⟨hw, hO_212⟩ := hw
      subst hw
      obtain ⟨hP1, hD1⟩ := hB
      rw [ht] at hP1
      have hP := hP1
      have hD := hD1.weaken (fun k q _ h => hFc q.1 h)
      generalize H1 = H at hP hS ⊢
      refine lv_goto (tgt := 234) hx hb dL_change_215 (by decide) ?_
      have hF : some (r_212, u_212) = some (r, o_g0) := hF
      cases hF
      subst hQ
      subst hAe
      exact W.iret hx hb hr (fun t ht hW => ⟨⟨_, x_212, rfl, ⟨rfl, hO_212⟩, ⟨by rw [ht]; exact hP, hD⟩⟩, hS.F ht⟩) hS.2.2 dL_change_234
  have hF := (if_neg c_19_4).symm.trans hF
  by_cases c_19_5 : q_16 = (5 : Int32)
  · have hF := (if_pos c_19_5).symm.trans hF
    refine lv_tableIn (tgt := 235) (off := 216) hx hb dL_change_19 (by rw [c_19_5]; decide) (by rw [c_19_5]; decide) (by rw [c_19_5]; rfl) (by decide) ?_
    refine lv_iload_n hx hb dL_change_235 rfl (lv_at hl 4 rfl) ?_
    refine lv_iconst (v := (2 : Int32)) hx hb dL_change_236 (by decide) ?_
    obtain ⟨q_237, hq_237, hF⟩ := bindE hF
    have hPc := hP.sub (ws' := []) [] rfl
    refine vp_callSi (va_Run.run (va_runS (As := [.int p2, .int (2 : Int32)]) (rest := []) ⟨hx, hb, hml, hown, hts⟩ (c_L_low l dC dI cI cZ cO p2 (2 : Int32) q_237 hq_237) (cwS 2 hts gL_change_L_low rfl rfl rfl (by decide +kernel) ⟨Nat.le_of_ble_eq_true rfl, Nat.le_of_ble_eq_true rfl⟩) ⟨fb_rd, pre_rd hPc hK hN⟩ rfl rfl hl.1 rfl (lv_room (Nat.le_of_ble_eq_true rfl)) dL_change_237 ⟨Nat.zero_le _, Nat.zero_le _⟩)) (fun z_237 hz_237 => ?_)
    subst hz_237
    refine lv_if_ne (tgt := 262) hx hb dL_change_240 (by decide) (fun c_240 => ?_) (fun c_240 => ?_)
    · have hF := (if_neg c_240).symm.trans hF
      refine lv_aload_n hx hb dL_change_262 rfl (lv_at hl 2 rfl) ?_
      refine lv_bipush (v := (8 : Int32)) hx hb dL_change_263 (by decide) ?_
      refine lv_iload_n hx hb dL_change_265 rfl (lv_at hl 4 rfl) ?_
      refine lv_iconst (v := (1 : Int32)) hx hb dL_change_266 (by decide) ?_
      refine lv_ishr hx hb dL_change_267 ?_
      refine lv_bipush (v := (11 : Int32)) hx hb dL_change_268 (by decide) ?_
      obtain ⟨q_270, hq_270, hF⟩ := bindE hF
      have hPc := hP.sub (ws' := []) [] rfl
      refine vp_callSi (va_Run.run (va_runS (As := [.int (p2 >>> ((1 : Int32) &&& 31)), .int (11 : Int32)]) (rest := [.int (8 : Int32), .ref o0]) ⟨hx, hb, hml, hown, hts⟩ (c_L_low l dC dI cI cZ cO (p2 >>> ((1 : Int32) &&& 31)) (11 : Int32) q_270 hq_270) (cwS 2 hts gL_change_L_low rfl rfl rfl (by decide +kernel) ⟨Nat.le_of_ble_eq_true rfl, Nat.le_of_ble_eq_true rfl⟩) ⟨fb_rd, pre_rd hPc hK hN⟩ rfl rfl hl.1 rfl (lv_room (Nat.le_of_ble_eq_true rfl)) dL_change_270 ⟨Nat.zero_le _, Nat.zero_le _⟩)) (fun z_270 hz_270 => ?_)
      subst hz_270
      obtain ⟨q_273, hq_273, hF⟩ := bindE hF
      obtain ⟨r_273, u_273⟩ := q_273
      have hPc := hP
      have hDc := hD
      have hFc := va_free2 hDc hS hA
      obtain ⟨vs_273, hv_273⟩ := OB_recv hO0
      refine va_calli (va_runV (As := [.int (8 : Int32), .int q_270]) (rest := []) ⟨hx, hb, hml, hown, hts⟩ (o_set l dC dI cI cZ cO o0 H.size tL tM w0 v_g0 (8 : Int32) q_270 r_273 u_273 hO0 hq_273) (cwV 2 hts gL_change_X3_set rfl rfl rfl (by decide +kernel) ⟨Nat.le_of_ble_eq_true rfl, Nat.le_of_ble_eq_true rfl⟩) ⟨fb_st, va_recv hK hPc (ci := 3) (q0 := 0) rfl hv_273, pre_st hPc hK hN hDc hST hH⟩ rfl rfl hl.1 rfl (lv_room (Nat.le_of_ble_eq_true rfl)) dL_change_273 ⟨Nat.zero_le _, Nat.zero_le _⟩) hS (fun q _ h => hFc q h) hFc (fun z_273 x_273 t H1 locs ht hvm hw hB hz1 hk1 hS => ?_)
      obtain ⟨hw, hO_273⟩ := hw
      subst hw
      obtain ⟨hP1, hD1⟩ := hB
      rw [ht] at hP1
      have hP := hP1
      have hD := hD1.weaken (fun k q _ h => hFc q.1 h)
      generalize H1 = H at hP hS ⊢
      have hF : some (r_273, u_273) = some (r, o_g0) := hF
      cases hF
      subst hQ
      subst hAe
      exact W.iret hx hb hr (fun t ht hW => ⟨⟨_, x_273, rfl, ⟨rfl, hO_273⟩, ⟨by rw [ht]; exact hP, hD⟩⟩, hS.F ht⟩) hS.2.2 dL_change_276
    · have hF := (if_pos c_240).symm.trans hF
      refine lv_aload_n hx hb dL_change_243 rfl (lv_at hl 2 rfl) ?_
      refine lv_bipush (v := (7 : Int32)) hx hb dL_change_244 (by decide) ?_
      refine lv_iconst (v := (1 : Int32)) hx hb dL_change_246 (by decide) ?_
      refine lv_iload_n hx hb dL_change_247 rfl (lv_at hl 4 rfl) ?_
      refine lv_iconst (v := (1 : Int32)) hx hb dL_change_248 (by decide) ?_
      refine lv_ishr hx hb dL_change_249 ?_
      refine lv_bipush (v := (100 : Int32)) hx hb dL_change_250 (by decide) ?_
      obtain ⟨q_252, hq_252, hF⟩ := bindE hF
      have hPc := hP.sub (ws' := []) [] rfl
      refine vp_callSi (va_Run.run (va_runS (As := [.int (p2 >>> ((1 : Int32) &&& 31)), .int (100 : Int32)]) (rest := [.int (1 : Int32), .int (7 : Int32), .ref o0]) ⟨hx, hb, hml, hown, hts⟩ (c_L_low l dC dI cI cZ cO (p2 >>> ((1 : Int32) &&& 31)) (100 : Int32) q_252 hq_252) (cwS 2 hts gL_change_L_low rfl rfl rfl (by decide +kernel) ⟨Nat.le_of_ble_eq_true rfl, Nat.le_of_ble_eq_true rfl⟩) ⟨fb_rd, pre_rd hPc hK hN⟩ rfl rfl hl.1 rfl (lv_room (Nat.le_of_ble_eq_true rfl)) dL_change_252 ⟨Nat.zero_le _, Nat.zero_le _⟩)) (fun z_252 hz_252 => ?_)
      subst hz_252
      refine lv_iadd hx hb dL_change_255 ?_
      obtain ⟨q_256, hq_256, hF⟩ := bindE hF
      obtain ⟨r_256, u_256⟩ := q_256
      have hPc := hP
      have hDc := hD
      have hFc := va_free2 hDc hS hA
      obtain ⟨vs_256, hv_256⟩ := OB_recv hO0
      refine va_calli (va_runV (As := [.int (7 : Int32), .int ((1 : Int32) + q_252)]) (rest := []) ⟨hx, hb, hml, hown, hts⟩ (o_set l dC dI cI cZ cO o0 H.size tL tM w0 v_g0 (7 : Int32) ((1 : Int32) + q_252) r_256 u_256 hO0 hq_256) (cwV 2 hts gL_change_X3_set rfl rfl rfl (by decide +kernel) ⟨Nat.le_of_ble_eq_true rfl, Nat.le_of_ble_eq_true rfl⟩) ⟨fb_st, va_recv hK hPc (ci := 3) (q0 := 0) rfl hv_256, pre_st hPc hK hN hDc hST hH⟩ rfl rfl hl.1 rfl (lv_room (Nat.le_of_ble_eq_true rfl)) dL_change_256 ⟨Nat.zero_le _, Nat.zero_le _⟩) hS (fun q _ h => hFc q h) hFc (fun z_256 x_256 t H1 locs ht hvm hw hB hz1 hk1 hS => ?_)
      obtain ⟨hw, hO_256⟩ := hw
      subst hw
      obtain ⟨hP1, hD1⟩ := hB
      rw [ht] at hP1
      have hP := hP1
      have hD := hD1.weaken (fun k q _ h => hFc q.1 h)
      generalize H1 = H at hP hS ⊢
      refine lv_goto (tgt := 276) hx hb dL_change_259 (by decide) ?_
      have hF : some (r_256, u_256) = some (r, o_g0) := hF
      cases hF
      subst hQ
      subst hAe
      exact W.iret hx hb hr (fun t ht hW => ⟨⟨_, x_256, rfl, ⟨rfl, hO_256⟩, ⟨by rw [ht]; exact hP, hD⟩⟩, hS.F ht⟩) hS.2.2 dL_change_276
  have hF := (if_neg c_19_5).symm.trans hF
  by_cases c_19_6 : q_16 = (6 : Int32)
  · have hF := (if_pos c_19_6).symm.trans hF
    refine lv_tableIn (tgt := 277) (off := 258) hx hb dL_change_19 (by rw [c_19_6]; decide) (by rw [c_19_6]; decide) (by rw [c_19_6]; rfl) (by decide) ?_
    refine lv_aload_n hx hb dL_change_277 rfl (lv_at hl 2 rfl) ?_
    refine lv_iload_n hx hb dL_change_278 rfl (lv_at hl 4 rfl) ?_
    refine lv_iload_n hx hb dL_change_279 rfl (lv_at hl 1 rfl) ?_
    obtain ⟨q_280, hq_280, hF⟩ := bindE hF
    have hPc := hP.sub (ws' := []) [] rfl
    refine vp_callSi (va_Run.run (va_runS (As := [.int p2, .int q_2]) (rest := [.ref o0]) ⟨hx, hb, hml, hown, hts⟩ (c_L_low l dC dI cI cZ cO p2 q_2 q_280 hq_280) (cwS 2 hts gL_change_L_low rfl rfl rfl (by decide +kernel) ⟨Nat.le_of_ble_eq_true rfl, Nat.le_of_ble_eq_true rfl⟩) ⟨fb_rd, pre_rd hPc hK hN⟩ rfl rfl hl.1 rfl (lv_room (Nat.le_of_ble_eq_true rfl)) dL_change_280 ⟨Nat.zero_le _, Nat.zero_le _⟩)) (fun z_280 hz_280 => ?_)
    subst hz_280
    obtain ⟨q_283, hq_283, hF⟩ := bindE hF
    obtain ⟨r_283, u_283⟩ := q_283
    have hPc := hP
    have hDc := hD
    have hFc := va_free2 hDc hS hA
    obtain ⟨vs_283, hv_283⟩ := OB_recv hO0
    refine va_calli (va_runV (As := [.int q_280]) (rest := []) ⟨hx, hb, hml, hown, hts⟩ (o_place l dC dI cI cZ cO o0 H.size w0 v_g0 q_280 r_283 u_283 hO0 hq_283) (cwV 1 hts gL_change_X3_place rfl rfl rfl (by decide +kernel) ⟨Nat.le_of_ble_eq_true rfl, Nat.le_of_ble_eq_true rfl⟩) ⟨fb_wr, va_recv hK hPc (ci := 3) (q0 := 0) rfl hv_283, pre_wr hPc hK hN hDc⟩ rfl rfl hl.1 rfl (lv_room (Nat.le_of_ble_eq_true rfl)) dL_change_283 ⟨Nat.zero_le _, Nat.zero_le _⟩) hS (fun q _ h => hFc q h) hFc (fun z_283 x_283 t H1 locs ht hvm hw hB hz1 hk1 hS => ?_)
    obtain ⟨hw, hO_283⟩ := hw
    subst hw
    obtain ⟨hP1, hD1⟩ := hB
    rw [ht] at hP1
    have hP := hP1
    have hD := hD1.weaken (fun k q _ h => hFc q.1 h)
    generalize H1 = H at hP hS ⊢
    have hF : some (r_283, u_283) = some (r, o_g0) := hF
    cases hF
    subst hQ
    subst hAe
    exact W.iret hx hb hr (fun t ht hW => ⟨⟨_, x_283, rfl, ⟨rfl, hO_283⟩, ⟨by rw [ht]; exact hP, hD⟩⟩, hS.F ht⟩) hS.2.2 dL_change_286
  have hF := (if_neg c_19_6).symm.trans hF
  by_cases c_19_7 : q_16 = (7 : Int32)
  · have hF := (if_pos c_19_7).symm.trans hF
    refine lv_tableIn (tgt := 287) (off := 268) hx hb dL_change_19 (by rw [c_19_7]; decide) (by rw [c_19_7]; decide) (by rw [c_19_7]; rfl) (by decide) ?_
    refine lv_aload_n hx hb dL_change_287 rfl (lv_at hl 2 rfl) ?_
    obtain ⟨q_288, hq_288, hF⟩ := bindE hF
    obtain ⟨r_288, u_288⟩ := q_288
    have hPc := hP
    have hDc := hD
    have hFc := va_free2 hDc hS hA
    obtain ⟨vs_288, hv_288⟩ := OB_recv hO0
    refine va_calli (va_runV (As := []) (rest := []) ⟨hx, hb, hml, hown, hts⟩ (o_release l dC dI cI cZ cO o0 H.size w0 v_g0 r_288 u_288 hO0 hq_288) (cwV 0 hts gL_change_X3_release rfl rfl rfl (by decide +kernel) ⟨Nat.le_of_ble_eq_true rfl, Nat.le_of_ble_eq_true rfl⟩) ⟨fb_wr, va_recv hK hPc (ci := 3) (q0 := 0) rfl hv_288, pre_wr hPc hK hN hDc⟩ rfl rfl hl.1 rfl (lv_room (Nat.le_of_ble_eq_true rfl)) dL_change_288 ⟨Nat.zero_le _, Nat.zero_le _⟩) hS (fun q _ h => hFc q h) hFc (fun z_288 x_288 t H1 locs ht hvm hw hB hz1 hk1 hS => ?_)
    obtain ⟨hw, hO_288⟩ := hw
    subst hw
    obtain ⟨hP1, hD1⟩ := hB
    rw [ht] at hP1
    have hP := hP1
    have hD := hD1.weaken (fun k q _ h => hFc q.1 h)
    generalize H1 = H at hP hS ⊢
    have hF : some (r_288, u_288) = some (r, o_g0) := hF
    cases hF
    subst hQ
    subst hAe
    exact W.iret hx hb hr (fun t ht hW => ⟨⟨_, x_288, rfl, ⟨rfl, hO_288⟩, ⟨by rw [ht]; exact hP, hD⟩⟩, hS.F ht⟩) hS.2.2 dL_change_291
  have hF := (if_neg c_19_7).symm.trans hF
  by_cases c_19_8 : q_16 = (8 : Int32)
  · have hF := (if_pos c_19_8).symm.trans hF
    refine lv_tableIn (tgt := 292) (off := 273) hx hb dL_change_19 (by rw [c_19_8]; decide) (by rw [c_19_8]; decide) (by rw [c_19_8]; rfl) (by decide) ?_
    refine lv_aload_n hx hb dL_change_292 rfl (lv_at hl 2 rfl) ?_
    obtain ⟨q_293, hq_293, hF⟩ := bindE hF
    cases hq_293
  have hF := (if_neg c_19_8).symm.trans hF
  by_cases c_19_9 : q_16 = (9 : Int32)
  · have hF := (if_pos c_19_9).symm.trans hF
    refine lv_tableIn (tgt := 297) (off := 278) hx hb dL_change_19 (by rw [c_19_9]; decide) (by rw [c_19_9]; decide) (by rw [c_19_9]; rfl) (by decide) ?_
    refine lv_iload_n hx hb dL_change_297 rfl (lv_at hl 4 rfl) ?_
    refine lv_iconst (v := (2 : Int32)) hx hb dL_change_298 (by decide) ?_
    obtain ⟨q_299, hq_299, hF⟩ := bindE hF
    have hPc := hP.sub (ws' := []) [] rfl
    refine vp_callSi (va_Run.run (va_runS (As := [.int p2, .int (2 : Int32)]) (rest := []) ⟨hx, hb, hml, hown, hts⟩ (c_L_low l dC dI cI cZ cO p2 (2 : Int32) q_299 hq_299) (cwS 2 hts gL_change_L_low rfl rfl rfl (by decide +kernel) ⟨Nat.le_of_ble_eq_true rfl, Nat.le_of_ble_eq_true rfl⟩) ⟨fb_rd, pre_rd hPc hK hN⟩ rfl rfl hl.1 rfl (lv_room (Nat.le_of_ble_eq_true rfl)) dL_change_299 ⟨Nat.zero_le _, Nat.zero_le _⟩)) (fun z_299 hz_299 => ?_)
    subst hz_299
    refine lv_if_ne (tgt := 319) hx hb dL_change_302 (by decide) (fun c_302 => ?_) (fun c_302 => ?_)
    · have hF := (if_neg c_302).symm.trans hF
      refine lv_aload_n hx hb dL_change_319 rfl (lv_at hl 2 rfl) ?_
      refine lv_iload_n hx hb dL_change_320 rfl (lv_at hl 4 rfl) ?_
      refine lv_iconst (v := (1 : Int32)) hx hb dL_change_321 (by decide) ?_
      refine lv_ishr hx hb dL_change_322 ?_
      refine lv_iconst (v := (2 : Int32)) hx hb dL_change_323 (by decide) ?_
      obtain ⟨q_324, hq_324, hF⟩ := bindE hF
      have hPc := hP.sub (ws' := []) [] rfl
      refine vp_callSi (va_Run.run (va_runS (As := [.int (p2 >>> ((1 : Int32) &&& 31)), .int (2 : Int32)]) (rest := [.ref o0]) ⟨hx, hb, hml, hown, hts⟩ (c_L_low l dC dI cI cZ cO (p2 >>> ((1 : Int32) &&& 31)) (2 : Int32) q_324 hq_324) (cwS 2 hts gL_change_L_low rfl rfl rfl (by decide +kernel) ⟨Nat.le_of_ble_eq_true rfl, Nat.le_of_ble_eq_true rfl⟩) ⟨fb_rd, pre_rd hPc hK hN⟩ rfl rfl hl.1 rfl (lv_room (Nat.le_of_ble_eq_true rfl)) dL_change_324 ⟨Nat.zero_le _, Nat.zero_le _⟩)) (fun z_324 hz_324 => ?_)
      subst hz_324
      obtain ⟨q_327, hq_327, hF⟩ := bindE hF
      obtain ⟨r_327, u_327⟩ := q_327
      have hPc := hP
      have hDc := hD
      have hFc := va_free2 hDc hS hA
      obtain ⟨vs_327, hv_327⟩ := OB_recv hO0
      refine va_calli (va_runV (As := [.int q_324]) (rest := []) ⟨hx, hb, hml, hown, hts⟩ (o_back l dC dI cI cZ cO o0 H.size w0 v_g0 q_324 r_327 u_327 hO0 hq_327) (cwV 1 hts gL_change_X3_back rfl rfl rfl (by decide +kernel) ⟨Nat.le_of_ble_eq_true rfl, Nat.le_of_ble_eq_true rfl⟩) ⟨fb_wr, va_recv hK hPc (ci := 3) (q0 := 0) rfl hv_327, pre_wr hPc hK hN hDc⟩ rfl rfl hl.1 rfl (lv_room (Nat.le_of_ble_eq_true rfl)) dL_change_327 ⟨Nat.zero_le _, Nat.zero_le _⟩) hS (fun q _ h => hFc q h) hFc (fun z_327 x_327 t H1 locs ht hvm hw hB hz1 hk1 hS => ?_)
      obtain ⟨hw, hO_327⟩ := hw
      subst hw
      obtain ⟨hP1, hD1⟩ := hB
      rw [ht] at hP1
      have hP := hP1
      have hD := hD1.weaken (fun k q _ h => hFc q.1 h)
      generalize H1 = H at hP hS ⊢
      have hF : some (r_327, u_327) = some (r, o_g0) := hF
      cases hF
      subst hQ
      subst hAe
      exact W.iret hx hb hr (fun t ht hW => ⟨⟨_, x_327, rfl, ⟨rfl, hO_327⟩, ⟨by rw [ht]; exact hP, hD⟩⟩, hS.F ht⟩) hS.2.2 dL_change_330
    · have hF := (if_pos c_302).symm.trans hF
      refine lv_aload_n hx hb dL_change_305 rfl (lv_at hl 2 rfl) ?_
      refine lv_iload_n hx hb dL_change_306 rfl (lv_at hl 4 rfl) ?_
      refine lv_iconst (v := (1 : Int32)) hx hb dL_change_307 (by decide) ?_
      refine lv_ishr hx hb dL_change_308 ?_
      refine lv_iconst (v := (2 : Int32)) hx hb dL_change_309 (by decide) ?_
      obtain ⟨q_310, hq_310, hF⟩ := bindE hF
      have hPc := hP.sub (ws' := []) [] rfl
      refine vp_callSi (va_Run.run (va_runS (As := [.int (p2 >>> ((1 : Int32) &&& 31)), .int (2 : Int32)]) (rest := [.ref o0]) ⟨hx, hb, hml, hown, hts⟩ (c_L_low l dC dI cI cZ cO (p2 >>> ((1 : Int32) &&& 31)) (2 : Int32) q_310 hq_310) (cwS 2 hts gL_change_L_low rfl rfl rfl (by decide +kernel) ⟨Nat.le_of_ble_eq_true rfl, Nat.le_of_ble_eq_true rfl⟩) ⟨fb_rd, pre_rd hPc hK hN⟩ rfl rfl hl.1 rfl (lv_room (Nat.le_of_ble_eq_true rfl)) dL_change_310 ⟨Nat.zero_le _, Nat.zero_le _⟩)) (fun z_310 hz_310 => ?_)
      subst hz_310
      obtain ⟨q_313, hq_313, hF⟩ := bindE hF
      obtain ⟨r_313, u_313⟩ := q_313
      have hPc := hP
      have hDc := hD
      have hFc := va_free2 hDc hS hA
      obtain ⟨vs_313, hv_313⟩ := OB_recv hO0
      refine va_calli (va_runV (As := [.int q_310]) (rest := []) ⟨hx, hb, hml, hown, hts⟩ (o_keep l dC dI cI cZ cO o0 H.size w0 v_g0 q_310 r_313 u_313 hO0 hq_313) (cwV 1 hts gL_change_X3_keep rfl rfl rfl (by decide +kernel) ⟨Nat.le_of_ble_eq_true rfl, Nat.le_of_ble_eq_true rfl⟩) ⟨fb_wr, va_recv hK hPc (ci := 3) (q0 := 0) rfl hv_313, pre_wr hPc hK hN hDc⟩ rfl rfl hl.1 rfl (lv_room (Nat.le_of_ble_eq_true rfl)) dL_change_313 ⟨Nat.zero_le _, Nat.zero_le _⟩) hS (fun q _ h => hFc q h) hFc (fun z_313 x_313 t H1 locs ht hvm hw hB hz1 hk1 hS => ?_)
      obtain ⟨hw, hO_313⟩ := hw
      subst hw
      obtain ⟨hP1, hD1⟩ := hB
      rw [ht] at hP1
      have hP := hP1
      have hD := hD1.weaken (fun k q _ h => hFc q.1 h)
      generalize H1 = H at hP hS ⊢
      refine lv_goto (tgt := 330) hx hb dL_change_316 (by decide) ?_
      have hF : some (r_313, u_313) = some (r, o_g0) := hF
      cases hF
      subst hQ
      subst hAe
      exact W.iret hx hb hr (fun t ht hW => ⟨⟨_, x_313, rfl, ⟨rfl, hO_313⟩, ⟨by rw [ht]; exact hP, hD⟩⟩, hS.F ht⟩) hS.2.2 dL_change_330
  have hF := (if_neg c_19_9).symm.trans hF
  by_cases c_19_10 : q_16 = (10 : Int32)
  · have hF := (if_pos c_19_10).symm.trans hF
    refine lv_tableIn (tgt := 331) (off := 312) hx hb dL_change_19 (by rw [c_19_10]; decide) (by rw [c_19_10]; decide) (by rw [c_19_10]; rfl) (by decide) ?_
    refine lv_aload_n hx hb dL_change_331 rfl (lv_at hl 2 rfl) ?_
    refine lv_bipush (v := (97 : Int32)) hx hb dL_change_332 (by decide) ?_
    refine lv_iload_n hx hb dL_change_334 rfl (lv_at hl 4 rfl) ?_
    refine lv_bipush (v := (6 : Int32)) hx hb dL_change_335 (by decide) ?_
    obtain ⟨q_337, hq_337, hF⟩ := bindE hF
    have hPc := hP.sub (ws' := []) [] rfl
    refine vp_callSi (va_Run.run (va_runS (As := [.int p2, .int (6 : Int32)]) (rest := [.int (97 : Int32), .ref o0]) ⟨hx, hb, hml, hown, hts⟩ (c_L_low l dC dI cI cZ cO p2 (6 : Int32) q_337 hq_337) (cwS 2 hts gL_change_L_low rfl rfl rfl (by decide +kernel) ⟨Nat.le_of_ble_eq_true rfl, Nat.le_of_ble_eq_true rfl⟩) ⟨fb_rd, pre_rd hPc hK hN⟩ rfl rfl hl.1 rfl (lv_room (Nat.le_of_ble_eq_true rfl)) dL_change_337 ⟨Nat.zero_le _, Nat.zero_le _⟩)) (fun z_337 hz_337 => ?_)
    subst hz_337
    refine lv_iadd hx hb dL_change_340 ?_
    obtain ⟨q_341, hq_341, hF⟩ := bindE hF
    obtain ⟨r_341, u_341⟩ := q_341
    have hPc := hP
    have hDc := hD
    have hFc := va_free2 hDc hS hA
    obtain ⟨vs_341, hv_341⟩ := OB_recv hO0
    refine va_calli (va_runV (As := [.int ((97 : Int32) + q_337)]) (rest := []) ⟨hx, hb, hml, hown, hts⟩ (o_hear l dC dI cI cZ cO o0 H.size w0 v_g0 ((97 : Int32) + q_337) r_341 u_341 hO0 hq_341) (cwV 1 hts gL_change_X3_hear rfl rfl rfl (by decide +kernel) ⟨Nat.le_of_ble_eq_true rfl, Nat.le_of_ble_eq_true rfl⟩) ⟨fb_wr, va_recv hK hPc (ci := 3) (q0 := 0) rfl hv_341, pre_wr hPc hK hN hDc⟩ rfl rfl hl.1 rfl (lv_room (Nat.le_of_ble_eq_true rfl)) dL_change_341 ⟨Nat.zero_le _, Nat.zero_le _⟩) hS (fun q _ h => hFc q h) hFc (fun z_341 x_341 t H1 locs ht hvm hw hB hz1 hk1 hS => ?_)
    obtain ⟨hw, hO_341⟩ := hw
    subst hw
    obtain ⟨hP1, hD1⟩ := hB
    rw [ht] at hP1
    have hP := hP1
    have hD := hD1.weaken (fun k q _ h => hFc q.1 h)
    generalize H1 = H at hP hS ⊢
    have hF : some (r_341, u_341) = some (r, o_g0) := hF
    cases hF
    subst hQ
    subst hAe
    exact W.iret hx hb hr (fun t ht hW => ⟨⟨_, x_341, rfl, ⟨rfl, hO_341⟩, ⟨by rw [ht]; exact hP, hD⟩⟩, hS.F ht⟩) hS.2.2 dL_change_344
  have hF := (if_neg c_19_10).symm.trans hF
  by_cases c_19_11 : q_16 = (11 : Int32)
  · have hF := (if_pos c_19_11).symm.trans hF
    refine lv_tableIn (tgt := 345) (off := 326) hx hb dL_change_19 (by rw [c_19_11]; decide) (by rw [c_19_11]; decide) (by rw [c_19_11]; rfl) (by decide) ?_
    exact B345 p2 v_g0 hF _ hO0 _ _ hH hP hD hS _ (lv_sub hl [2, 4] rfl)
  have hF := (if_neg c_19_11).symm.trans hF
  by_cases c_19_12 : q_16 = (12 : Int32)
  · have hF := (if_pos c_19_12).symm.trans hF
    refine lv_tableIn (tgt := 345) (off := 326) hx hb dL_change_19 (by rw [c_19_12]; decide) (by rw [c_19_12]; decide) (by rw [c_19_12]; rfl) (by decide) ?_
    exact B345 p2 v_g0 hF _ hO0 _ _ hH hP hD hS _ (lv_sub hl [2, 4] rfl)
  have hF := (if_neg c_19_12).symm.trans hF
  by_cases c_19_13 : q_16 = (13 : Int32)
  · have hF := (if_pos c_19_13).symm.trans hF
    refine lv_tableIn (tgt := 345) (off := 326) hx hb dL_change_19 (by rw [c_19_13]; decide) (by rw [c_19_13]; decide) (by rw [c_19_13]; rfl) (by decide) ?_
    exact B345 p2 v_g0 hF _ hO0 _ _ hH hP hD hS _ (lv_sub hl [2, 4] rfl)
  have hF := (if_neg c_19_13).symm.trans hF
  by_cases c_19_14 : q_16 = (14 : Int32)
  · have hF := (if_pos c_19_14).symm.trans hF
    refine lv_tableIn (tgt := 345) (off := 326) hx hb dL_change_19 (by rw [c_19_14]; decide) (by rw [c_19_14]; decide) (by rw [c_19_14]; rfl) (by decide) ?_
    exact B345 p2 v_g0 hF _ hO0 _ _ hH hP hD hS _ (lv_sub hl [2, 4] rfl)
  have hF := (if_neg c_19_14).symm.trans hF
  refine lv_tableOut (tgt := 373) hx hb dL_change_19 (tsOut (by decide) (by decide) (by
      intro k h1 h2; rcases (show k = 0 ∨ k = 1 ∨ k = 2 ∨ k = 3 ∨ k = 4 ∨ k = 5 ∨ k = 6 ∨ k = 7 ∨ k = 8 ∨ k = 9 ∨ k = 10 ∨ k = 11 ∨ k = 12 ∨ k = 13 ∨ k = 14 by omega) with rfl | rfl | rfl | rfl | rfl | rfl | rfl | rfl | rfl | rfl | rfl | rfl | rfl | rfl | rfl
      · exact c_19_0
      · exact c_19_1
      · exact c_19_2
      · exact c_19_3
      · exact c_19_4
      · exact c_19_5
      · exact c_19_6
      · exact c_19_7
      · exact c_19_8
      · exact c_19_9
      · exact c_19_10
      · exact c_19_11
      · exact c_19_12
      · exact c_19_13
      · exact c_19_14
      )) (by decide) ?_
  refine lv_aload_n hx hb dL_change_373 rfl (lv_at hl 2 rfl) ?_
  refine lv_iload hx hb dL_change_374 (lv_at hl 0 rfl) ?_
  refine lv_iload_n hx hb dL_change_376 rfl (lv_at hl 1 rfl) ?_
  refine lv_icmp_ge (tgt := 390) hx hb dL_change_377 (by decide) (fun c_377 => ?_) (fun c_377 => ?_)
  · have hF := (if_pos c_377).symm.trans hF
    refine lv_bipush (v := (97 : Int32)) hx hb dL_change_390 (by decide) ?_
    exact B392 (97 : Int32) v_g0 hF _ hO0 _ _ hH hP hD hS _ (lv_sub hl [2] rfl)
  · have hF := (if_neg c_377).symm.trans hF
    refine lv_aload_n hx hb dL_change_380 rfl (lv_at hl 2 rfl) ?_
    refine lv_iload hx hb dL_change_381 (lv_at hl 0 rfl) ?_
    refine lv_iconst (v := (0 : Int32)) hx hb dL_change_383 (by decide) ?_
    obtain ⟨q_384, hq_384, hF⟩ := bindE hF
    have hPc := hP
    obtain ⟨vs_384, hv_384⟩ := OB_recv hO0
    refine vp_callSi (va_Run.run (va_runV (As := [.int q_8, .int (0 : Int32)]) (rest := [.ref o0]) ⟨hx, hb, hml, hown, hts⟩ (o_word l dC dI cI cZ cO o0 w0 v_g0 q_8 (0 : Int32) q_384 hO0 hq_384) (cwV 2 hts gL_change_X3_word rfl rfl rfl (by decide +kernel) ⟨Nat.le_of_ble_eq_true rfl, Nat.le_of_ble_eq_true rfl⟩) ⟨fb_rd, va_recv hK hPc (ci := 3) (q0 := 0) rfl hv_384, pre_rd hPc hK hN⟩ rfl rfl hl.1 rfl (lv_room (Nat.le_of_ble_eq_true rfl)) dL_change_384 ⟨Nat.zero_le _, Nat.zero_le _⟩)) (fun z_384 hz_384 => ?_)
    subst hz_384
    refine lv_goto (tgt := 392) hx hb dL_change_387 (by decide) ?_
    exact B392 q_384 v_g0 hF _ hO0 _ _ hH hP hD hS _ (lv_sub hl [2] rfl)
