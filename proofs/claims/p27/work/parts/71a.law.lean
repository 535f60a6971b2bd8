/-! the law's methods: what their walks stand on -/
def g_undoX (_ : GS) : Option (Int32 × GS) := none
theorem undo_some {g : GS} {q : Int32 × GS} (h : g_undo g = some q) : ∃ w0, gT g = some w0 ∧ q = (0, gW g w0 (gM g) none) := by
  unfold g_undo at h
  cases e : gT g with
  | none => rw [e] at h; cases h
  | some w0 => rw [e] at h; cases h; exact ⟨w0, rfl, rfl⟩
theorem STW_moved {tL tM : Nat} {s U : State} (h : STW tL tM s) (hU : U.heap = s.heap) (hW : s.WarmedH U.vm) : STW tL tM U := by
  unfold STW stT
  rw [hU]
  exact ⟨⟨h.1.1.moved hW.alike, h.1.2.moved hW.alike⟩, ⟨h.2.1.moved hW.alike, h.2.2.moved hW.alike⟩⟩
theorem pre_st {dC : Nat → ClassId} {dI : Nat → Nat → Nat} {cI cZ cO : ClassId} {ws : va_W} {A : Nat → Prop} {H : Heap} {s : State} {tL tM : Nat} (hP : va_P (dC, dI) vwCl ws H) (hK : va_K (dC, dI) vwCl (tyA cI cZ cO) s) (hN : NW s) (hD : va_D A ws) (hST : STW tL tM s) (hH : H = s.heap) {av : List Value} : ∀ U : State, U.heap = H → s.WarmedH U.vm → va_Pc av (fun U => wrW dC dI cI cZ cO H.size ws U ∧ STW tL tM U) av.toArray U := fun U hU hW => ⟨rfl, ⟨by rw [hU], by rw [hU]; exact hP, va_K.moved hW.alike hK, hN.warm hW, hD.weaken (fun _ _ _ _ => trivial)⟩, STW_moved hST (by rw [hU, hH]) hW⟩
def f_L_low (p0 : Int32) (p1 : Int32) : Option Int32 :=
  if p1 = (0 : Int32) then none else
  some ((p0 &&& (2147483647 : Int32)) - (p0 &&& (2147483647 : Int32)) / p1 * p1)
def rm_L_low : Room := { frames := 0, cells := 0, slots := 0, locals := 0 }
set_option maxHeartbeats 4000000 in
set_option maxRecDepth 100000 in
theorem c_L_low (l : Launch) (dC : Nat → ClassId) (dI : Nat → Nat → Nat) (cI cZ cO : ClassId) (p0 : Int32) (p1 : Int32) (r : Int32) (hF : f_L_low p0 p1 = some r) : Met l yL_low wsL_low rm_L_low (va_Pc [.int p0, .int p1] (rdW dC dI cI cZ cO [])) (vp_Si (fun q => r = q)) 0 0 (fun _ => False) := by
  refine Met.ofW (cc := cL_low) (maxL := 2) (ret := (some .int)) (by decide) rfl ?_
  intro p e s m args below meth c s₁ B hml hv
  obtain ⟨rfl, hP, hK, hN⟩ := hv
  have hx := B.exec
  have hb := B.bytes
  have hr := B.returns
  have hts := atoms_spec (ws := wsL_low) B.pre
  have hown : s.vm.findClass RL = some m.cls := findClass_of_methodNamed B.named
  have hlocks := B.notSynchronized
  obtain ⟨Q, hQ⟩ : ∃ Q, Q = MQ below (vp_Si (fun q => r = q)) ([.int p0, .int p1] : List Value).toArray s 0 0 (fun _ => False) := ⟨_, rfl⟩
  rw [← hQ]
  have hS : va_S (fun _ => False) s.heap s.heap [] := va_S.rf
  have cn8 := hts (.constant RL 8 (2147483647)) (by decide +kernel)
  have hl := lv_entry ([.int p0, .int p1]) (n := 2) (Nat.le_of_ble_eq_true rfl)
  rw [lg_entry_eq]
  generalize (lg_sl ([.int p0, .int p1]) ++ List.replicate (2 - (lg_sl ([.int p0, .int p1])).length) Slot.unset).toArray = ls at hl ⊢
  have hl : lv_has ls 2 [(0, .int p0), (1, .int p1)] := hl
  unfold f_L_low at hF
  refine lv_iload_n hx hb dL_low_0 rfl (lv_at hl 0 rfl) ?_
  refine lv_ldc hx hb hown cn8 dL_low_1 ?_
  refine lv_iand hx hb dL_low_3 ?_
  refine lv_iload_n hx hb dL_low_4 rfl (lv_at hl 1 rfl) ?_
  by_cases b_5 : (p1 = (0 : Int32))
  · exact noneE ((if_pos b_5).symm.trans hF)
  have hF := (if_neg b_5).symm.trans hF
  refine lv_irem hx hb dL_low_5 b_5 ?_
  have hF : some ((p0 &&& (2147483647 : Int32)) - (p0 &&& (2147483647 : Int32)) / p1 * p1) = some r := hF
  cases hF
  subst hQ
  exact W.iret hx hb hr (fun t ht hW => ⟨_, rfl, rfl, ht⟩) (fun q hq => absurd hq List.not_mem_nil) dL_low_6
def f_L_load_78 (k18 : Int32 → GS → Option (Int32 × GS)) (x2 : Int32) (x4 : Int32) (x5 : Int32) (s0 : Int32) (v_g0 : GS) : Option (Int32 × GS) :=
  if x4 ≤ (x5 + (1 : Int32)) then
      k18 (x5 + 1) v_g0
    else
      (f_L_low (x2 >>> ((x5 - x5 / (17 : Int32) * (17 : Int32)) &&& 31)) (13 : Int32)).bind fun q97 =>
      if q97 = (0 : Int32) then
        (g_write (124 : Int32) v_g0).bind fun q106 =>
        k18 (x5 + 1) q106.2
      else
        k18 (x5 + 1) v_g0
def f_L_load_18 (x1 : Int32) (x2 : Int32) (x4 : Int32) : Nat → Int32 → GS → Option (Int32 × GS)
  | 0, _, _ => none
  | n + 1, x5, v_g0 =>
    if x4 ≤ x5 then
      (g_load v_g0).bind fun q121 =>
      some (q121.1, q121.2)
    else
      (f_L_low (x1 >>> ((8 : Int32) &&& 31)) (4 : Int32)).bind fun q41 =>
      (f_L_low (x2 >>> ((x5 - x5 / (23 : Int32) * (23 : Int32)) &&& 31)) ((2 : Int32) + q41)).bind fun q45 =>
      (g_write ((97 : Int32) + q45) v_g0).bind fun q49 =>
      (f_L_low (x1 >>> ((x5 - x5 / (19 : Int32) * (19 : Int32)) &&& 31)) (11 : Int32)).bind fun q62 =>
      if q62 = (0 : Int32) then
        (g_write (47 : Int32) q49.2).bind fun q71 =>
        f_L_load_78 (f_L_load_18 x1 x2 x4 n) x2 x4 x5 q71.1 q71.2
      else
        f_L_load_78 (f_L_load_18 x1 x2 x4 n) x2 x4 x5 q49.1 q49.2
def f_L_load (p1 : Int32) (p2 : Int32) (v_g0 : GS) : Option (Int32 × GS) :=
  (g_wipe v_g0).bind fun q1 =>
  (f_L_low p1 (90 : Int32)).bind fun q9 =>
  f_L_load_18 p1 p2 ((1 : Int32) + q9) gas (0 : Int32) q1.2
def rm_L_load : Room := { frames := 6, cells := 0, slots := 0, locals := 151 }
set_option maxHeartbeats 4000000 in
set_option maxRecDepth 100000 in
theorem c_L_load (l : Launch) (dC : Nat → ClassId) (dI : Nat → Nat → Nat) (cI cZ cO : ClassId) (o0 : Nat) (sz : Nat) (w0 : va_W) (v_g0 : GS) (p1 : Int32) (p2 : Int32) (r : Int32) (o_g0 : GS) (hO0 : OB cI cZ cO o0 v_g0 w0) (hF : f_L_load p1 p2 v_g0 = some (r, o_g0)) : Met l yL_load wsL_load rm_L_load (va_Pc [.ref o0, .int p1, .int p2] (wrW dC dI cI cZ cO sz w0)) (va_Qi (fun (q : Int32) (u : va_W) => r = q ∧ OB cI cZ cO o0 o_g0 u) (fun u t => va_P (dC, dI) vwCl u t.heap ∧ va_D (va_A w0 sz) u) (va_A w0 sz)) 0 0 (va_A w0 sz) := by
  refine Met.ofW (cc := cL_load) (maxL := 6) (ret := (some .int)) (by decide) rfl ?_
  intro p e s m args below meth c s₁ B hml hv
  obtain ⟨rfl, hsz, hP, hK, hN, hD0⟩ := hv
  have hx := B.exec
  have hb := B.bytes
  have hr := B.returns
  have hts := atoms_spec (ws := wsL_load) B.pre
  have hown : s.vm.findClass RL = some m.cls := findClass_of_methodNamed B.named
  have hlocks := B.notSynchronized
  subst hsz
  have hD := hD0.self (sz := s.heap.size)
  obtain ⟨Q, hQ⟩ : ∃ Q, Q = MQ below (va_Qi (fun (q : Int32) (u : va_W) => r = q ∧ OB cI cZ cO o0 o_g0 u) (fun u t => va_P (dC, dI) vwCl u t.heap ∧ va_D (va_A w0 s.heap.size) u) (va_A w0 s.heap.size)) ([.ref o0, .int p1, .int p2] : List Value).toArray s 0 0 (va_A w0 s.heap.size) := ⟨_, rfl⟩
  rw [← hQ]
  obtain ⟨A, hAe⟩ : ∃ A, A = va_A w0 s.heap.size := ⟨_, rfl⟩
  rw [← hAe] at hD
  have hA : ∀ q : Nat, s.heap.size ≤ q → A q := fun q h => by rw [hAe]; exact Or.inr h
  obtain ⟨H, hH⟩ : ∃ H, H = s.heap := ⟨_, rfl⟩
  have hS : va_S A s.heap H [] := by rw [hH]; exact va_S.rf
  rw [← hH] at hP
  rw [← hH]
  have hl := lv_entry ([.ref o0, .int p1, .int p2]) (n := 6) (Nat.le_of_ble_eq_true rfl)
  rw [lg_entry_eq]
  generalize (lg_sl ([.ref o0, .int p1, .int p2]) ++ List.replicate (6 - (lg_sl ([.ref o0, .int p1, .int p2])).length) Slot.unset).toArray = ls at hl ⊢
  have hl : lv_has ls 6 [(0, .ref o0), (1, .int p1), (2, .int p2)] := hl
  have B18 : ∀ (n_18 : Nat) (x1_18 : Int32) (x2_18 : Int32) (x4_18 : Int32) (x5_18 : Int32) (v_g0_18 : GS), f_L_load_18 x1_18 x2_18 x4_18 n_18 x5_18 v_g0_18 = some (r, o_g0) → ∀ (w0_18 : va_W), OB cI cZ cO o0 v_g0_18 w0_18 → ∀ (H : Heap) (locs : List Loc), va_P (dC, dI) vwCl w0_18 H → va_D A w0_18 → va_S A s.heap H locs → ∀ ls : Array Slot, lv_has ls 6 [(0, .ref o0), (1, .int x1_18), (2, .int x2_18), (4, .int x4_18), (5, .int x5_18)] → W p l e (headSpec wsL_load rm_L_load).room s m ([.ref o0, .int p1, .int p2] : List Value).toArray below meth c H locs 0 0 Q (F0 m 18 ls []) := by
    intro n_18
    induction n_18 with
    | zero => intro x1_18 x2_18 x4_18 x5_18 v_g0_18 hF; exact noneE hF
    | succ n_18 ih18 =>
      intro x1_18 x2_18 x4_18 x5_18 v_g0_18 hF w0_18 hO0_18 H locs hP hD hS ls hl
      have B78 : ∀ (x5_78 : Int32) (s0_78 : Int32) (v_g0_78 : GS), f_L_load_78 (f_L_load_18 x1_18 x2_18 x4_18 n_18) x2_18 x4_18 x5_78 s0_78 v_g0_78 = some (r, o_g0) → ∀ (w0_78 : va_W), OB cI cZ cO o0 v_g0_78 w0_78 → ∀ (H : Heap) (locs : List Loc), va_P (dC, dI) vwCl w0_78 H → va_D A w0_78 → va_S A s.heap H locs → ∀ ls : Array Slot, lv_has ls 6 [(0, .ref o0), (1, .int x1_18), (2, .int x2_18), (4, .int x4_18), (5, .int x5_78)] → W p l e (headSpec wsL_load rm_L_load).room s m ([.ref o0, .int p1, .int p2] : List Value).toArray below meth c H locs 0 0 Q (F0 m 78 ls [.int s0_78]) := by
        intro x5_78 s0_78 v_g0_78 hF w0_78 hO0_78 H locs hP hD hS ls hl
        unfold f_L_load_78 at hF
        refine lv_istore_n (lv' := [(3, .int s0_78), (0, .ref o0), (1, .int x1_18), (2, .int x2_18), (4, .int x4_18), (5, .int x5_78)]) hx hb dL_load_78 rfl hl (by decide) rfl (fun ls hl => ?_)
        refine lv_iload hx hb dL_load_79 (lv_at hl 5 rfl) ?_
        refine lv_iconst (v := (1 : Int32)) hx hb dL_load_81 (by decide) ?_
        refine lv_iadd hx hb dL_load_82 ?_
        refine lv_iload hx hb dL_load_83 (lv_at hl 4 rfl) ?_
        refine lv_icmp_ge (tgt := 112) hx hb dL_load_85 (by decide) (fun c_85 => ?_) (fun c_85 => ?_)
        · have hF := (if_pos c_85).symm.trans hF
          refine lv_iload_n hx hb dL_load_112 rfl (lv_at hl 0 rfl) ?_
          refine lv_istore_n (lv' := [(3, .int s0_78), (0, .ref o0), (1, .int x1_18), (2, .int x2_18), (4, .int x4_18), (5, .int x5_78)]) hx hb dL_load_113 rfl hl (by decide) rfl (fun ls hl => ?_)
          refine lv_iinc (v := (x5_78 + 1)) (lv' := [(5, .int (x5_78 + 1)), (3, .int s0_78), (0, .ref o0), (1, .int x1_18), (2, .int x2_18), (4, .int x4_18)]) hx hb dL_load_114 hl (k := 5) rfl rfl (by decide) rfl (fun ls hl => ?_)
          refine lv_goto (tgt := 18) hx hb dL_load_117 (by decide) ?_
          exact ih18 x1_18 x2_18 x4_18 (x5_78 + 1) v_g0_78 hF _ hO0_78 _ _ hP hD hS _ (lv_sub hl [2, 3, 4, 5, 0] rfl)
        · have hF := (if_neg c_85).symm.trans hF
          refine lv_iload_n hx hb dL_load_88 rfl (lv_at hl 3 rfl) ?_
          refine lv_iload hx hb dL_load_89 (lv_at hl 5 rfl) ?_
          refine lv_bipush (v := (17 : Int32)) hx hb dL_load_91 (by decide) ?_
          refine lv_irem hx hb dL_load_93 (by decide) ?_
          refine lv_ishr hx hb dL_load_94 ?_
          refine lv_bipush (v := (13 : Int32)) hx hb dL_load_95 (by decide) ?_
          obtain ⟨q_97, hq_97, hF⟩ := bindE hF
          have hPc := hP.sub (ws' := []) [] rfl
          refine vp_callSi (va_Run.run (va_runS (As := [.int (x2_18 >>> ((x5_78 - x5_78 / (17 : Int32) * (17 : Int32)) &&& 31)), .int (13 : Int32)]) (rest := []) ⟨hx, hb, hml, hown, hts⟩ (c_L_low l dC dI cI cZ cO (x2_18 >>> ((x5_78 - x5_78 / (17 : Int32) * (17 : Int32)) &&& 31)) (13 : Int32) q_97 hq_97) (cwS 2 hts gL_load_L_low rfl rfl rfl (by decide +kernel) ⟨Nat.le_of_ble_eq_true rfl, Nat.le_of_ble_eq_true rfl⟩) ⟨fb_rd, pre_rd hPc hK hN⟩ rfl rfl hl.1 rfl (lv_room (Nat.le_of_ble_eq_true rfl)) dL_load_97 ⟨Nat.zero_le _, Nat.zero_le _⟩)) (fun z_97 hz_97 => ?_)
          subst hz_97
          refine lv_if_ne (tgt := 112) hx hb dL_load_100 (by decide) (fun c_100 => ?_) (fun c_100 => ?_)
          · have hF := (if_neg c_100).symm.trans hF
            refine lv_iload_n hx hb dL_load_112 rfl (lv_at hl 0 rfl) ?_
            refine lv_istore_n (lv' := [(3, .int s0_78), (0, .ref o0), (1, .int x1_18), (2, .int x2_18), (4, .int x4_18), (5, .int x5_78)]) hx hb dL_load_113 rfl hl (by decide) rfl (fun ls hl => ?_)
            refine lv_iinc (v := (x5_78 + 1)) (lv' := [(5, .int (x5_78 + 1)), (3, .int s0_78), (0, .ref o0), (1, .int x1_18), (2, .int x2_18), (4, .int x4_18)]) hx hb dL_load_114 hl (k := 5) rfl rfl (by decide) rfl (fun ls hl => ?_)
            refine lv_goto (tgt := 18) hx hb dL_load_117 (by decide) ?_
            exact ih18 x1_18 x2_18 x4_18 (x5_78 + 1) v_g0_78 hF _ hO0_78 _ _ hP hD hS _ (lv_sub hl [2, 3, 4, 5, 0] rfl)
          · have hF := (if_pos c_100).symm.trans hF
            refine lv_aload_n hx hb dL_load_103 rfl (lv_at hl 1 rfl) ?_
            refine lv_bipush (v := (124 : Int32)) hx hb dL_load_104 (by decide) ?_
            obtain ⟨q_106, hq_106, hF⟩ := bindE hF
            obtain ⟨r_106, u_106⟩ := q_106
            have hPc := hP
            have hDc := hD
            have hFc := va_free2 hDc hS hA
            obtain ⟨vs_106, hv_106⟩ := OB_recv hO0_78
            refine va_calli (va_runV (As := [.int (124 : Int32)]) (rest := []) ⟨hx, hb, hml, hown, hts⟩ (o_write l dC dI cI cZ cO o0 H.size w0_78 v_g0_78 (124 : Int32) r_106 u_106 hO0_78 hq_106) (cwV 1 hts gL_load_X3_write rfl rfl rfl (by decide +kernel) ⟨Nat.le_of_ble_eq_true rfl, Nat.le_of_ble_eq_true rfl⟩) ⟨fb_wr, va_recv hK hPc (ci := 3) (q0 := 0) rfl hv_106, pre_wr hPc hK hN hDc⟩ rfl rfl hl.1 rfl (lv_room (Nat.le_of_ble_eq_true rfl)) dL_load_106 ⟨Nat.zero_le _, Nat.zero_le _⟩) hS (fun q _ h => hFc q h) hFc (fun z_106 x_106 t H1 locs ht hvm hw hB hz1 hk1 hS => ?_)
            obtain ⟨hw, hO_106⟩ := hw
            subst hw
            obtain ⟨hP1, hD1⟩ := hB
            rw [ht] at hP1
            have hP := hP1
            have hD := hD1.weaken (fun k q _ h => hFc q.1 h)
            generalize H1 = H at hP hS ⊢
            refine lv_goto (tgt := 113) hx hb dL_load_109 (by decide) ?_
            refine lv_istore_n (lv' := [(3, .int r_106), (0, .ref o0), (1, .int x1_18), (2, .int x2_18), (4, .int x4_18), (5, .int x5_78)]) hx hb dL_load_113 rfl hl (by decide) rfl (fun ls hl => ?_)
            refine lv_iinc (v := (x5_78 + 1)) (lv' := [(5, .int (x5_78 + 1)), (3, .int r_106), (0, .ref o0), (1, .int x1_18), (2, .int x2_18), (4, .int x4_18)]) hx hb dL_load_114 hl (k := 5) rfl rfl (by decide) rfl (fun ls hl => ?_)
            refine lv_goto (tgt := 18) hx hb dL_load_117 (by decide) ?_
            exact ih18 x1_18 x2_18 x4_18 (x5_78 + 1) u_106 hF _ hO_106 _ _ hP hD hS _ (lv_sub hl [2, 3, 4, 5, 0] rfl)
      rw [f_L_load_18] at hF
      refine lv_iload hx hb dL_load_18 (lv_at hl 4 rfl) ?_
      refine lv_iload hx hb dL_load_20 (lv_at hl 3 rfl) ?_
      refine lv_icmp_ge (tgt := 120) hx hb dL_load_22 (by decide) (fun c_22 => ?_) (fun c_22 => ?_)
      · have hF := (if_pos c_22).symm.trans hF
        refine lv_aload_n hx hb dL_load_120 rfl (lv_at hl 0 rfl) ?_
        obtain ⟨q_121, hq_121, hF⟩ := bindE hF
        obtain ⟨r_121, u_121⟩ := q_121
        have hPc := hP
        have hDc := hD
        have hFc := va_free2 hDc hS hA
        obtain ⟨vs_121, hv_121⟩ := OB_recv hO0_18
        refine va_calli (va_runV (As := []) (rest := []) ⟨hx, hb, hml, hown, hts⟩ (o_load l dC dI cI cZ cO o0 H.size w0_18 v_g0_18 r_121 u_121 hO0_18 hq_121) (cwV 0 hts gL_load_X3_load rfl rfl rfl (by decide +kernel) ⟨Nat.le_of_ble_eq_true rfl, Nat.le_of_ble_eq_true rfl⟩) ⟨fb_wr, va_recv hK hPc (ci := 3) (q0 := 0) rfl hv_121, pre_wr hPc hK hN hDc⟩ rfl rfl hl.1 rfl (lv_room (Nat.le_of_ble_eq_true rfl)) dL_load_121 ⟨Nat.zero_le _, Nat.zero_le _⟩) hS (fun q _ h => hFc q h) hFc (fun z_121 x_121 t H1 locs ht hvm hw hB hz1 hk1 hS => ?_)
        obtain ⟨hw, hO_121⟩ := hw
        subst hw
        obtain ⟨hP1, hD1⟩ := hB
        rw [ht] at hP1
        have hP := hP1
        have hD := hD1.weaken (fun k q _ h => hFc q.1 h)
        generalize H1 = H at hP hS ⊢
        have hF : some (r_121, u_121) = some (r, o_g0) := hF
        cases hF
        subst hQ
        subst hAe
        exact W.iret hx hb hr (fun t ht hW => ⟨⟨_, x_121, rfl, ⟨rfl, hO_121⟩, ⟨by rw [ht]; exact hP, hD⟩⟩, hS.F ht⟩) hS.2.2 dL_load_124
      · have hF := (if_neg c_22).symm.trans hF
        refine lv_aload_n hx hb dL_load_25 rfl (lv_at hl 0 rfl) ?_
        refine lv_bipush (v := (97 : Int32)) hx hb dL_load_26 (by decide) ?_
        refine lv_iload_n hx hb dL_load_28 rfl (lv_at hl 2 rfl) ?_
        refine lv_iload hx hb dL_load_29 (lv_at hl 4 rfl) ?_
        refine lv_bipush (v := (23 : Int32)) hx hb dL_load_31 (by decide) ?_
        refine lv_irem hx hb dL_load_33 (by decide) ?_
        refine lv_ishr hx hb dL_load_34 ?_
        refine lv_iconst (v := (2 : Int32)) hx hb dL_load_35 (by decide) ?_
        refine lv_iload_n hx hb dL_load_36 rfl (lv_at hl 1 rfl) ?_
        refine lv_bipush (v := (8 : Int32)) hx hb dL_load_37 (by decide) ?_
        refine lv_ishr hx hb dL_load_39 ?_
        refine lv_iconst (v := (4 : Int32)) hx hb dL_load_40 (by decide) ?_
        obtain ⟨q_41, hq_41, hF⟩ := bindE hF
        have hPc := hP.sub (ws' := []) [] rfl
        refine vp_callSi (va_Run.run (va_runS (As := [.int (x1_18 >>> ((8 : Int32) &&& 31)), .int (4 : Int32)]) (rest := [.int (2 : Int32), .int (x2_18 >>> ((x5_18 - x5_18 / (23 : Int32) * (23 : Int32)) &&& 31)), .int (97 : Int32), .ref o0]) ⟨hx, hb, hml, hown, hts⟩ (c_L_low l dC dI cI cZ cO (x1_18 >>> ((8 : Int32) &&& 31)) (4 : Int32) q_41 hq_41) (cwS 2 hts gL_load_L_low rfl rfl rfl (by decide +kernel) ⟨Nat.le_of_ble_eq_true rfl, Nat.le_of_ble_eq_true rfl⟩) ⟨fb_rd, pre_rd hPc hK hN⟩ rfl rfl hl.1 rfl (lv_room (Nat.le_of_ble_eq_true rfl)) dL_load_41 ⟨Nat.zero_le _, Nat.zero_le _⟩)) (fun z_41 hz_41 => ?_)
        subst hz_41
        refine lv_iadd hx hb dL_load_44 ?_
        obtain ⟨q_45, hq_45, hF⟩ := bindE hF
        have hPc := hP.sub (ws' := []) [] rfl
        refine vp_callSi (va_Run.run (va_runS (As := [.int (x2_18 >>> ((x5_18 - x5_18 / (23 : Int32) * (23 : Int32)) &&& 31)), .int ((2 : Int32) + q_41)]) (rest := [.int (97 : Int32), .ref o0]) ⟨hx, hb, hml, hown, hts⟩ (c_L_low l dC dI cI cZ cO (x2_18 >>> ((x5_18 - x5_18 / (23 : Int32) * (23 : Int32)) &&& 31)) ((2 : Int32) + q_41) q_45 hq_45) (cwS 2 hts gL_load_L_low rfl rfl rfl (by decide +kernel) ⟨Nat.le_of_ble_eq_true rfl, Nat.le_of_ble_eq_true rfl⟩) ⟨fb_rd, pre_rd hPc hK hN⟩ rfl rfl hl.1 rfl (lv_room (Nat.le_of_ble_eq_true rfl)) dL_load_45 ⟨Nat.zero_le _, Nat.zero_le _⟩)) (fun z_45 hz_45 => ?_)
        subst hz_45
        refine lv_iadd hx hb dL_load_48 ?_
        obtain ⟨q_49, hq_49, hF⟩ := bindE hF
        obtain ⟨r_49, u_49⟩ := q_49
        have hPc := hP
        have hDc := hD
        have hFc := va_free2 hDc hS hA
        obtain ⟨vs_49, hv_49⟩ := OB_recv hO0_18
        refine va_calli (va_runV (As := [.int ((97 : Int32) + q_45)]) (rest := []) ⟨hx, hb, hml, hown, hts⟩ (o_write l dC dI cI cZ cO o0 H.size w0_18 v_g0_18 ((97 : Int32) + q_45) r_49 u_49 hO0_18 hq_49) (cwV 1 hts gL_load_X3_write rfl rfl rfl (by decide +kernel) ⟨Nat.le_of_ble_eq_true rfl, Nat.le_of_ble_eq_true rfl⟩) ⟨fb_wr, va_recv hK hPc (ci := 3) (q0 := 0) rfl hv_49, pre_wr hPc hK hN hDc⟩ rfl rfl hl.1 rfl (lv_room (Nat.le_of_ble_eq_true rfl)) dL_load_49 ⟨Nat.zero_le _, Nat.zero_le _⟩) hS (fun q _ h => hFc q h) hFc (fun z_49 x_49 t H1 locs ht hvm hw hB hz1 hk1 hS => ?_)
        obtain ⟨hw, hO_49⟩ := hw
        subst hw
        obtain ⟨hP1, hD1⟩ := hB
        rw [ht] at hP1
        have hP := hP1
        have hD := hD1.weaken (fun k q _ h => hFc q.1 h)
        generalize H1 = H at hP hS ⊢
        refine lv_istore_n (lv' := [(3, .int r_49), (0, .ref o0), (1, .int x1_18), (2, .int x2_18), (4, .int x4_18), (5, .int x5_18)]) hx hb dL_load_52 rfl hl (by decide) rfl (fun ls hl => ?_)
        refine lv_iload_n hx hb dL_load_53 rfl (lv_at hl 2 rfl) ?_
        refine lv_iload hx hb dL_load_54 (lv_at hl 5 rfl) ?_
        refine lv_bipush (v := (19 : Int32)) hx hb dL_load_56 (by decide) ?_
        refine lv_irem hx hb dL_load_58 (by decide) ?_
        refine lv_ishr hx hb dL_load_59 ?_
        refine lv_bipush (v := (11 : Int32)) hx hb dL_load_60 (by decide) ?_
        obtain ⟨q_62, hq_62, hF⟩ := bindE hF
        have hPc := hP.sub (ws' := []) [] rfl
        refine vp_callSi (va_Run.run (va_runS (As := [.int (x1_18 >>> ((x5_18 - x5_18 / (19 : Int32) * (19 : Int32)) &&& 31)), .int (11 : Int32)]) (rest := []) ⟨hx, hb, hml, hown, hts⟩ (c_L_low l dC dI cI cZ cO (x1_18 >>> ((x5_18 - x5_18 / (19 : Int32) * (19 : Int32)) &&& 31)) (11 : Int32) q_62 hq_62) (cwS 2 hts gL_load_L_low rfl rfl rfl (by decide +kernel) ⟨Nat.le_of_ble_eq_true rfl, Nat.le_of_ble_eq_true rfl⟩) ⟨fb_rd, pre_rd hPc hK hN⟩ rfl rfl hl.1 rfl (lv_room (Nat.le_of_ble_eq_true rfl)) dL_load_62 ⟨Nat.zero_le _, Nat.zero_le _⟩)) (fun z_62 hz_62 => ?_)
        subst hz_62
        refine lv_if_ne (tgt := 77) hx hb dL_load_65 (by decide) (fun c_65 => ?_) (fun c_65 => ?_)
        · have hF := (if_neg c_65).symm.trans hF
          refine lv_iload_n hx hb dL_load_77 rfl (lv_at hl 0 rfl) ?_
          exact B78 x5_18 r_49 u_49 hF _ hO_49 _ _ hP hD hS _ (lv_sub hl [1, 2, 3, 4, 5] rfl)
        · have hF := (if_pos c_65).symm.trans hF
          refine lv_aload_n hx hb dL_load_68 rfl (lv_at hl 1 rfl) ?_
          refine lv_bipush (v := (47 : Int32)) hx hb dL_load_69 (by decide) ?_
          obtain ⟨q_71, hq_71, hF⟩ := bindE hF
          obtain ⟨r_71, u_71⟩ := q_71
          have hPc := hP
          have hDc := hD
          have hFc := va_free2 hDc hS hA
          obtain ⟨vs_71, hv_71⟩ := OB_recv hO_49
          refine va_calli (va_runV (As := [.int (47 : Int32)]) (rest := []) ⟨hx, hb, hml, hown, hts⟩ (o_write l dC dI cI cZ cO o0 H.size x_49 u_49 (47 : Int32) r_71 u_71 hO_49 hq_71) (cwV 1 hts gL_load_X3_write rfl rfl rfl (by decide +kernel) ⟨Nat.le_of_ble_eq_true rfl, Nat.le_of_ble_eq_true rfl⟩) ⟨fb_wr, va_recv hK hPc (ci := 3) (q0 := 0) rfl hv_71, pre_wr hPc hK hN hDc⟩ rfl rfl hl.1 rfl (lv_room (Nat.le_of_ble_eq_true rfl)) dL_load_71 ⟨Nat.zero_le _, Nat.zero_le _⟩) hS (fun q _ h => hFc q h) hFc (fun z_71 x_71 t H1 locs ht hvm hw hB hz1 hk1 hS => ?_)
          obtain ⟨hw, hO_71⟩ := hw
          subst hw
          obtain ⟨hP1, hD1⟩ := hB
          rw [ht] at hP1
          have hP := hP1
          have hD := hD1.weaken (fun k q _ h => hFc q.1 h)
          generalize H1 = H at hP hS ⊢
          refine lv_goto (tgt := 78) hx hb dL_load_74 (by decide) ?_
          exact B78 x5_18 r_71 u_71 hF _ hO_71 _ _ hP hD hS _ (lv_sub hl [1, 2, 3, 4, 5] rfl)
  unfold f_L_load at hF
  refine lv_aload_n hx hb dL_load_0 rfl (lv_at hl 0 rfl) ?_
  obtain ⟨q_1, hq_1, hF⟩ := bindE hF
  obtain ⟨r_1, u_1⟩ := q_1
  have hPc := hP
  have hDc := hD
  have hFc := va_free2 hDc hS hA
  obtain ⟨vs_1, hv_1⟩ := OB_recv hO0
  refine va_calli (va_runV (As := []) (rest := []) ⟨hx, hb, hml, hown, hts⟩ (o_wipe l dC dI cI cZ cO o0 H.size w0 v_g0 r_1 u_1 hO0 hq_1) (cwV 0 hts gL_load_X3_wipe rfl rfl rfl (by decide +kernel) ⟨Nat.le_of_ble_eq_true rfl, Nat.le_of_ble_eq_true rfl⟩) ⟨fb_wr, va_recv hK hPc (ci := 3) (q0 := 0) rfl hv_1, pre_wr hPc hK hN hDc⟩ rfl rfl hl.1 rfl (lv_room (Nat.le_of_ble_eq_true rfl)) dL_load_1 ⟨Nat.zero_le _, Nat.zero_le _⟩) hS (fun q _ h => hFc q h) hFc (fun z_1 x_1 t H1 locs ht hvm hw hB hz1 hk1 hS => ?_)
  obtain ⟨hw, hO_1⟩ := hw
  subst hw
  obtain ⟨hP1, hD1⟩ := hB
  rw [ht] at hP1
  have hP := hP1
  have hD := hD1.weaken (fun k q _ h => hFc q.1 h)
  generalize H1 = H at hP hS ⊢
  refine lv_istore_n (lv' := [(3, .int r_1), (0, .ref o0), (1, .int p1), (2, .int p2)]) hx hb dL_load_4 rfl hl (by decide) rfl (fun ls hl => ?_)
  refine lv_iconst (v := (1 : Int32)) hx hb dL_load_5 (by decide) ?_
  refine lv_iload_n hx hb dL_load_6 rfl (lv_at hl 2 rfl) ?_
  refine lv_bipush (v := (90 : Int32)) hx hb dL_load_7 (by decide) ?_
  obtain ⟨q_9, hq_9, hF⟩ := bindE hF
  have hPc := hP.sub (ws' := []) [] rfl
  refine vp_callSi (va_Run.run (va_runS (As := [.int p1, .int (90 : Int32)]) (rest := [.int (1 : Int32)]) ⟨hx, hb, hml, hown, hts⟩ (c_L_low l dC dI cI cZ cO p1 (90 : Int32) q_9 hq_9) (cwS 2 hts gL_load_L_low rfl rfl rfl (by decide +kernel) ⟨Nat.le_of_ble_eq_true rfl, Nat.le_of_ble_eq_true rfl⟩) ⟨fb_rd, pre_rd hPc hK hN⟩ rfl rfl hl.1 rfl (lv_room (Nat.le_of_ble_eq_true rfl)) dL_load_9 ⟨Nat.zero_le _, Nat.zero_le _⟩)) (fun z_9 hz_9 => ?_)
  subst hz_9
  refine lv_iadd hx hb dL_load_12 ?_
  refine lv_istore (lv' := [(4, .int ((1 : Int32) + q_9)), (3, .int r_1), (0, .ref o0), (1, .int p1), (2, .int p2)]) hx hb dL_load_13 hl (by decide) rfl (fun ls hl => ?_)
  refine lv_iconst (v := (0 : Int32)) hx hb dL_load_15 (by decide) ?_
  refine lv_istore (lv' := [(5, .int (0 : Int32)), (4, .int ((1 : Int32) + q_9)), (3, .int r_1), (0, .ref o0), (1, .int p1), (2, .int p2)]) hx hb dL_load_16 hl (by decide) rfl (fun ls hl => ?_)
  exact B18 gas p1 p2 ((1 : Int32) + q_9) (0 : Int32) u_1 hF _ hO_1 _ _ hP hD hS _ (lv_sub hl [3, 4, 5, 1, 0] rfl)
