def f_X3_at (n0 : Nat) (p1 : Int32) (v_r0 : (Nat → Int32)) : Option Int32 :=
  if p1 < (0 : Int32) then
    some (0 : Int32)
  else
    if (nI n0) ≤ p1 then
      some (0 : Int32)
    else
      if p1 < 0 ∨ n0 ≤ p1.toNatClampNeg then none else
      some (v_r0 p1.toNatClampNeg)
def rm_X3_at : Room := { frames := 0, cells := 0, slots := 0, locals := 0 }
set_option maxHeartbeats 4000000 in
set_option maxRecDepth 100000 in
theorem c_X3_at (l : Launch) (dC : Nat → ClassId) (dI : Nat → Nat → Nat) (cI cZ cO : ClassId) (a0 : Nat) (n0 : Nat) (p1 : Int32) (v_r0 : (Nat → Int32)) (r : Int32) (hF : f_X3_at n0 p1 v_r0 = some r) : Met l yX3_at wsX3_at rm_X3_at (va_Pc [.ref a0, .int p1] (rdW dC dI cI cZ cO [(a0, .inl (cI, n0, .inl v_r0))])) (vp_Si (fun q => r = q)) 0 0 (fun _ => False) := by
  refine Met.ofW (cc := cX3_at) (maxL := 2) (ret := (some .int)) (by decide) rfl ?_
  intro p e s m args below meth c s₁ B hml hv
  obtain ⟨rfl, hP, hK, hN⟩ := hv
  have hx := B.exec
  have hb := B.bytes
  have hr := B.returns
  have hts := atoms_spec (ws := wsX3_at) B.pre
  have hown : s.vm.findClass RX3 = some m.cls := findClass_of_methodNamed B.named
  have hlocks := B.notSynchronized
  obtain ⟨Q, hQ⟩ : ∃ Q, Q = MQ below (vp_Si (fun q => r = q)) ([.ref a0, .int p1] : List Value).toArray s 0 0 (fun _ => False) := ⟨_, rfl⟩
  rw [← hQ]
  have hS : va_S (fun _ => False) s.heap s.heap [] := va_S.rf
  have hl := lv_entry ([.ref a0, .int p1]) (n := 2) (Nat.le_of_ble_eq_true rfl)
  rw [lg_entry_eq]
  generalize (lg_sl ([.ref a0, .int p1]) ++ List.replicate (2 - (lg_sl ([.ref a0, .int p1])).length) Slot.unset).toArray = ls at hl ⊢
  have hl : lv_has ls 2 [(0, .ref a0), (1, .int p1)] := hl
  unfold f_X3_at at hF
  refine lv_iload_n hx hb dX3_at_0 rfl (lv_at hl 1 rfl) ?_
  refine lv_if_lt (tgt := 16) hx hb dX3_at_1 (by decide) (fun c_1 => ?_) (fun c_1 => ?_)
  · have hF := (if_pos c_1).symm.trans hF
    refine lv_iconst (v := (0 : Int32)) hx hb dX3_at_16 (by decide) ?_
    have hF : some (0 : Int32) = some r := hF
    cases hF
    subst hQ
    exact W.iret hx hb hr (fun t ht hW => ⟨_, rfl, rfl, ht⟩) (fun q hq => absurd hq List.not_mem_nil) dX3_at_17
  · have hF := (if_neg c_1).symm.trans hF
    refine lv_iload_n hx hb dX3_at_4 rfl (lv_at hl 1 rfl) ?_
    refine lv_aload_n hx hb dX3_at_5 rfl (lv_at hl 0 rfl) ?_
    refine va_alen hx hb hK hP 0 0 rfl rfl (v := (nI n0)) rfl dX3_at_6 ?_
    refine lv_icmp_ge (tgt := 16) hx hb dX3_at_7 (by decide) (fun c_7 => ?_) (fun c_7 => ?_)
    · have hF := (if_pos c_7).symm.trans hF
      refine lv_iconst (v := (0 : Int32)) hx hb dX3_at_16 (by decide) ?_
      have hF : some (0 : Int32) = some r := hF
      cases hF
      subst hQ
      exact W.iret hx hb hr (fun t ht hW => ⟨_, rfl, rfl, ht⟩) (fun q hq => absurd hq List.not_mem_nil) dX3_at_17
    · have hF := (if_neg c_7).symm.trans hF
      refine lv_aload_n hx hb dX3_at_10 rfl (lv_at hl 0 rfl) ?_
      refine lv_iload_n hx hb dX3_at_11 rfl (lv_at hl 1 rfl) ?_
      by_cases b_12 : (p1 < 0 ∨ n0 ≤ p1.toNatClampNeg)
      · exact noneE ((if_pos b_12).symm.trans hF)
      have hF := (if_neg b_12).symm.trans hF
      refine va_iald hx hb hK hP 0 0 rfl rfl b_12 dX3_at_12 ?_
      refine lv_goto (tgt := 17) hx hb dX3_at_13 (by decide) ?_
      have hF : some (v_r0 p1.toNatClampNeg) = some r := hF
      cases hF
      subst hQ
      exact W.iret hx hb hr (fun t ht hW => ⟨_, rfl, rfl, ht⟩) (fun q hq => absurd hq List.not_mem_nil) dX3_at_17
def f_X3_put (n0 : Nat) (p1 : Int32) (p2 : Int32) (v_r0 : (Nat → Int32)) : Option (Nat → Int32) :=
  if p1 < (0 : Int32) then
    some v_r0
  else
    if (nI n0) ≤ p1 then
      some v_r0
    else
      if p1 < 0 ∨ n0 ≤ p1.toNatClampNeg then none else
      some (upd v_r0 p1.toNatClampNeg p2)
def rm_X3_put : Room := { frames := 0, cells := 0, slots := 0, locals := 0 }
set_option maxHeartbeats 4000000 in
set_option maxRecDepth 100000 in
theorem c_X3_put (l : Launch) (dC : Nat → ClassId) (dI : Nat → Nat → Nat) (cI cZ cO : ClassId) (a0 : Nat) (sz : Nat) (n0 : Nat) (p1 : Int32) (p2 : Int32) (v_r0 : (Nat → Int32)) (o_r0 : (Nat → Int32)) (hF : f_X3_put n0 p1 p2 v_r0 = some o_r0) : Met l yX3_put wsX3_put rm_X3_put (va_Pc [.ref a0, .int p1, .int p2] (wrW dC dI cI cZ cO sz [(a0, .inl (cI, n0, .inl v_r0))])) (va_Qv (fun (_ : Unit) => True) (wrE dC dI [(a0, .inl (cI, n0, .inl v_r0))] sz [(a0, .inl (cI, n0, .inl o_r0))]) (va_A [(a0, .inl (cI, n0, .inl v_r0))] sz)) 0 0 (va_A [(a0, .inl (cI, n0, .inl v_r0))] sz) := by
  refine Met.ofW (cc := cX3_put) (maxL := 3) (ret := none) (by decide) rfl ?_
  intro p e s m args below meth c s₁ B hml hv
  obtain ⟨rfl, hsz, hP, hK, hN, hD0⟩ := hv
  have hx := B.exec
  have hb := B.bytes
  have hr := B.returns
  have hts := atoms_spec (ws := wsX3_put) B.pre
  have hown : s.vm.findClass RX3 = some m.cls := findClass_of_methodNamed B.named
  have hlocks := B.notSynchronized
  subst hsz
  have hD := hD0.self (sz := s.heap.size)
  obtain ⟨Q, hQ⟩ : ∃ Q, Q = MQ below (va_Qv (fun (_ : Unit) => True) (wrE dC dI [(a0, .inl (cI, n0, .inl v_r0))] s.heap.size [(a0, .inl (cI, n0, .inl o_r0))]) (va_A [(a0, .inl (cI, n0, .inl v_r0))] s.heap.size)) ([.ref a0, .int p1, .int p2] : List Value).toArray s 0 0 (va_A [(a0, .inl (cI, n0, .inl v_r0))] s.heap.size) := ⟨_, rfl⟩
  rw [← hQ]
  obtain ⟨A, hAe⟩ : ∃ A, A = va_A [(a0, .inl (cI, n0, .inl v_r0))] s.heap.size := ⟨_, rfl⟩
  rw [← hAe] at hD
  have hA : ∀ q : Nat, s.heap.size ≤ q → A q := fun q h => by rw [hAe]; exact Or.inr h
  obtain ⟨H, hH⟩ : ∃ H, H = s.heap := ⟨_, rfl⟩
  have hS : va_S A s.heap H [] := by rw [hH]; exact va_S.rf
  rw [← hH] at hP
  rw [← hH]
  have hl := lv_entry ([.ref a0, .int p1, .int p2]) (n := 3) (Nat.le_of_ble_eq_true rfl)
  rw [lg_entry_eq]
  generalize (lg_sl ([.ref a0, .int p1, .int p2]) ++ List.replicate (3 - (lg_sl ([.ref a0, .int p1, .int p2])).length) Slot.unset).toArray = ls at hl ⊢
  have hl : lv_has ls 3 [(0, .ref a0), (1, .int p1), (2, .int p2)] := hl
  unfold f_X3_put at hF
  refine lv_iload_n hx hb dX3_put_0 rfl (lv_at hl 1 rfl) ?_
  refine lv_if_lt (tgt := 14) hx hb dX3_put_1 (by decide) (fun c_1 => ?_) (fun c_1 => ?_)
  · have hF := (if_pos c_1).symm.trans hF
    have hF : some v_r0 = some o_r0 := hF
    have hP9 := hP
    have hD9 := hD
    cases hF
    subst hQ
    subst hAe
    exact W.vret hx hb hr (fun t ht hW => ⟨⟨(), rfl, trivial, ⟨by rw [ht]; exact hP9, hD9⟩⟩, hS.F ht⟩) hS.2.2 dX3_put_14
  · have hF := (if_neg c_1).symm.trans hF
    refine lv_iload_n hx hb dX3_put_4 rfl (lv_at hl 1 rfl) ?_
    refine lv_aload_n hx hb dX3_put_5 rfl (lv_at hl 0 rfl) ?_
    refine va_alen hx hb hK hP 0 0 rfl rfl (v := (nI n0)) rfl dX3_put_6 ?_
    refine lv_icmp_ge (tgt := 14) hx hb dX3_put_7 (by decide) (fun c_7 => ?_) (fun c_7 => ?_)
    · have hF := (if_pos c_7).symm.trans hF
      have hF : some v_r0 = some o_r0 := hF
      have hP9 := hP
      have hD9 := hD
      cases hF
      subst hQ
      subst hAe
      exact W.vret hx hb hr (fun t ht hW => ⟨⟨(), rfl, trivial, ⟨by rw [ht]; exact hP9, hD9⟩⟩, hS.F ht⟩) hS.2.2 dX3_put_14
    · have hF := (if_neg c_7).symm.trans hF
      refine lv_aload_n hx hb dX3_put_10 rfl (lv_at hl 0 rfl) ?_
      refine lv_iload_n hx hb dX3_put_11 rfl (lv_at hl 1 rfl) ?_
      refine lv_iload_n hx hb dX3_put_12 rfl (lv_at hl 2 rfl) ?_
      by_cases b_13 : (p1 < 0 ∨ n0 ≤ p1.toNatClampNeg)
      · exact noneE ((if_pos b_13).symm.trans hF)
      have hF := (if_neg b_13).symm.trans hF
      refine va_iast hx hb hK hP hD hS 0 0 rfl rfl b_13 dX3_put_13 (fun H locs hP hD hS => ?_)
      have hP : va_P (dC, dI) vwCl [(a0, .inl (cI, n0, .inl (upd v_r0 p1.toNatClampNeg p2)))] H := hP
      have hD : va_D A [(a0, .inl (cI, n0, .inl (upd v_r0 p1.toNatClampNeg p2)))] := hD
      have hF : some (upd v_r0 p1.toNatClampNeg p2) = some o_r0 := hF
      have hP9 := hP
      have hD9 := hD
      cases hF
      subst hQ
      subst hAe
      exact W.vret hx hb hr (fun t ht hW => ⟨⟨(), rfl, trivial, ⟨by rw [ht]; exact hP9, hD9⟩⟩, hS.F ht⟩) hS.2.2 dX3_put_14
def f_X3_isLetter (p0 : Int32) : Option Int32 :=
  if p0 < (97 : Int32) then
    some (0 : Int32)
  else
    if (122 : Int32) < p0 then
      some (0 : Int32)
    else
      some (1 : Int32)
def rm_X3_isLetter : Room := { frames := 0, cells := 0, slots := 0, locals := 0 }
set_option maxHeartbeats 4000000 in
set_option maxRecDepth 100000 in
theorem c_X3_isLetter (l : Launch) (dC : Nat → ClassId) (dI : Nat → Nat → Nat) (cI cZ cO : ClassId) (p0 : Int32) (r : Int32) (hF : f_X3_isLetter p0 = some r) : Met l yX3_isLetter wsX3_isLetter rm_X3_isLetter (va_Pc [.int p0] (rdW dC dI cI cZ cO [])) (vp_Si (fun q => r = q)) 0 0 (fun _ => False) := by
  refine Met.ofW (cc := cX3_isLetter) (maxL := 1) (ret := (some .boolean)) (by decide) rfl ?_
  intro p e s m args below meth c s₁ B hml hv
  obtain ⟨rfl, hP, hK, hN⟩ := hv
  have hx := B.exec
  have hb := B.bytes
  have hr := B.returns
  have hts := atoms_spec (ws := wsX3_isLetter) B.pre
  have hown : s.vm.findClass RX3 = some m.cls := findClass_of_methodNamed B.named
  have hlocks := B.notSynchronized
  obtain ⟨Q, hQ⟩ : ∃ Q, Q = MQ below (vp_Si (fun q => r = q)) ([.int p0] : List Value).toArray s 0 0 (fun _ => False) := ⟨_, rfl⟩
  rw [← hQ]
  have hS : va_S (fun _ => False) s.heap s.heap [] := va_S.rf
  have hl := lv_entry ([.int p0]) (n := 1) (Nat.le_of_ble_eq_true rfl)
  rw [lg_entry_eq]
  generalize (lg_sl ([.int p0]) ++ List.replicate (1 - (lg_sl ([.int p0])).length) Slot.unset).toArray = ls at hl ⊢
  have hl : lv_has ls 1 [(0, .int p0)] := hl
  unfold f_X3_isLetter at hF
  refine lv_iload_n hx hb dX3_isLetter_0 rfl (lv_at hl 0 rfl) ?_
  refine lv_bipush (v := (97 : Int32)) hx hb dX3_isLetter_1 (by decide) ?_
  refine lv_icmp_lt (tgt := 16) hx hb dX3_isLetter_3 (by decide) (fun c_3 => ?_) (fun c_3 => ?_)
  · have hF := (if_pos c_3).symm.trans hF
    refine lv_iconst (v := (0 : Int32)) hx hb dX3_isLetter_16 (by decide) ?_
    have hF : some (0 : Int32) = some r := hF
    cases hF
    subst hQ
    exact W.zret (ty := .boolean) hx hb hr rfl (fun t ht hW => ⟨_, rfl, rfl, ht⟩) (fun q hq => absurd hq List.not_mem_nil) dX3_isLetter_17
  · have hF := (if_neg c_3).symm.trans hF
    refine lv_iload_n hx hb dX3_isLetter_6 rfl (lv_at hl 0 rfl) ?_
    refine lv_bipush (v := (122 : Int32)) hx hb dX3_isLetter_7 (by decide) ?_
    refine lv_icmp_gt (tgt := 16) hx hb dX3_isLetter_9 (by decide) (fun c_9 => ?_) (fun c_9 => ?_)
    · have hF := (if_pos c_9).symm.trans hF
      refine lv_iconst (v := (0 : Int32)) hx hb dX3_isLetter_16 (by decide) ?_
      have hF : some (0 : Int32) = some r := hF
      cases hF
      subst hQ
      exact W.zret (ty := .boolean) hx hb hr rfl (fun t ht hW => ⟨_, rfl, rfl, ht⟩) (fun q hq => absurd hq List.not_mem_nil) dX3_isLetter_17
    · have hF := (if_neg c_9).symm.trans hF
      refine lv_iconst (v := (1 : Int32)) hx hb dX3_isLetter_12 (by decide) ?_
      refine lv_goto (tgt := 17) hx hb dX3_isLetter_13 (by decide) ?_
      have hF : some (1 : Int32) = some r := hF
      cases hF
      subst hQ
      exact W.zret (ty := .boolean) hx hb hr rfl (fun t ht hW => ⟨_, rfl, rfl, ht⟩) (fun q hq => absurd hq List.not_mem_nil) dX3_isLetter_17
def f_X3_limited (p0 : Int32) (p1 : Int32) (p2 : Int32) : Option Int32 :=
  some (if p1 < (if p2 < p0 then p2 else p0) then (if p2 < p0 then p2 else p0) else p1)
def rm_X3_limited : Room := { frames := 1, cells := 0, slots := 0, locals := 24 }
set_option maxHeartbeats 4000000 in
set_option maxRecDepth 100000 in
theorem c_X3_limited (l : Launch) (dC : Nat → ClassId) (dI : Nat → Nat → Nat) (cI cZ cO : ClassId) (p0 : Int32) (p1 : Int32) (p2 : Int32) (r : Int32) (hF : f_X3_limited p0 p1 p2 = some r) : Met l yX3_limited wsX3_limited rm_X3_limited (va_Pc [.int p0, .int p1, .int p2] (rdW dC dI cI cZ cO [])) (vp_Si (fun q => r = q)) 0 0 (fun _ => False) := by
  refine Met.ofW (cc := cX3_limited) (maxL := 3) (ret := (some .int)) (by decide) rfl ?_
  intro p e s m args below meth c s₁ B hml hv
  obtain ⟨rfl, hP, hK, hN⟩ := hv
  have hx := B.exec
  have hb := B.bytes
  have hr := B.returns
  have hts := atoms_spec (ws := wsX3_limited) B.pre
  have hown : s.vm.findClass RX3 = some m.cls := findClass_of_methodNamed B.named
  have hlocks := B.notSynchronized
  obtain ⟨Q, hQ⟩ : ∃ Q, Q = MQ below (vp_Si (fun q => r = q)) ([.int p0, .int p1, .int p2] : List Value).toArray s 0 0 (fun _ => False) := ⟨_, rfl⟩
  rw [← hQ]
  have hS : va_S (fun _ => False) s.heap s.heap [] := va_S.rf
  have ml250 := hts (.methodLink RX3 250 Lib.Math.min.name) (by decide +kernel)
  have ls_mmin := hts (.static Lib.Math.min.name) (by decide +kernel)
  have lmI := hts (.initialized "java/lang/Math") (by decide +kernel)
  have lc_mmin := hts (.code Lib.Math.min.name Lib.Math.min.code 2 (some .int)) (by decide +kernel)
  have ml261 := hts (.methodLink RX3 261 Lib.Math.max.name) (by decide +kernel)
  have ls_mmax := hts (.static Lib.Math.max.name) (by decide +kernel)
  have lc_mmax := hts (.code Lib.Math.max.name Lib.Math.max.code 2 (some .int)) (by decide +kernel)
  have hl := lv_entry ([.int p0, .int p1, .int p2]) (n := 3) (Nat.le_of_ble_eq_true rfl)
  rw [lg_entry_eq]
  generalize (lg_sl ([.int p0, .int p1, .int p2]) ++ List.replicate (3 - (lg_sl ([.int p0, .int p1, .int p2])).length) Slot.unset).toArray = ls at hl ⊢
  have hl : lv_has ls 3 [(0, .int p0), (1, .int p1), (2, .int p2)] := hl
  unfold f_X3_limited at hF
  refine lv_iload_n hx hb dX3_limited_0 rfl (lv_at hl 1 rfl) ?_
  refine lv_iload_n hx hb dX3_limited_1 rfl (lv_at hl 0 rfl) ?_
  refine lv_iload_n hx hb dX3_limited_2 rfl (lv_at hl 2 rfl) ?_
  refine va_mmin hx hb (by rw [hml]; exact hl.1.symm) hown ml250 ls_mmin lmI lc_mmin (Nat.le_of_ble_eq_true rfl) (Nat.le_of_ble_eq_true rfl) (Nat.zero_le _) (Nat.zero_le _) dX3_limited_3 ?_
  refine va_mmax hx hb (by rw [hml]; exact hl.1.symm) hown ml261 ls_mmax lmI lc_mmax (Nat.le_of_ble_eq_true rfl) (Nat.le_of_ble_eq_true rfl) (Nat.zero_le _) (Nat.zero_le _) dX3_limited_6 ?_
  have hF : some (if p1 < (if p2 < p0 then p2 else p0) then (if p2 < p0 then p2 else p0) else p1) = some r := hF
  cases hF
  subst hQ
  exact W.iret hx hb hr (fun t ht hW => ⟨_, rfl, rfl, ht⟩) (fun q hq => absurd hq List.not_mem_nil) dX3_limited_9
def f_X3_isSetting (p0 : Int32) : Option Int32 :=
  if p0 < (0 : Int32) then
    some (0 : Int32)
  else
    if (9 : Int32) ≤ p0 then
      some (0 : Int32)
    else
      some (1 : Int32)
def rm_X3_isSetting : Room := { frames := 0, cells := 0, slots := 0, locals := 0 }
set_option maxHeartbeats 4000000 in
set_option maxRecDepth 100000 in
theorem c_X3_isSetting (l : Launch) (dC : Nat → ClassId) (dI : Nat → Nat → Nat) (cI cZ cO : ClassId) (p0 : Int32) (r : Int32) (hF : f_X3_isSetting p0 = some r) : Met l yX3_isSetting wsX3_isSetting rm_X3_isSetting (va_Pc [.int p0] (rdW dC dI cI cZ cO [])) (vp_Si (fun q => r = q)) 0 0 (fun _ => False) := by
  refine Met.ofW (cc := cX3_isSetting) (maxL := 1) (ret := (some .boolean)) (by decide) rfl ?_
  intro p e s m args below meth c s₁ B hml hv
  obtain ⟨rfl, hP, hK, hN⟩ := hv
  have hx := B.exec
  have hb := B.bytes
  have hr := B.returns
  have hts := atoms_spec (ws := wsX3_isSetting) B.pre
  have hown : s.vm.findClass RX3 = some m.cls := findClass_of_methodNamed B.named
  have hlocks := B.notSynchronized
  obtain ⟨Q, hQ⟩ : ∃ Q, Q = MQ below (vp_Si (fun q => r = q)) ([.int p0] : List Value).toArray s 0 0 (fun _ => False) := ⟨_, rfl⟩
  rw [← hQ]
  have hS : va_S (fun _ => False) s.heap s.heap [] := va_S.rf
  have hl := lv_entry ([.int p0]) (n := 1) (Nat.le_of_ble_eq_true rfl)
  rw [lg_entry_eq]
  generalize (lg_sl ([.int p0]) ++ List.replicate (1 - (lg_sl ([.int p0])).length) Slot.unset).toArray = ls at hl ⊢
  have hl : lv_has ls 1 [(0, .int p0)] := hl
  unfold f_X3_isSetting at hF
  refine lv_iload_n hx hb dX3_isSetting_0 rfl (lv_at hl 0 rfl) ?_
  refine lv_if_lt (tgt := 14) hx hb dX3_isSetting_1 (by decide) (fun c_1 => ?_) (fun c_1 => ?_)
  · have hF := (if_pos c_1).symm.trans hF
    refine lv_iconst (v := (0 : Int32)) hx hb dX3_isSetting_14 (by decide) ?_
    have hF : some (0 : Int32) = some r := hF
    cases hF
    subst hQ
    exact W.zret (ty := .boolean) hx hb hr rfl (fun t ht hW => ⟨_, rfl, rfl, ht⟩) (fun q hq => absurd hq List.not_mem_nil) dX3_isSetting_15
  · have hF := (if_neg c_1).symm.trans hF
    refine lv_iload_n hx hb dX3_isSetting_4 rfl (lv_at hl 0 rfl) ?_
    refine lv_bipush (v := (9 : Int32)) hx hb dX3_isSetting_5 (by decide) ?_
    refine lv_icmp_ge (tgt := 14) hx hb dX3_isSetting_7 (by decide) (fun c_7 => ?_) (fun c_7 => ?_)
    · have hF := (if_pos c_7).symm.trans hF
      refine lv_iconst (v := (0 : Int32)) hx hb dX3_isSetting_14 (by decide) ?_
      have hF : some (0 : Int32) = some r := hF
      cases hF
      subst hQ
      exact W.zret (ty := .boolean) hx hb hr rfl (fun t ht hW => ⟨_, rfl, rfl, ht⟩) (fun q hq => absurd hq List.not_mem_nil) dX3_isSetting_15
    · have hF := (if_neg c_7).symm.trans hF
      refine lv_iconst (v := (1 : Int32)) hx hb dX3_isSetting_10 (by decide) ?_
      refine lv_goto (tgt := 15) hx hb dX3_isSetting_11 (by decide) ?_
      have hF : some (1 : Int32) = some r := hF
      cases hF
      subst hQ
      exact W.zret (ty := .boolean) hx hb hr rfl (fun t ht hW => ⟨_, rfl, rfl, ht⟩) (fun q hq => absurd hq List.not_mem_nil) dX3_isSetting_15
def f_X3_copyRow (n0 : Nat) (n1 : Nat) (v_r0 : (Nat → Int32)) (v_r1 : (Nat → Int32)) : Option (Nat → Int32) :=
  if (if (nI n1) < (nI n0) then (nI n1) else (nI n0)) < 0 ∨ n0 < ((if (nI n1) < (nI n0) then (nI n1) else (nI n0))).toNatClampNeg ∨ n1 < ((if (nI n1) < (nI n0) then (nI n1) else (nI n0))).toNatClampNeg then none else
  some (va_cpy v_r0 v_r1 0 0 (((if (nI n1) < (nI n0) then (nI n1) else (nI n0))).toNatClampNeg))
def rm_X3_copyRow : Room := { frames := 1, cells := 0, slots := 0, locals := 48 }
set_option maxHeartbeats 4000000 in
set_option maxRecDepth 100000 in
theorem c_X3_copyRow (l : Launch) (dC : Nat → ClassId) (dI : Nat → Nat → Nat) (cI cZ cO : ClassId) (a0 a1 : Nat) (sz : Nat) (n0 : Nat) (n1 : Nat) (v_r0 : (Nat → Int32)) (v_r1 : (Nat → Int32)) (o_r1 : (Nat → Int32)) (hF : f_X3_copyRow n0 n1 v_r0 v_r1 = some o_r1) : Met l yX3_copyRow wsX3_copyRow rm_X3_copyRow (va_Pc [.ref a0, .ref a1] (wrW dC dI cI cZ cO sz [(a0, .inl (cI, n0, .inl v_r0)), (a1, .inl (cI, n1, .inl v_r1))])) (va_Qv (fun (_ : Unit) => True) (wrE dC dI [(a0, .inl (cI, n0, .inl v_r0)), (a1, .inl (cI, n1, .inl v_r1))] sz [(a0, .inl (cI, n0, .inl v_r0)), (a1, .inl (cI, n1, .inl o_r1))]) (va_A [(a0, .inl (cI, n0, .inl v_r0)), (a1, .inl (cI, n1, .inl v_r1))] sz)) 0 0 (va_A [(a0, .inl (cI, n0, .inl v_r0)), (a1, .inl (cI, n1, .inl v_r1))] sz) := by
  refine Met.ofW (cc := cX3_copyRow) (maxL := 2) (ret := none) (by decide) rfl ?_
  intro p e s m args below meth c s₁ B hml hv
  obtain ⟨rfl, hsz, hP, hK, hN, hD0⟩ := hv
  have hx := B.exec
  have hb := B.bytes
  have hr := B.returns
  have hts := atoms_spec (ws := wsX3_copyRow) B.pre
  have hown : s.vm.findClass RX3 = some m.cls := findClass_of_methodNamed B.named
  have hlocks := B.notSynchronized
  subst hsz
  have hD := hD0.self (sz := s.heap.size)
  obtain ⟨Q, hQ⟩ : ∃ Q, Q = MQ below (va_Qv (fun (_ : Unit) => True) (wrE dC dI [(a0, .inl (cI, n0, .inl v_r0)), (a1, .inl (cI, n1, .inl v_r1))] s.heap.size [(a0, .inl (cI, n0, .inl v_r0)), (a1, .inl (cI, n1, .inl o_r1))]) (va_A [(a0, .inl (cI, n0, .inl v_r0)), (a1, .inl (cI, n1, .inl v_r1))] s.heap.size)) ([.ref a0, .ref a1] : List Value).toArray s 0 0 (va_A [(a0, .inl (cI, n0, .inl v_r0)), (a1, .inl (cI, n1, .inl v_r1))] s.heap.size) := ⟨_, rfl⟩
  rw [← hQ]
  obtain ⟨A, hAe⟩ : ∃ A, A = va_A [(a0, .inl (cI, n0, .inl v_r0)), (a1, .inl (cI, n1, .inl v_r1))] s.heap.size := ⟨_, rfl⟩
  rw [← hAe] at hD
  have hA : ∀ q : Nat, s.heap.size ≤ q → A q := fun q h => by rw [hAe]; exact Or.inr h
  obtain ⟨H, hH⟩ : ∃ H, H = s.heap := ⟨_, rfl⟩
  have hS : va_S A s.heap H [] := by rw [hH]; exact va_S.rf
  rw [← hH] at hP
  rw [← hH]
  have ml250 := hts (.methodLink RX3 250 Lib.Math.min.name) (by decide +kernel)
  have ls_mmin := hts (.static Lib.Math.min.name) (by decide +kernel)
  have lmI := hts (.initialized "java/lang/Math") (by decide +kernel)
  have lc_mmin := hts (.code Lib.Math.min.name Lib.Math.min.code 2 (some .int)) (by decide +kernel)
  have ml255 := hts (.methodLink RX3 255 arraycopyName) (by decide +kernel)
  have acN := hts (.native arraycopyName) (by decide +kernel)
  have acS := hts (.static arraycopyName) (by decide +kernel)
  have acI := hts (.initialized "java/lang/System") (by decide +kernel)
  have hl := lv_entry ([.ref a0, .ref a1]) (n := 2) (Nat.le_of_ble_eq_true rfl)
  rw [lg_entry_eq]
  generalize (lg_sl ([.ref a0, .ref a1]) ++ List.replicate (2 - (lg_sl ([.ref a0, .ref a1])).length) Slot.unset).toArray = ls at hl ⊢
  have hl : lv_has ls 2 [(0, .ref a0), (1, .ref a1)] := hl
  unfold f_X3_copyRow at hF
  refine lv_aload_n hx hb dX3_copyRow_0 rfl (lv_at hl 0 rfl) ?_
  refine lv_iconst (v := (0 : Int32)) hx hb dX3_copyRow_1 (by decide) ?_
  refine lv_aload_n hx hb dX3_copyRow_2 rfl (lv_at hl 1 rfl) ?_
  refine lv_iconst (v := (0 : Int32)) hx hb dX3_copyRow_3 (by decide) ?_
  refine lv_aload_n hx hb dX3_copyRow_4 rfl (lv_at hl 0 rfl) ?_
  refine va_alen hx hb hK hP 0 0 rfl rfl (v := (nI n0)) rfl dX3_copyRow_5 ?_
  refine lv_aload_n hx hb dX3_copyRow_6 rfl (lv_at hl 1 rfl) ?_
  refine va_alen hx hb hK hP 1 0 rfl rfl (v := (nI n1)) rfl dX3_copyRow_7 ?_
  refine va_mmin hx hb (by rw [hml]; exact hl.1.symm) hown ml250 ls_mmin lmI lc_mmin (Nat.le_of_ble_eq_true rfl) (Nat.le_of_ble_eq_true rfl) (Nat.zero_le _) (Nat.zero_le _) dX3_copyRow_8 ?_
  by_cases b_11 : ((if (nI n1) < (nI n0) then (nI n1) else (nI n0)) < 0 ∨ n0 < ((if (nI n1) < (nI n0) then (nI n1) else (nI n0))).toNatClampNeg ∨ n1 < ((if (nI n1) < (nI n0) then (nI n1) else (nI n0))).toNatClampNeg)
  · exact noneE ((if_pos b_11).symm.trans hF)
  have hF := (if_neg b_11).symm.trans hF
  refine va_copyi hx hb (by rw [hml]; exact hl.1.symm) hown ml255 acN acS acI hK hP hD hS 0 1 0 0 rfl rfl rfl rfl rfl (by decide) (by decide) (cp1 b_11) (cp2 b_11) (cp3 b_11) (fun _ _ => rfl) (Nat.le_of_ble_eq_true rfl) (Nat.le_of_ble_eq_true rfl) dX3_copyRow_11 (fun H locs hP hD hS => ?_)
  have hP : va_P (dC, dI) vwCl [(a0, .inl (cI, n0, .inl v_r0)), (a1, .inl (cI, n1, .inl (va_cpy v_r0 v_r1 0 0 (((if (nI n1) < (nI n0) then (nI n1) else (nI n0))).toNatClampNeg))))] H := hP
  have hD : va_D A [(a0, .inl (cI, n0, .inl v_r0)), (a1, .inl (cI, n1, .inl (va_cpy v_r0 v_r1 0 0 (((if (nI n1) < (nI n0) then (nI n1) else (nI n0))).toNatClampNeg))))] := hD
  have hF : some (va_cpy v_r0 v_r1 0 0 (((if (nI n1) < (nI n0) then (nI n1) else (nI n0))).toNatClampNeg)) = some o_r1 := hF
  have hP9 := hP
  have hD9 := hD
  cases hF
  subst hQ
  subst hAe
  exact W.vret hx hb hr (fun t ht hW => ⟨⟨(), rfl, trivial, ⟨by rw [ht]; exact hP9, hD9⟩⟩, hS.F ht⟩) hS.2.2 dX3_copyRow_14
