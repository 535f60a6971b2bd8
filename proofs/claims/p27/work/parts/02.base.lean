/-! what the walks stand on: numbers of turns, rows over places that are written in the code, the worlds of a contract -/
def gas : Nat := 6000
theorem noneE {α : Type} {r : α} {P : Prop} (h : (none : Option α) = some r) : P := by cases h
theorem bindE {α β : Type} {o : Option α} {k : α → Option β} {r : β} (h : o.bind k = some r) : ∃ q, o = some q ∧ k q = some r := by
  cases o with
  | none => cases h
  | some q => exact ⟨q, rfl, h⟩
theorem inK {i : Int32} {n : Nat} (h : (decide (i < 0) || Nat.ble n i.toNatClampNeg) = false) : vp_in i n := by
  intro q
  rcases q with q | q
  · simp [q] at h
  · rw [Nat.ble_eq.mpr q] at h; simp at h
section KLD
variable {p : Program} {l : Launch} {e : Env} {R : Room} {s : State} {m : MethodId} {args : Array Value} {below : List Frame} {meth : Method} {c : Code} {H : Heap} {locs : List Loc} {cells slots : Nat} {Q : State → Prop}
variable {cc : ByteArray} {pc : Nat} {ls : Array Slot} {rest : List Value} {D : va_G} {cl : List vw_C} {A : Nat → Prop} {a : Nat} {tys : List (ClassId × FieldType)} {ws : va_W} {H0 : Heap}
theorem va_ialdK (hexec : p.tables.exec = Jvm.exec) (hb : c.code = cc) (hK : va_K D cl tys s) (hP : va_P D cl ws H) (q0 t0 : Nat) {cA : ClassId} {n : Nat} {f : Nat → Int32} (ha : ws[q0]? = some (a, .inl (cA, n, .inl f))) (ht : tys[t0]? = some (cA, .int)) {i : Int32} (hin : vp_in i n) {j : Nat} (hj : i.toNatClampNeg = j) (hdg : decode cc pc = .ok (.iaload, 1))
    (kk : W p l e R s m args below meth c H locs cells slots Q (F0 m (pc + 1) ls (.int (f j) :: rest))) : W p l e R s m args below meth c H locs cells slots Q (F0 m pc ls (.int i :: .ref a :: rest)) := by
  subst hj
  exact va_iald hexec hb hK hP q0 t0 ha ht hin hdg kk
theorem va_iastK (hexec : p.tables.exec = Jvm.exec) (hb : c.code = cc) (hK : va_K D cl tys s) (hP : va_P D cl ws H) (hD : va_D A ws) (hS : va_S A H0 H locs) (q0 t0 : Nat) {cA : ClassId} {n : Nat} {f : Nat → Int32} (ha : ws[q0]? = some (a, .inl (cA, n, .inl f))) (ht : tys[t0]? = some (cA, .int)) {i : Int32} {x : Int32} (hin : vp_in i n) {j : Nat} (hj : i.toNatClampNeg = j) (hdg : decode cc pc = .ok (.iastore, 1))
    (kk : ∀ (H1 : Heap) (locs1 : List Loc), va_P D cl (ws.set q0 (a, .inl (cA, n, .inl (upd f j x)))) H1 → va_D A (ws.set q0 (a, .inl (cA, n, .inl (upd f j x)))) → va_S A H0 H1 locs1 → W p l e R s m args below meth c H1 locs1 cells slots Q (F0 m (pc + 1) ls rest)) : W p l e R s m args below meth c H locs cells slots Q (F0 m pc ls (.int x :: .int i :: .ref a :: rest)) := by
  subst hj
  exact va_iast hexec hb hK hP hD hS q0 t0 ha ht hin hdg kk
end KLD
theorem nbK {v : Int32} (h : v &&& 1 = v) : narrow .boolean (.int v) = .int v := by
  simp [narrow, h]
theorem cp1 {n : Int32} {a b : Nat} (h : ¬ (n < 0 ∨ a < n.toNatClampNeg ∨ b < n.toNatClampNeg)) : ¬ n < 0 := fun q => h (Or.inl q)
theorem cp2 {n : Int32} {a b : Nat} (h : ¬ (n < 0 ∨ a < n.toNatClampNeg ∨ b < n.toNatClampNeg)) : (0 : Int32).toNatClampNeg + n.toNatClampNeg ≤ a := by
  have : (0 : Int32).toNatClampNeg = 0 := by decide
  omega
theorem cp3 {n : Int32} {a b : Nat} (h : ¬ (n < 0 ∨ a < n.toNatClampNeg ∨ b < n.toNatClampNeg)) : (0 : Int32).toNatClampNeg + n.toNatClampNeg ≤ b := by
  have : (0 : Int32).toNatClampNeg = 0 := by decide
  omega
theorem tsOut {x : Int32} {lo hi : Int} (h1 : -2147483648 ≤ lo) (h2 : hi ≤ 2147483647) (h : ∀ k : Int, lo ≤ k → k ≤ hi → ¬ x = Int32.ofInt k) : x.toInt < lo ∨ hi < x.toInt := by
  by_cases a : x.toInt < lo
  · exact Or.inl a
  · by_cases b : hi < x.toInt
    · exact Or.inr b
    · exact absurd (Int32.ofInt_toInt x).symm (h x.toInt (by omega) (by omega))
abbrev tyA (cI cZ cO : ClassId) : List (ClassId × FieldType) := [(cI, .int), (cZ, .boolean), (cO, .object "Teleprompter$State")]
def NW (U : State) : Prop := va_Nw (.methodLinkNest RX0 40 yX3_copyRow RX3) U ∧ va_Nw (.methodLinkNest RX0 44 yX3_isLetter RX3) U ∧ va_Nw (.methodLinkNest RX0 59 yX3_put RX3) U ∧ va_Nw (.methodLinkNest RX0 63 yX3_at RX3) U ∧ va_Nw (.methodLinkNest RX1 17 yX0_init RX3) U ∧ va_Nw (.methodLinkNest RX1 24 yX2_init RX3) U ∧ va_Nw (.methodLinkNest RX1 32 yX3_copyRow RX3) U ∧ va_Nw (.methodLinkNest RX1 77 yX3_at RX3) U ∧ va_Nw (.methodLinkNest RX1 88 yX3_put RX3) U ∧ va_Nw (.methodLinkNest RX1 96 yX3_limited RX3) U ∧ va_Nw (.methodLinkNest RX2 22 yX3_copyRow RX3) U ∧ va_Nw (.methodLinkNest RX2 26 yX3_at RX3) U ∧ va_Nw (.methodLinkNest RX2 30 yX3_put RX3) U ∧ va_Nw (.methodLinkNest RX3 15 yX0_init RX3) U ∧ va_Nw (.methodLinkNest RX3 22 yX1_init RX3) U ∧ True
theorem NW_X0_40 {U : State} (h : NW U) : va_Nw (.methodLinkNest RX0 40 yX3_copyRow RX3) U := h.1
theorem NW_X0_44 {U : State} (h : NW U) : va_Nw (.methodLinkNest RX0 44 yX3_isLetter RX3) U := h.2.1
theorem NW_X0_59 {U : State} (h : NW U) : va_Nw (.methodLinkNest RX0 59 yX3_put RX3) U := h.2.2.1
theorem NW_X0_63 {U : State} (h : NW U) : va_Nw (.methodLinkNest RX0 63 yX3_at RX3) U := h.2.2.2.1
theorem NW_X1_17 {U : State} (h : NW U) : va_Nw (.methodLinkNest RX1 17 yX0_init RX3) U := h.2.2.2.2.1
theorem NW_X1_24 {U : State} (h : NW U) : va_Nw (.methodLinkNest RX1 24 yX2_init RX3) U := h.2.2.2.2.2.1
theorem NW_X1_32 {U : State} (h : NW U) : va_Nw (.methodLinkNest RX1 32 yX3_copyRow RX3) U := h.2.2.2.2.2.2.1
theorem NW_X1_77 {U : State} (h : NW U) : va_Nw (.methodLinkNest RX1 77 yX3_at RX3) U := h.2.2.2.2.2.2.2.1
theorem NW_X1_88 {U : State} (h : NW U) : va_Nw (.methodLinkNest RX1 88 yX3_put RX3) U := h.2.2.2.2.2.2.2.2.1
theorem NW_X1_96 {U : State} (h : NW U) : va_Nw (.methodLinkNest RX1 96 yX3_limited RX3) U := h.2.2.2.2.2.2.2.2.2.1
theorem NW_X2_22 {U : State} (h : NW U) : va_Nw (.methodLinkNest RX2 22 yX3_copyRow RX3) U := h.2.2.2.2.2.2.2.2.2.2.1
theorem NW_X2_26 {U : State} (h : NW U) : va_Nw (.methodLinkNest RX2 26 yX3_at RX3) U := h.2.2.2.2.2.2.2.2.2.2.2.1
theorem NW_X2_30 {U : State} (h : NW U) : va_Nw (.methodLinkNest RX2 30 yX3_put RX3) U := h.2.2.2.2.2.2.2.2.2.2.2.2.1
theorem NW_X3_15 {U : State} (h : NW U) : va_Nw (.methodLinkNest RX3 15 yX0_init RX3) U := h.2.2.2.2.2.2.2.2.2.2.2.2.2.1
theorem NW_X3_22 {U : State} (h : NW U) : va_Nw (.methodLinkNest RX3 22 yX1_init RX3) U := h.2.2.2.2.2.2.2.2.2.2.2.2.2.2.1
theorem NW.warm {s U : State} (hW : s.WarmedH U.vm) (h : NW s) : NW U := ⟨va_Nw.warmM hW (NW_X0_40 h), va_Nw.warmM hW (NW_X0_44 h), va_Nw.warmM hW (NW_X0_59 h), va_Nw.warmM hW (NW_X0_63 h), va_Nw.warmM hW (NW_X1_17 h), va_Nw.warmM hW (NW_X1_24 h), va_Nw.warmM hW (NW_X1_32 h), va_Nw.warmM hW (NW_X1_77 h), va_Nw.warmM hW (NW_X1_88 h), va_Nw.warmM hW (NW_X1_96 h), va_Nw.warmM hW (NW_X2_22 h), va_Nw.warmM hW (NW_X2_26 h), va_Nw.warmM hW (NW_X2_30 h), va_Nw.warmM hW (NW_X3_15 h), va_Nw.warmM hW (NW_X3_22 h), trivial⟩
theorem NW.same {u U : State} (e : u.vm = U.vm) (h : NW u) : NW U := ⟨va_Nw.same rfl e (NW_X0_40 h), va_Nw.same rfl e (NW_X0_44 h), va_Nw.same rfl e (NW_X0_59 h), va_Nw.same rfl e (NW_X0_63 h), va_Nw.same rfl e (NW_X1_17 h), va_Nw.same rfl e (NW_X1_24 h), va_Nw.same rfl e (NW_X1_32 h), va_Nw.same rfl e (NW_X1_77 h), va_Nw.same rfl e (NW_X1_88 h), va_Nw.same rfl e (NW_X1_96 h), va_Nw.same rfl e (NW_X2_22 h), va_Nw.same rfl e (NW_X2_26 h), va_Nw.same rfl e (NW_X2_30 h), va_Nw.same rfl e (NW_X3_15 h), va_Nw.same rfl e (NW_X3_22 h), trivial⟩
def rdW (dC : Nat → ClassId) (dI : Nat → Nat → Nat) (cI cZ cO : ClassId) (ws : va_W) (U : State) : Prop := va_P (dC, dI) vwCl ws U.heap ∧ va_K (dC, dI) vwCl (tyA cI cZ cO) U ∧ NW U
def wrW (dC : Nat → ClassId) (dI : Nat → Nat → Nat) (cI cZ cO : ClassId) (sz : Nat) (ws : va_W) (U : State) : Prop := U.heap.size = sz ∧ va_P (dC, dI) vwCl ws U.heap ∧ va_K (dC, dI) vwCl (tyA cI cZ cO) U ∧ NW U ∧ va_D (fun _ => True) ws
/-- the world behind a method that writes -/
def wrE (dC : Nat → ClassId) (dI : Nat → Nat → Nat) (ws : va_W) (sz : Nat) (ws1 : va_W) (_ : Unit) (t : State) : Prop := va_P (dC, dI) vwCl ws1 t.heap ∧ va_D (va_A ws sz) ws1
theorem fb_rd {dC : Nat → ClassId} {dI : Nat → Nat → Nat} {cI cZ cO : ClassId} {ws : va_W} {av : List Value} : FrameBlind (va_Pc av (rdW dC dI cI cZ cO ws)) := fun a U g mk q => by
  obtain ⟨q0, qP, qK, qN⟩ := q
  exact ⟨q0, qP, va_K.moved (u := U) (U := U.calling g mk a) (Vm.Alike.refl U.vm) qK, NW.same (u := U) (U := U.calling g mk a) rfl qN⟩
theorem fb_wr {dC : Nat → ClassId} {dI : Nat → Nat → Nat} {cI cZ cO : ClassId} {sz : Nat} {ws : va_W} {av : List Value} : FrameBlind (va_Pc av (wrW dC dI cI cZ cO sz ws)) := fun a U g mk q => by
  obtain ⟨q0, q1, qP, qK, qN, qD⟩ := q
  exact ⟨q0, q1, qP, va_K.moved (u := U) (U := U.calling g mk a) (Vm.Alike.refl U.vm) qK, NW.same (u := U) (U := U.calling g mk a) rfl qN, qD⟩
theorem pre_rd {dC : Nat → ClassId} {dI : Nat → Nat → Nat} {cI cZ cO : ClassId} {ws : va_W} {H : Heap} {s : State} (hP : va_P (dC, dI) vwCl ws H) (hK : va_K (dC, dI) vwCl (tyA cI cZ cO) s) (hN : NW s) {av : List Value} : ∀ U : State, U.heap = H → s.WarmedH U.vm → va_Pc av (rdW dC dI cI cZ cO ws) av.toArray U := fun U hU hW => ⟨rfl, by rw [hU]; exact hP, va_K.moved hW.alike hK, hN.warm hW⟩
theorem pre_wr {dC : Nat → ClassId} {dI : Nat → Nat → Nat} {cI cZ cO : ClassId} {ws : va_W} {A : Nat → Prop} {H : Heap} {s : State} (hP : va_P (dC, dI) vwCl ws H) (hK : va_K (dC, dI) vwCl (tyA cI cZ cO) s) (hN : NW s) (hD : va_D A ws) {av : List Value} : ∀ U : State, U.heap = H → s.WarmedH U.vm → va_Pc av (wrW dC dI cI cZ cO H.size ws) av.toArray U := fun U hU hW => ⟨rfl, by rw [hU], by rw [hU]; exact hP, va_K.moved hW.alike hK, hN.warm hW, hD.weaken (fun _ _ _ _ => trivial)⟩
