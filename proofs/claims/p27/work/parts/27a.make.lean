theorem tT_sub {ty : FieldType} {t N : Nat} {f : Nat → Value} {A B : Nat → Prop} {U : State} {H : Heap} (h : va_T ty t N f A U H) (hAB : ∀ q, B q → A q) : va_T ty t N f B U H := h.narrow hAB
theorem fb_wT {dC : Nat → ClassId} {dI : Nat → Nat → Nat} {cI cZ cO : ClassId} {sz : Nat} {ws : va_W} {t : Nat} {f : Nat → Value} {A : Nat → Prop} {av : List Value} : FrameBlind (va_Pc av (fun U => wrW dC dI cI cZ cO sz ws U ∧ va_T .int t 9 f A U U.heap)) := fun a U g mk q => by
  obtain ⟨q0, ⟨q1, qP, qK, qN, qD⟩, q2⟩ := q
  exact ⟨q0, ⟨q1, qP, va_K.moved (u := U) (U := U.calling g mk a) (Vm.Alike.refl U.vm) qK, NW.same (u := U) (U := U.calling g mk a) rfl qN, qD⟩, va_T.moved (u := U) (U := U.calling g mk a) (Vm.Alike.refl U.vm) q2⟩
section CPT
variable {p : Program} {l : Launch} {e : Env} {R : Room} {s : State} {m : MethodId} {args : Array Value} {below : List Frame} {meth : Method} {c : Code} {H : Heap} {locs : List Loc} {cells slots : Nat} {Q : State → Prop}
variable {cc : ByteArray} {pc : Nat} {ls : Array Slot} {rest : List Value} {D : va_G} {cl : List vw_C} {A : Nat → Prop} {a : Nat} {tys : List (ClassId × FieldType)} {ws : va_W}
/-- nine places of a static row copied into a row of ours -/
theorem va_copyT (hexec : p.tables.exec = Jvm.exec) (hb : c.code = cc) (hml : c.maxLocals = ls.size) {own : String} {index : Nat} (hown : s.vm.findClass own = some m.cls) (hlink : (Cond.methodLink own index arraycopyName).before args s = true) (hnat : (Cond.native arraycopyName).before args s = true) (hstat : (Cond.static arraycopyName).before args s = true) (hini : (Cond.initialized "java/lang/System").before args s = true)
    (hK : va_K D cl tys s) (hP : va_P D cl ws H) (hD : va_D A ws) (hS : va_S A s.heap H locs) {b0 : Nat} {f : Nat → Int32} (hT : va_T .int b0 9 (fun j => .int (f j)) A s s.heap) (q1 t1 : Nat) {c1 : ClassId} {g : Nat → Int32} (ha1 : ws[q1]? = some (a, .inl (c1, 9, .inl g))) (ht1 : tys[t1]? = some (c1, .int))
    {n : Int32} (h3 : n = 9) (hframes : 1 ≤ R.frames) (hlocals : (rest.map fun v => v.category).sum + (nativeFrameWords "java/lang/System" "arraycopy" 5 + 11) ≤ R.locals) (hdg : decode cc pc = .ok (.invokestatic index, 3))
    (kk : ∀ (H1 : Heap) (locs1 : List Loc), va_P D cl (ws.set q1 (a, .inl (c1, 9, .inl (va_cpy f g 0 0 9)))) H1 → va_D A (ws.set q1 (a, .inl (c1, 9, .inl (va_cpy f g 0 0 9)))) → va_S A s.heap H1 locs1 → W p l e R s m args below meth c H1 locs1 cells slots Q (F0 m (pc + 3) ls rest)) : W p l e R s m args below meth c H locs cells slots Q (F0 m pc ls (.int n :: .int 0 :: .ref a :: .int 0 :: .ref b0 :: rest)) := by
  subst h3
  intro T hT0 X
  obtain ⟨cell, h1, h2, h3, h4, h5, h6, h7⟩ := hT
  have hc0 : H[b0]? = some cell := by rw [hS.2.1 b0 (Array.getElem?_eq_some_iff.mp h1).1 h7]; exact h1
  have hc1 : H[a]? = some (vp_cell c1 (9, .inl g)) := hP q1 _ ha1
  obtain ⟨g1, k0, hk0, cm0, hkk0⟩ := h2
  obtain ⟨-, k1, hk1, cm1, hkk1⟩ := (hK.2 t1 _ ht1).1 9 (fun j => .int (g j))
  have z0 : (0 : Int32).toInt = 0 := by decide
  have z9 : (9 : Int32).toInt = 9 := by decide
  have y0 : (0 : Int32).toNatClampNeg = 0 := by decide
  have y9 : (9 : Int32).toNatClampNeg = 9 := by decide
  obtain ⟨vm', X', step⟩ := X.arraycopy hexec hown hlink hnat hstat hini (src := b0) (dst := a) (cs := cell) (cd := vp_cell c1 (9, .inl g)) (srcPos := 0) (destPos := 0) (n := 9) (by rw [hT0]; exact hc0) (by rw [hT0]; exact hc1)
    g1 (fun _ h => by cases h) h3 (fun h => by cases h) hk0 hk1 hkk0 hkk1 (by simp [refKind]) (by decide) (by decide) (by decide)
    (by rw [z0, z9]; omega)
    (by rw [z0, z9]; show ¬ _ > ((arrV c1 9 (fun j => .int (g j))).slots.size : Int); rw [arrV_size]; omega)
    (fun vm₁ _ i hi => by
      have e : cell.slots.getD ((0 : Int32).toNatClampNeg + i) .null = .int (f ((0 : Int32).toNatClampNeg + i)) := by
        rw [Array.getD_eq_getD_getElem?, h6 _ (by rw [y0]; rw [y9] at hi; omega)]
        rfl
      refine ⟨?_, ?_⟩
      · rw [e]
        rfl
      · rw [e]
        exact trivial)
    (g := F0 m pc ls (.int 9 :: .int 0 :: .ref a :: .int 0 :: .ref b0 :: rest)) rfl (by rw [hml]) (rest := rest) rfl (by rw [hb]; exact hdg) hframes (by show 2 * 0 + _ + _ ≤ _; omega)
  have e1 : copied cell (vp_cell c1 (9, .inl g)) 0 0 9 = vp_cell c1 (9, .inl (va_cpy f g 0 0 9)) := by
    have := va_copiedX (n0 := 9) (n1 := 9) (sp := 0) (dp := 0) (n := 9) (fun z => .int z) cell c1 f g h6 (by omega)
    unfold copied
    rw [y0, y9]
    exact this
  rw [e1] at X' step
  have hl : a < H.size := (Array.getElem?_eq_some_iff.mp hc1).1
  have hheap : ((T.setVm vm').setCell a (vp_cell c1 (9, .inl (va_cpy f g 0 0 9)))).heap = H.setIfInBounds a (vp_cell c1 (9, .inl (va_cpy f g 0 0 9))) := by rw [← hT0]; rfl
  have oq : ∀ q : Nat, q ≠ a → (H.setIfInBounds a (vp_cell c1 (9, .inl (va_cpy f g 0 0 9))))[q]? = H[q]? := fun q hq => by simp [Array.getElem?_setIfInBounds, Ne.symm hq]
  obtain ⟨t, a1, b1⟩ := kk _ _ (hP.set hD ha1 (show (H.setIfInBounds a _)[a]? = some _ by simp [Array.getElem?_setIfInBounds, hl]) oq) (hD.set ha1) ⟨by simp; exact hS.1, fun q g1 g2 => by
      rw [oq q (fun e => g2 (by rw [e]; exact hD.2 q1 _ ha1))]
      exact hS.2.1 q g1 g2, fun q hq => by
      rcases List.mem_append.mp hq with h | h
      · exact hS.2.2 q h
      · obtain ⟨z, -, hz⟩ := List.mem_map.mp h
        rw [← hz]
        exact hD.2 q1 _ ha1⟩ _ hheap X'
  exact ⟨t, step t a1, b1⟩
end CPT
def rm_X3_copyRowT : Room := { frames := 1, cells := 0, slots := 0, locals := 48 }
set_option maxHeartbeats 4000000 in
set_option maxRecDepth 100000 in
theorem c_X3_copyRowT (l : Launch) (dC : Nat → ClassId) (dI : Nat → Nat → Nat) (cI cZ cO : ClassId) (t0 a1 : Nat) (sz : Nat) (f g : Nat → Int32) : Met l yX3_copyRow wsX3_copyRow rm_X3_copyRowT (va_Pc [.ref t0, .ref a1] (fun U => wrW dC dI cI cZ cO sz [(a1, .inl (cI, 9, .inl g))] U ∧ va_T .int t0 9 (fun j => .int (f j)) (va_A [(a1, .inl (cI, 9, .inl g))] sz) U U.heap)) (va_Qv (fun (_ : Unit) => True) (wrE dC dI [(a1, .inl (cI, 9, .inl g))] sz [(a1, .inl (cI, 9, .inl (va_cpy f g 0 0 9)))]) (va_A [(a1, .inl (cI, 9, .inl g))] sz)) 0 0 (va_A [(a1, .inl (cI, 9, .inl g))] sz) := by
  refine Met.ofW (cc := cX3_copyRow) (maxL := 2) (ret := none) (by decide) rfl ?_
  intro p e s m args below meth c s₁ B hml hv
  obtain ⟨rfl, ⟨hsz, hP, hK, hN, hD0⟩, hT⟩ := hv
  have hx := B.exec
  have hb := B.bytes
  have hr := B.returns
  have hts := atoms_spec (ws := wsX3_copyRow) B.pre
  have hown : s.vm.findClass RX3 = some m.cls := findClass_of_methodNamed B.named
  have hlocks := B.notSynchronized
  subst hsz
  have hD := hD0.self (sz := s.heap.size)
  obtain ⟨Q, hQ⟩ : ∃ Q, Q = MQ below (va_Qv (fun (_ : Unit) => True) (wrE dC dI [(a1, .inl (cI, 9, .inl g))] s.heap.size [(a1, .inl (cI, 9, .inl (va_cpy f g 0 0 9)))]) (va_A [(a1, .inl (cI, 9, .inl g))] s.heap.size)) ([.ref t0, .ref a1] : List Value).toArray s 0 0 (va_A [(a1, .inl (cI, 9, .inl g))] s.heap.size) := ⟨_, rfl⟩
  rw [← hQ]
  obtain ⟨A, hAe⟩ : ∃ A, A = va_A [(a1, .inl (cI, 9, .inl g))] s.heap.size := ⟨_, rfl⟩
  rw [← hAe] at hD
  have hA : ∀ q : Nat, s.heap.size ≤ q → A q := fun q h => by rw [hAe]; exact Or.inr h
  obtain ⟨H, hH⟩ : ∃ H, H = s.heap := ⟨_, rfl⟩
  have hS : va_S A s.heap H [] := by rw [hH]; exact va_S.rf
  have hS0 : va_S (fun _ => False) s.heap H [] := by rw [hH]; exact va_S.rf
  rw [← hH] at hP
  rw [← hH]
  have hl := lv_entry ([.ref t0, .ref a1]) (n := 2) (Nat.le_of_ble_eq_true rfl)
  rw [lg_entry_eq]
  generalize (lg_sl ([.ref t0, .ref a1]) ++ List.replicate (2 - (lg_sl ([.ref t0, .ref a1])).length) Slot.unset).toArray = ls at hl ⊢
  have hl : lv_has ls 2 [(0, .ref t0), (1, .ref a1)] := hl
  rw [← hAe] at hT
  have ml250 := hts (.methodLink RX3 250 Lib.Math.min.name) (by decide +kernel)
  have ls_min := hts (.static Lib.Math.min.name) (by decide +kernel)
  have lmI := hts (.initialized "java/lang/Math") (by decide +kernel)
  have lc_min := hts (.code Lib.Math.min.name Lib.Math.min.code 2 (some .int)) (by decide +kernel)
  have ml255 := hts (.methodLink RX3 255 arraycopyName) (by decide +kernel)
  have acN := hts (.native arraycopyName) (by decide +kernel)
  have acS := hts (.static arraycopyName) (by decide +kernel)
  have acI := hts (.initialized "java/lang/System") (by decide +kernel)
  refine lv_aload_n hx hb dX3_copyRow_0 rfl (lv_at hl 0 rfl) ?_
  refine lv_iconst (v := (0 : Int32)) hx hb dX3_copyRow_1 (by decide) ?_
  refine lv_aload_n hx hb dX3_copyRow_2 rfl (lv_at hl 1 rfl) ?_
  refine lv_iconst (v := (0 : Int32)) hx hb dX3_copyRow_3 (by decide) ?_
  refine lv_aload_n hx hb dX3_copyRow_4 rfl (lv_at hl 0 rfl) ?_
  refine va_tlen hx hb hT (by rw [hH]; exact va_S.rf) (v := (9 : Int32)) rfl dX3_copyRow_5 ?_
  refine lv_aload_n hx hb dX3_copyRow_6 rfl (lv_at hl 1 rfl) ?_
  refine va_alen hx hb hK hP 0 0 rfl rfl (v := (9 : Int32)) rfl dX3_copyRow_7 ?_
  refine va_mmin hx hb (by rw [hml]; exact hl.1.symm) hown ml250 ls_min lmI lc_min (Nat.le_of_ble_eq_true rfl) (Nat.le_of_ble_eq_true rfl) (Nat.zero_le _) (Nat.zero_le _) dX3_copyRow_8 ?_
  refine va_copyT hx hb (by rw [hml]; exact hl.1.symm) hown ml255 acN acS acI hK hP hD hS hT 0 0 rfl rfl (by decide) (Nat.le_of_ble_eq_true rfl) (Nat.le_of_ble_eq_true rfl) dX3_copyRow_11 (fun H locs hP hD hS => ?_)
  have hP : va_P (dC, dI) vwCl [(a1, .inl (cI, 9, .inl (va_cpy f g 0 0 9)))] H := hP
  have hD : va_D A [(a1, .inl (cI, 9, .inl (va_cpy f g 0 0 9)))] := hD
  subst hQ
  subst hAe
  exact W.vret hx hb hr (fun t ht hW => ⟨⟨(), rfl, trivial, ⟨by rw [ht]; exact hP, hD⟩⟩, hS.F ht⟩) hS.2.2 dX3_copyRow_14
def rm_X3_init : Room := { frames := 4, cells := 154, slots := 9905, locals := 111 }
def XI (cI cZ cO : ClassId) (aX q1 q2 z3_1 z3_2 z3_3 z3_4 z3_5 q4 z5_1 z5_2 z5_3 z5_4 z5_5 z5_6 z5_7 z5_8 z5_9 z5_10 z5_11 q6 z7_1 z7_2 z7_3 z7_4 z7_5 z7_6 z7_7 z7_8 z7_9 z7_10 z7_11 q8 q9 q10 : Nat) (hf imf : Nat → Option Nat) : va_W := [(aX, .inr (3, [.ref q1, .int 0, .int 0, .int 0, .ref q2, .ref q4, .ref q6, .ref q8, .int 0, .ref q9, .ref q10])), (q1, .inl (cI, 140, .inl (fun _ => (0 : Int32)))), (q2, .inr (0, [.int 0, .int 0, .int 0, .int 0, .ref z3_1, .ref z3_2, .ref z3_3, .ref z3_4, .ref z3_5])), (z3_1, .inl (cI, 120, .inl (fun _ => (0 : Int32)))), (z3_2, .inl (cI, 120, .inl (fun _ => (0 : Int32)))), (z3_3, .inl (cI, 120, .inl (fun _ => (0 : Int32)))), (z3_4, .inl (cI, 120, .inl (fun _ => (0 : Int32)))), (z3_5, .inl (cI, 120, .inl (fun _ => (0 : Int32)))), (q4, .inr (1, [.ref z5_1, .ref z5_2, .ref z5_8, .ref z5_11, .int 0, .int 0, .int 0, .int 0, .int 0, .int 0, .int 0, .int 0, .int 0, .int 0, .int 0])), (z5_1, .inl (cI, 9, .inl (fun _ => (0 : Int32)))), (z5_2, .inr (0, [.int 0, .int 0, .int 0, .int 0, .ref z5_3, .ref z5_4, .ref z5_5, .ref z5_6, .ref z5_7])), (z5_3, .inl (cI, 120, .inl (fun _ => (0 : Int32)))), (z5_4, .inl (cI, 120, .inl (fun _ => (0 : Int32)))), (z5_5, .inl (cI, 120, .inl (fun _ => (0 : Int32)))), (z5_6, .inl (cI, 120, .inl (fun _ => (0 : Int32)))), (z5_7, .inl (cI, 120, .inl (fun _ => (0 : Int32)))), (z5_8, .inr (2, [.int 0, .ref z5_9, .ref z5_10])), (z5_9, .inl (cI, 61, .inl (fun _ => (0 : Int32)))), (z5_10, .inl (cI, 61, .inl (fun _ => (0 : Int32)))), (z5_11, .inl (cI, 4, .inl (fun _ => (0 : Int32)))), (q6, .inr (1, [.ref z7_1, .ref z7_2, .ref z7_8, .ref z7_11, .int 0, .int 0, .int 0, .int 0, .int 0, .int 0, .int 0, .int 0, .int 0, .int 0, .int 0])), (z7_1, .inl (cI, 9, .inl (fun _ => (0 : Int32)))), (z7_2, .inr (0, [.int 0, .int 0, .int 0, .int 0, .ref z7_3, .ref z7_4, .ref z7_5, .ref z7_6, .ref z7_7])), (z7_3, .inl (cI, 120, .inl (fun _ => (0 : Int32)))), (z7_4, .inl (cI, 120, .inl (fun _ => (0 : Int32)))), (z7_5, .inl (cI, 120, .inl (fun _ => (0 : Int32)))), (z7_6, .inl (cI, 120, .inl (fun _ => (0 : Int32)))), (z7_7, .inl (cI, 120, .inl (fun _ => (0 : Int32)))), (z7_8, .inr (2, [.int 0, .ref z7_9, .ref z7_10])), (z7_9, .inl (cI, 61, .inl (fun _ => (0 : Int32)))), (z7_10, .inl (cI, 61, .inl (fun _ => (0 : Int32)))), (z7_11, .inl (cI, 4, .inl (fun _ => (0 : Int32)))), (q8, .inl (cO, 8, .inr (.inr (.inr (.inr hf))))), (q9, .inl (cO, 2, .inr (.inr (.inr (.inr imf))))), (q10, .inl (cZ, 2, .inl (fun _ => (0 : Int32))))]
